noncomputable section
def apM (m : pLV) : Int32 := m 1 35 + m 1 36 + m 1 37 + m 1 38
theorem dX9_allPaper_0 : decode cX9_allPaper 0 = .ok (.aload_n 0, 1) := by decide +kernel
theorem dX9_allPaper_1 : decode cX9_allPaper 1 = .ok (.getfield 7, 3) := by decide +kernel
theorem dX9_allPaper_4 : decode cX9_allPaper 4 = .ok (.bipush 35, 2) := by decide +kernel
theorem dX9_allPaper_6 : decode cX9_allPaper 6 = .ok (.iaload, 1) := by decide +kernel
theorem dX9_allPaper_7 : decode cX9_allPaper 7 = .ok (.aload_n 0, 1) := by decide +kernel
theorem dX9_allPaper_8 : decode cX9_allPaper 8 = .ok (.getfield 7, 3) := by decide +kernel
theorem dX9_allPaper_11 : decode cX9_allPaper 11 = .ok (.bipush 36, 2) := by decide +kernel
theorem dX9_allPaper_13 : decode cX9_allPaper 13 = .ok (.iaload, 1) := by decide +kernel
theorem dX9_allPaper_14 : decode cX9_allPaper 14 = .ok (.iadd, 1) := by decide +kernel
theorem dX9_allPaper_15 : decode cX9_allPaper 15 = .ok (.aload_n 0, 1) := by decide +kernel
theorem dX9_allPaper_16 : decode cX9_allPaper 16 = .ok (.getfield 7, 3) := by decide +kernel
theorem dX9_allPaper_19 : decode cX9_allPaper 19 = .ok (.bipush 37, 2) := by decide +kernel
theorem dX9_allPaper_21 : decode cX9_allPaper 21 = .ok (.iaload, 1) := by decide +kernel
theorem dX9_allPaper_22 : decode cX9_allPaper 22 = .ok (.iadd, 1) := by decide +kernel
theorem dX9_allPaper_23 : decode cX9_allPaper 23 = .ok (.aload_n 0, 1) := by decide +kernel
theorem dX9_allPaper_24 : decode cX9_allPaper 24 = .ok (.getfield 7, 3) := by decide +kernel
theorem dX9_allPaper_27 : decode cX9_allPaper 27 = .ok (.bipush 38, 2) := by decide +kernel
theorem dX9_allPaper_29 : decode cX9_allPaper 29 = .ok (.iaload, 1) := by decide +kernel
theorem dX9_allPaper_30 : decode cX9_allPaper 30 = .ok (.iadd, 1) := by decide +kernel
theorem dX9_allPaper_31 : decode cX9_allPaper 31 = .ok (.ireturn, 1) := by decide +kernel
def k_X9_allPaper : List pEn := [oAload 0, oGet 9 0, oConst (35), oIaldN 35, oAload 0, oGet 9 0, oConst (36), oIaldN 36, oAdd, oAload 0, oGet 9 0, oConst (37), oIaldN 37, oAdd, oAload 0, oGet 9 0, oConst (38), oIaldN 38, oAdd, oIret]
def pc_X9_allPaper (i : Nat) : Nat := ([0, 1, 4, 6, 7, 8, 11, 13, 14, 15, 16, 19, 21, 22, 23, 24, 27, 29, 30, 31] : List Nat).getD i 0
abbrev rm_X9_allPaper : Room := { frames := 0, cells := 0, slots := 0, locals := 0 }
theorem pl_X9_allPaper : pPlain yX9_allPaper 0 := by decide +kernel
set_option maxRecDepth 100000 in
set_option maxHeartbeats 4000000 in
theorem ok_k_X9_allPaper (l : Launch) : ∀ (i : Nat) (en : pEn), k_X9_allPaper[i]? = some en → EOK l cX9_allPaper yX9_allPaper.cls 1 ((some FieldType.int)) rm_X9_allPaper 0 pc_X9_allPaper i en := by
  refine allOK_at ?_
  refine And.intro (okAload_n dX9_allPaper_0 rfl rfl) ?_
  refine And.intro (okGet (C := RX9) (T := TX9) (N := 22) dX9_allPaper_1 rfl rfl (by decide) inX9 wm_3_141) ?_
  refine And.intro (okBipush dX9_allPaper_4 rfl (by first | rfl | decide)) ?_
  refine And.intro (okIaldN dX9_allPaper_6 rfl) ?_
  refine And.intro (okAload_n dX9_allPaper_7 rfl rfl) ?_
  refine And.intro (okGet (C := RX9) (T := TX9) (N := 22) dX9_allPaper_8 rfl rfl (by decide) inX9 wm_3_141) ?_
  refine And.intro (okBipush dX9_allPaper_11 rfl (by first | rfl | decide)) ?_
  refine And.intro (okIaldN dX9_allPaper_13 rfl) ?_
  refine And.intro (okAdd dX9_allPaper_14 rfl) ?_
  refine And.intro (okAload_n dX9_allPaper_15 rfl rfl) ?_
  refine And.intro (okGet (C := RX9) (T := TX9) (N := 22) dX9_allPaper_16 rfl rfl (by decide) inX9 wm_3_141) ?_
  refine And.intro (okBipush dX9_allPaper_19 rfl (by first | rfl | decide)) ?_
  refine And.intro (okIaldN dX9_allPaper_21 rfl) ?_
  refine And.intro (okAdd dX9_allPaper_22 rfl) ?_
  refine And.intro (okAload_n dX9_allPaper_23 rfl rfl) ?_
  refine And.intro (okGet (C := RX9) (T := TX9) (N := 22) dX9_allPaper_24 rfl rfl (by decide) inX9 wm_3_141) ?_
  refine And.intro (okBipush dX9_allPaper_27 rfl (by first | rfl | decide)) ?_
  refine And.intro (okIaldN dX9_allPaper_29 rfl) ?_
  refine And.intro (okAdd dX9_allPaper_30 rfl) ?_
  refine And.intro (okIret dX9_allPaper_31 rfl) ?_
  exact trivial
def G_X9_allPaper : pG := fun args w => match args with
  | [.ref 0] => unM w (fun m => some (some (.int (apM m)), mdl (m)))
  | _ => none
set_option maxHeartbeats 400000 in
set_option maxRecDepth 100000 in
theorem run_X9_allPaper (rg : pRg) (m : pLV)   : ∃ fu, ex k_X9_allPaper fu 0 [(0, .ref 0)] [] (mdl m) rg = some (some (.int (apM m)), mdl (m), rg) := by
  refine ⟨60, ?_⟩
  rfl
theorem ct_X9_allPaper (l : Launch) : ∀ args0 w0 v0 w1 rg, G_X9_allPaper args0 w0 = some (v0, w1) → pCT l yX9_allPaper (pWs yX9_allPaper cX9_allPaper 1 ((some FieldType.int))) rm_X9_allPaper args0 w0 rg (v0, w1, rg) := by
  intro args0 w0 v0 w1 rg h
  unfold G_X9_allPaper at h
  split at h
  next  =>
    obtain ⟨m, hw, h2⟩ := unM_some h
    clear h
    subst hw
    cases h2
    exact met_of_exM (by decide) (ok_k_X9_allPaper l) rfl (run_X9_allPaper rg m  ) (Nat.le_of_ble_eq_true rfl) rfl rfl
  next => cases h
def F_X9_allPaper : pF := faN G_X9_allPaper
theorem ok_F_X9_allPaper (l : Launch) : pFOK l yX9_allPaper (pWs yX9_allPaper cX9_allPaper 1 ((some FieldType.int))) rm_X9_allPaper F_X9_allPaper := pFOK_fa (fun a b c d rg h => ct_X9_allPaper l a b c d rg h)
theorem rc_F_X9_allPaper : pRcv 9 F_X9_allPaper := pRcv_fa (fun a b c d h => by
  unfold G_X9_allPaper at h
  split at h
  next =>
    obtain ⟨m, rfl, h⟩ := unM_some h
    exact ⟨_, _, _, rfl, rfl⟩
  next => cases h)
theorem cl_X9_allPaper (m : pLV)  (rg : pRg) : F_X9_allPaper [.ref 0] (mdl m) rg = some (some (.int (apM (NM m))), mdl ((NM m)), rg) := rfl
end
