noncomputable section
def icM (m : pLV) : Int32 := m 1 18 + m 1 21 + m 1 24 + m 1 27
theorem dX9_inChests_0 : decode cX9_inChests 0 = .ok (.aload_n 0, 1) := by decide +kernel
theorem dX9_inChests_1 : decode cX9_inChests 1 = .ok (.getfield 7, 3) := by decide +kernel
theorem dX9_inChests_4 : decode cX9_inChests 4 = .ok (.bipush 18, 2) := by decide +kernel
theorem dX9_inChests_6 : decode cX9_inChests 6 = .ok (.iaload, 1) := by decide +kernel
theorem dX9_inChests_7 : decode cX9_inChests 7 = .ok (.aload_n 0, 1) := by decide +kernel
theorem dX9_inChests_8 : decode cX9_inChests 8 = .ok (.getfield 7, 3) := by decide +kernel
theorem dX9_inChests_11 : decode cX9_inChests 11 = .ok (.bipush 21, 2) := by decide +kernel
theorem dX9_inChests_13 : decode cX9_inChests 13 = .ok (.iaload, 1) := by decide +kernel
theorem dX9_inChests_14 : decode cX9_inChests 14 = .ok (.iadd, 1) := by decide +kernel
theorem dX9_inChests_15 : decode cX9_inChests 15 = .ok (.aload_n 0, 1) := by decide +kernel
theorem dX9_inChests_16 : decode cX9_inChests 16 = .ok (.getfield 7, 3) := by decide +kernel
theorem dX9_inChests_19 : decode cX9_inChests 19 = .ok (.bipush 24, 2) := by decide +kernel
theorem dX9_inChests_21 : decode cX9_inChests 21 = .ok (.iaload, 1) := by decide +kernel
theorem dX9_inChests_22 : decode cX9_inChests 22 = .ok (.iadd, 1) := by decide +kernel
theorem dX9_inChests_23 : decode cX9_inChests 23 = .ok (.aload_n 0, 1) := by decide +kernel
theorem dX9_inChests_24 : decode cX9_inChests 24 = .ok (.getfield 7, 3) := by decide +kernel
theorem dX9_inChests_27 : decode cX9_inChests 27 = .ok (.bipush 27, 2) := by decide +kernel
theorem dX9_inChests_29 : decode cX9_inChests 29 = .ok (.iaload, 1) := by decide +kernel
theorem dX9_inChests_30 : decode cX9_inChests 30 = .ok (.iadd, 1) := by decide +kernel
theorem dX9_inChests_31 : decode cX9_inChests 31 = .ok (.ireturn, 1) := by decide +kernel
def k_X9_inChests : List pEn := [oAload 0, oGet 9 0, oConst (18), oIaldN 18, oAload 0, oGet 9 0, oConst (21), oIaldN 21, oAdd, oAload 0, oGet 9 0, oConst (24), oIaldN 24, oAdd, oAload 0, oGet 9 0, oConst (27), oIaldN 27, oAdd, oIret]
def pc_X9_inChests (i : Nat) : Nat := ([0, 1, 4, 6, 7, 8, 11, 13, 14, 15, 16, 19, 21, 22, 23, 24, 27, 29, 30, 31] : List Nat).getD i 0
abbrev rm_X9_inChests : Room := { frames := 0, cells := 0, slots := 0, locals := 0 }
theorem pl_X9_inChests : pPlain yX9_inChests 0 := by decide +kernel
set_option maxRecDepth 100000 in
set_option maxHeartbeats 4000000 in
theorem ok_k_X9_inChests (l : Launch) : ∀ (i : Nat) (en : pEn), k_X9_inChests[i]? = some en → EOK l cX9_inChests yX9_inChests.cls 1 ((some FieldType.int)) rm_X9_inChests 0 pc_X9_inChests i en := by
  refine allOK_at ?_
  refine And.intro (okAload_n dX9_inChests_0 rfl rfl) ?_
  refine And.intro (okGet (C := RX9) (T := TX9) (N := 22) dX9_inChests_1 rfl rfl (by decide) inX9 wm_3_141) ?_
  refine And.intro (okBipush dX9_inChests_4 rfl (by first | rfl | decide)) ?_
  refine And.intro (okIaldN dX9_inChests_6 rfl) ?_
  refine And.intro (okAload_n dX9_inChests_7 rfl rfl) ?_
  refine And.intro (okGet (C := RX9) (T := TX9) (N := 22) dX9_inChests_8 rfl rfl (by decide) inX9 wm_3_141) ?_
  refine And.intro (okBipush dX9_inChests_11 rfl (by first | rfl | decide)) ?_
  refine And.intro (okIaldN dX9_inChests_13 rfl) ?_
  refine And.intro (okAdd dX9_inChests_14 rfl) ?_
  refine And.intro (okAload_n dX9_inChests_15 rfl rfl) ?_
  refine And.intro (okGet (C := RX9) (T := TX9) (N := 22) dX9_inChests_16 rfl rfl (by decide) inX9 wm_3_141) ?_
  refine And.intro (okBipush dX9_inChests_19 rfl (by first | rfl | decide)) ?_
  refine And.intro (okIaldN dX9_inChests_21 rfl) ?_
  refine And.intro (okAdd dX9_inChests_22 rfl) ?_
  refine And.intro (okAload_n dX9_inChests_23 rfl rfl) ?_
  refine And.intro (okGet (C := RX9) (T := TX9) (N := 22) dX9_inChests_24 rfl rfl (by decide) inX9 wm_3_141) ?_
  refine And.intro (okBipush dX9_inChests_27 rfl (by first | rfl | decide)) ?_
  refine And.intro (okIaldN dX9_inChests_29 rfl) ?_
  refine And.intro (okAdd dX9_inChests_30 rfl) ?_
  refine And.intro (okIret dX9_inChests_31 rfl) ?_
  exact trivial
def G_X9_inChests : pG := fun args w => match args with
  | [.ref 0] => unM w (fun m => some (some (.int (icM m)), mdl (m)))
  | _ => none
set_option maxHeartbeats 400000 in
set_option maxRecDepth 100000 in
theorem run_X9_inChests (rg : pRg) (m : pLV)   : ∃ fu, ex k_X9_inChests fu 0 [(0, .ref 0)] [] (mdl m) rg = some (some (.int (icM m)), mdl (m), rg) := by
  refine ⟨60, ?_⟩
  rfl
theorem ct_X9_inChests (l : Launch) : ∀ args0 w0 v0 w1 rg, G_X9_inChests args0 w0 = some (v0, w1) → pCT l yX9_inChests (pWs yX9_inChests cX9_inChests 1 ((some FieldType.int))) rm_X9_inChests args0 w0 rg (v0, w1, rg) := by
  intro args0 w0 v0 w1 rg h
  unfold G_X9_inChests at h
  split at h
  next  =>
    obtain ⟨m, hw, h2⟩ := unM_some h
    clear h
    subst hw
    cases h2
    exact met_of_exM (by decide) (ok_k_X9_inChests l) rfl (run_X9_inChests rg m  ) (Nat.le_of_ble_eq_true rfl) rfl rfl
  next => cases h
def F_X9_inChests : pF := faN G_X9_inChests
theorem ok_F_X9_inChests (l : Launch) : pFOK l yX9_inChests (pWs yX9_inChests cX9_inChests 1 ((some FieldType.int))) rm_X9_inChests F_X9_inChests := pFOK_fa (fun a b c d rg h => ct_X9_inChests l a b c d rg h)
theorem rc_F_X9_inChests : pRcv 9 F_X9_inChests := pRcv_fa (fun a b c d h => by
  unfold G_X9_inChests at h
  split at h
  next =>
    obtain ⟨m, rfl, h⟩ := unM_some h
    exact ⟨_, _, _, rfl, rfl⟩
  next => cases h)
theorem cl_X9_inChests (m : pLV)  (rg : pRg) : F_X9_inChests [.ref 0] (mdl m) rg = some (some (.int (icM (NM m))), mdl ((NM m)), rg) := rfl
end
