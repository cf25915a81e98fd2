noncomputable section
def wipM (m : pLV) : pLV := vS m 6 0
theorem dX9_wipe_0 : decode cX9_wipe 0 = .ok (.aload_n 0, 1) := by decide +kernel
theorem dX9_wipe_1 : decode cX9_wipe 1 = .ok (.getfield 132, 3) := by decide +kernel
theorem dX9_wipe_4 : decode cX9_wipe 4 = .ok (.istore_n 1, 1) := by decide +kernel
theorem dX9_wipe_5 : decode cX9_wipe 5 = .ok (.aload_n 0, 1) := by decide +kernel
theorem dX9_wipe_6 : decode cX9_wipe 6 = .ok (.iconst 0, 1) := by decide +kernel
theorem dX9_wipe_7 : decode cX9_wipe 7 = .ok (.putfield 132, 3) := by decide +kernel
theorem dX9_wipe_10 : decode cX9_wipe 10 = .ok (.iload_n 1, 1) := by decide +kernel
theorem dX9_wipe_11 : decode cX9_wipe 11 = .ok (.ireturn, 1) := by decide +kernel
def k_X9_wipe : List pEn := [oAload 0, oGet 9 6, oIstore 1, oAload 0, oConst (0), oPut 9 6, oIload 1, oIret]
def pc_X9_wipe (i : Nat) : Nat := ([0, 1, 4, 5, 6, 7, 10, 11] : List Nat).getD i 0
abbrev rm_X9_wipe : Room := { frames := 0, cells := 0, slots := 0, locals := 0 }
theorem pl_X9_wipe : pPlain yX9_wipe 0 := by decide +kernel
set_option maxRecDepth 100000 in
set_option maxHeartbeats 4000000 in
theorem ok_k_X9_wipe (l : Launch) : ∀ (i : Nat) (en : pEn), k_X9_wipe[i]? = some en → EOK l cX9_wipe yX9_wipe.cls 2 ((some FieldType.int)) rm_X9_wipe 0 pc_X9_wipe i en := by
  refine allOK_at ?_
  refine And.intro (okAload_n dX9_wipe_0 rfl rfl) ?_
  refine And.intro (okGet (C := RX9) (T := TX9) (N := 22) dX9_wipe_1 rfl rfl (by decide) inX9 wm_3_147) ?_
  refine And.intro (okIstore_n dX9_wipe_4 rfl rfl (by decide)) ?_
  refine And.intro (okAload_n dX9_wipe_5 rfl rfl) ?_
  refine And.intro (okIconst dX9_wipe_6 rfl (by first | rfl | decide)) ?_
  refine And.intro (okPut (C := RX9) (T := TX9) (N := 22) dX9_wipe_7 rfl rfl (by decide) inX9 tyX9_ok nmX9 rfl rfl wm_3_147) ?_
  refine And.intro (okIload_n dX9_wipe_10 rfl rfl) ?_
  refine And.intro (okIret dX9_wipe_11 rfl) ?_
  exact trivial
def G_X9_wipe : pG := fun args w => match args with
  | [.ref 0] => unM w (fun m => some (some (.int (m 0 6)), mdl (wipM m)))
  | _ => none
set_option maxHeartbeats 400000 in
set_option maxRecDepth 100000 in
theorem run_X9_wipe (rg : pRg) (m : pLV)   : ∃ fu, ex k_X9_wipe fu 0 [(0, .ref 0)] [] (mdl m) rg = some (some (.int (m 0 6)), mdl (wipM m), rg) := by
  refine ⟨60, ?_⟩
  rfl
theorem ct_X9_wipe (l : Launch) : ∀ args0 w0 v0 w1 rg, G_X9_wipe args0 w0 = some (v0, w1) → pCT l yX9_wipe (pWs yX9_wipe cX9_wipe 2 ((some FieldType.int))) rm_X9_wipe args0 w0 rg (v0, w1, rg) := by
  intro args0 w0 v0 w1 rg h
  unfold G_X9_wipe at h
  split at h
  next  =>
    obtain ⟨m, hw, h2⟩ := unM_some h
    clear h
    subst hw
    cases h2
    exact met_of_exM (by decide) (ok_k_X9_wipe l) rfl (run_X9_wipe rg m  ) (Nat.le_of_ble_eq_true rfl) rfl rfl
  next => cases h
def F_X9_wipe : pF := faN G_X9_wipe
theorem ok_F_X9_wipe (l : Launch) : pFOK l yX9_wipe (pWs yX9_wipe cX9_wipe 2 ((some FieldType.int))) rm_X9_wipe F_X9_wipe := pFOK_fa (fun a b c d rg h => ct_X9_wipe l a b c d rg h)
theorem rc_F_X9_wipe : pRcv 9 F_X9_wipe := pRcv_fa (fun a b c d h => by
  unfold G_X9_wipe at h
  split at h
  next =>
    obtain ⟨m, rfl, h⟩ := unM_some h
    exact ⟨_, _, _, rfl, rfl⟩
  next => cases h)
theorem cl_X9_wipe (m : pLV)  (rg : pRg) : F_X9_wipe [.ref 0] (mdl m) rg = some (some (.int ((NM m) 0 6)), mdl (wipM (NM m)), rg) := rfl
end
