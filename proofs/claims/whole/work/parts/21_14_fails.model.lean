noncomputable section
def faM (m : pLV) (k p : Int32) : pLV := vS (vS m 15 k) 16 p
theorem dX9_fails_0 : decode cX9_fails 0 = .ok (.aload_n 0, 1) := by decide +kernel
theorem dX9_fails_1 : decode cX9_fails 1 = .ok (.iload_n 1, 1) := by decide +kernel
theorem dX9_fails_2 : decode cX9_fails 2 = .ok (.putfield 98, 3) := by decide +kernel
theorem dX9_fails_5 : decode cX9_fails 5 = .ok (.aload_n 0, 1) := by decide +kernel
theorem dX9_fails_6 : decode cX9_fails 6 = .ok (.iload_n 2, 1) := by decide +kernel
theorem dX9_fails_7 : decode cX9_fails 7 = .ok (.putfield 101, 3) := by decide +kernel
theorem dX9_fails_10 : decode cX9_fails 10 = .ok (.return_, 1) := by decide +kernel
def k_X9_fails : List pEn := [oAload 0, oIload 1, oPut 9 15, oAload 0, oIload 2, oPut 9 16, oVret]
def pc_X9_fails (i : Nat) : Nat := ([0, 1, 2, 5, 6, 7, 10] : List Nat).getD i 0
abbrev rm_X9_fails : Room := { frames := 0, cells := 0, slots := 0, locals := 0 }
theorem pl_X9_fails : pPlain yX9_fails 2 := by decide +kernel
set_option maxRecDepth 100000 in
set_option maxHeartbeats 4000000 in
theorem ok_k_X9_fails (l : Launch) : ∀ (i : Nat) (en : pEn), k_X9_fails[i]? = some en → EOK l cX9_fails yX9_fails.cls 3 (none) rm_X9_fails 0 pc_X9_fails i en := by
  refine allOK_at ?_
  refine And.intro (okAload_n dX9_fails_0 rfl rfl) ?_
  refine And.intro (okIload_n dX9_fails_1 rfl rfl) ?_
  refine And.intro (okPut (C := RX9) (T := TX9) (N := 22) dX9_fails_2 rfl rfl (by decide) inX9 tyX9_ok nmX9 rfl rfl wm_3_156) ?_
  refine And.intro (okAload_n dX9_fails_5 rfl rfl) ?_
  refine And.intro (okIload_n dX9_fails_6 rfl rfl) ?_
  refine And.intro (okPut (C := RX9) (T := TX9) (N := 22) dX9_fails_7 rfl rfl (by decide) inX9 tyX9_ok nmX9 rfl rfl wm_3_157) ?_
  refine And.intro (okVret dX9_fails_10 rfl) ?_
  exact trivial
def G_X9_fails : pG := fun args w => match args with
  | [.ref 0, .int k, .int p] => unM w (fun m => some (none, mdl (faM m k p)))
  | _ => none
set_option maxHeartbeats 400000 in
set_option maxRecDepth 100000 in
theorem run_X9_fails (rg : pRg) (m : pLV) (k p : Int32)  : ∃ fu, ex k_X9_fails fu 0 [(0, .ref 0), (1, .int k), (2, .int p)] [] (mdl m) rg = some (none, mdl (faM m k p), rg) := by
  refine ⟨60, ?_⟩
  rfl
theorem ct_X9_fails (l : Launch) : ∀ args0 w0 v0 w1 rg, G_X9_fails args0 w0 = some (v0, w1) → pCT l yX9_fails (pWs yX9_fails cX9_fails 3 (none)) rm_X9_fails args0 w0 rg (v0, w1, rg) := by
  intro args0 w0 v0 w1 rg h
  unfold G_X9_fails at h
  split at h
  next k p =>
    obtain ⟨m, hw, h2⟩ := unM_some h
    clear h
    subst hw
    cases h2
    exact met_of_exM (by decide) (ok_k_X9_fails l) rfl (run_X9_fails rg m k p ) (Nat.le_of_ble_eq_true rfl) rfl rfl
  next => cases h
def F_X9_fails : pF := faN G_X9_fails
theorem ok_F_X9_fails (l : Launch) : pFOK l yX9_fails (pWs yX9_fails cX9_fails 3 (none)) rm_X9_fails F_X9_fails := pFOK_fa (fun a b c d rg h => ct_X9_fails l a b c d rg h)
theorem rc_F_X9_fails : pRcv 9 F_X9_fails := pRcv_fa (fun a b c d h => by
  unfold G_X9_fails at h
  split at h
  next =>
    obtain ⟨m, rfl, h⟩ := unM_some h
    exact ⟨_, _, _, rfl, rfl⟩
  next => cases h)
theorem cl_X9_fails (m : pLV) (k p : Int32) (rg : pRg) : F_X9_fails [.ref 0, .int k, .int p] (mdl m) rg = some (none, mdl (faM (NM m) k p), rg) := rfl
end
