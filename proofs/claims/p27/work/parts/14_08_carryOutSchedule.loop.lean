noncomputable section
def G_X5_carryOutSchedule : pG := fun args w => match args with
  | [.ref 0] => unL 0 w (fun v => some (none, loopCells 0 (cryV v)))
  | _ => none
set_option maxHeartbeats 400000 in
set_option maxRecDepth 100000 in
theorem run_X5_carryOutSchedule (rg : pRg) (v : pLV)  : ∃ fu, ex k_X5_carryOutSchedule fu 0 [(0, .ref 0)] [] (loopCells 0 v) rg = some (none, loopCells 0 (cryV v), rg) := by
  have h := lp_cry rg v (cryK v) 0 (by omega)
  exact ex_at h (fun _ => rfl)
theorem ct_X5_carryOutSchedule (l : Launch) : ∀ args0 w0 v0 w1 rg, G_X5_carryOutSchedule args0 w0 = some (v0, w1) → pCT l yX5_carryOutSchedule (pWs yX5_carryOutSchedule cX5_carryOutSchedule 2 (none)) rm_X5_carryOutSchedule args0 w0 rg (v0, w1, rg) := by
  intro args0 w0 v0 w1 rg h
  unfold G_X5_carryOutSchedule at h
  split at h
  next  =>
    obtain ⟨v, hw, h2⟩ := unL_some h
    clear h
    subst hw
    cases h2
    exact met_of_exL (by decide) (ok_k_X5_carryOutSchedule l) rfl (run_X5_carryOutSchedule rg v ) (Nat.le_of_ble_eq_true rfl) rfl rfl
  next => cases h
def F_X5_carryOutSchedule : pF := fz (faN G_X5_carryOutSchedule)
theorem ok_F_X5_carryOutSchedule (l : Launch) : pFOK l yX5_carryOutSchedule (pWs yX5_carryOutSchedule cX5_carryOutSchedule 2 (none)) rm_X5_carryOutSchedule F_X5_carryOutSchedule := pFOK_fz (pFOK_fa (fun a b c d rg h => ct_X5_carryOutSchedule l a b c d rg h))
theorem rc_F_X5_carryOutSchedule : pRcv 5 F_X5_carryOutSchedule := pRcv_fz (pRcv_fa (fun a b c d h => by
  unfold G_X5_carryOutSchedule at h
  split at h
  next =>
    obtain ⟨v, rfl, h⟩ := unL_some h
    exact ⟨_, _, _, rfl, rfl⟩
  next => cases h))
theorem cl_X5_carryOutSchedule (v : pLV)  (rg : pRg) : F_X5_carryOutSchedule [.ref 0] (loopCells 0 v) rg = some (none, loopCells 0 (cryV (NL v)), rg) := (fz_eq _ _ _ _).trans rfl
end
