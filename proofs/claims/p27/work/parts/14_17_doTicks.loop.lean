noncomputable section
def G_X5_doTicks : pG := fun args w => match args with
  | [.ref 0, .int n] => unL 0 w (fun v => some (some (.int (sumP (tickI n.toNatClampNeg v 2) 4 - sumP (v 2) 4)), loopCells 0 (tickI n.toNatClampNeg v)))
  | _ => none
set_option maxHeartbeats 400000 in
set_option maxRecDepth 100000 in
theorem run_X5_doTicks (rg : pRg) (v : pLV) (n : Int32) : ∃ fu, ex k_X5_doTicks fu 0 [(0, .ref 0), (1, .int n)] [] (loopCells 0 v) rg = some (some (.int (sumP (tickI n.toNatClampNeg v 2) 4 - sumP (v 2) 4)), loopCells 0 (tickI n.toNatClampNeg v), rg) := by
  have h := lp_ticks rg v n (sumP (v 2) 4) n.toNatClampNeg 0 (by omega)
  exact ex_at h (fun _ => rfl)
theorem ct_X5_doTicks (l : Launch) : ∀ args0 w0 v0 w1 rg, G_X5_doTicks args0 w0 = some (v0, w1) → pCT l yX5_doTicks (pWs yX5_doTicks cX5_doTicks 4 ((some FieldType.int))) rm_X5_doTicks args0 w0 rg (v0, w1, rg) := by
  intro args0 w0 v0 w1 rg h
  unfold G_X5_doTicks at h
  split at h
  next n =>
    obtain ⟨v, hw, h2⟩ := unL_some h
    clear h
    subst hw
    cases h2
    exact met_of_exL (by decide) (ok_k_X5_doTicks l) rfl (run_X5_doTicks rg v n) (Nat.le_of_ble_eq_true rfl) rfl rfl
  next => cases h
def Fb_X5_doTicks : pF := frN G_X5_doTicks
theorem ok_Fb_X5_doTicks (l : Launch) : pFOK l yX5_doTicks (pWs yX5_doTicks cX5_doTicks 4 ((some FieldType.int))) rm_X5_doTicks Fb_X5_doTicks := pFOK_fr (fun a b c d h => ct_X5_doTicks l a b c d rg00 h) (fun a b c d h => by
  unfold G_X5_doTicks at h
  split at h
  next =>
    obtain ⟨v, rfl, h⟩ := unL_some h
    exact Nat.le_of_ble_eq_true rfl
  next => cases h)
theorem rc_Fb_X5_doTicks : pRcv 5 Fb_X5_doTicks := pRcv_fr (fun a b c d h => by
  unfold G_X5_doTicks at h
  split at h
  next =>
    obtain ⟨v, rfl, h⟩ := unL_some h
    exact Nat.le_of_ble_eq_true rfl
  next => cases h) (fun a b c d h => by
  unfold G_X5_doTicks at h
  split at h
  next =>
    obtain ⟨v, rfl, h⟩ := unL_some h
    exact ⟨_, _, _, rfl, rfl⟩
  next => cases h)
end
