noncomputable section
def brkV (v : pLV) (t : Int32) : pLV := vS v 2 (mxI (v 0 2) t)
theorem dX5_breakSheet_0 : decode cX5_breakSheet 0 = .ok (.aload_n 0, 1) := by decide +kernel
theorem dX5_breakSheet_1 : decode cX5_breakSheet 1 = .ok (.aload_n 0, 1) := by decide +kernel
theorem dX5_breakSheet_2 : decode cX5_breakSheet 2 = .ok (.getfield 18, 3) := by decide +kernel
theorem dX5_breakSheet_5 : decode cX5_breakSheet 5 = .ok (.iload_n 1, 1) := by decide +kernel
theorem dX5_breakSheet_6 : decode cX5_breakSheet 6 = .ok (.invokestatic 110, 3) := by decide +kernel
theorem dX5_breakSheet_9 : decode cX5_breakSheet 9 = .ok (.putfield 18, 3) := by decide +kernel
theorem dX5_breakSheet_12 : decode cX5_breakSheet 12 = .ok (.return_, 1) := by decide +kernel
def k_X5_breakSheet : List pEn := [oAload 0, oAload 0, oGet 5 2, oIload 1, oMax, oPut 5 2, oVret]
def pc_X5_breakSheet (i : Nat) : Nat := ([0, 1, 2, 5, 6, 9, 12] : List Nat).getD i 0
abbrev rm_X5_breakSheet : Room := { frames := 1, cells := 0, slots := 0, locals := 21 }
theorem pl_X5_breakSheet : pPlain yX5_breakSheet 1 := by decide +kernel
set_option maxRecDepth 100000 in
set_option maxHeartbeats 4000000 in
theorem ok_k_X5_breakSheet (l : Launch) : ∀ (i : Nat) (en : pEn), k_X5_breakSheet[i]? = some en → EOK l cX5_breakSheet yX5_breakSheet.cls 2 (none) rm_X5_breakSheet 0 pc_X5_breakSheet i en := by
  refine allOK_at ?_
  refine And.intro (okAload_n dX5_breakSheet_0 rfl rfl) ?_
  refine And.intro (okAload_n dX5_breakSheet_1 rfl rfl) ?_
  refine And.intro (okGet (C := RX5) (T := TX5) (N := 15) dX5_breakSheet_2 rfl rfl (by decide) inX5 wm_1_156) ?_
  refine And.intro (okIload_n dX5_breakSheet_5 rfl rfl) ?_
  refine And.intro (okMax dX5_breakSheet_6 rfl wm_2_114 wm_2_115 wm_1_11 wm_2_116 (by decide) (by decide)) ?_
  refine And.intro (okPut (C := RX5) (T := TX5) (N := 15) dX5_breakSheet_9 rfl rfl (by decide) inX5 tyX5_ok nmX5 rfl rfl wm_1_156) ?_
  refine And.intro (okVret dX5_breakSheet_12 rfl) ?_
  exact trivial
def G_X5_breakSheet : pG := fun args w => match args with
  | [.ref 0, .int t] => unL 0 w (fun v => some (none, loopCells 0 (brkV v t)))
  | _ => none
set_option maxHeartbeats 400000 in
set_option maxRecDepth 100000 in
theorem run_X5_breakSheet (rg : pRg) (v : pLV) (t : Int32) : ∃ fu, ex k_X5_breakSheet fu 0 [(0, .ref 0), (1, .int t)] [] (loopCells 0 v) rg = some (none, loopCells 0 (brkV v t), rg) := by
  refine ⟨60, ?_⟩
  rfl
theorem ct_X5_breakSheet (l : Launch) : ∀ args0 w0 v0 w1 rg, G_X5_breakSheet args0 w0 = some (v0, w1) → pCT l yX5_breakSheet (pWs yX5_breakSheet cX5_breakSheet 2 (none)) rm_X5_breakSheet args0 w0 rg (v0, w1, rg) := by
  intro args0 w0 v0 w1 rg h
  unfold G_X5_breakSheet at h
  split at h
  next t =>
    obtain ⟨v, hw, h2⟩ := unL_some h
    clear h
    subst hw
    cases h2
    exact met_of_exL (by decide) (ok_k_X5_breakSheet l) rfl (run_X5_breakSheet rg v t) (Nat.le_of_ble_eq_true rfl) rfl rfl
  next => cases h
def F_X5_breakSheet : pF := fz (faN G_X5_breakSheet)
theorem ok_F_X5_breakSheet (l : Launch) : pFOK l yX5_breakSheet (pWs yX5_breakSheet cX5_breakSheet 2 (none)) rm_X5_breakSheet F_X5_breakSheet := pFOK_fz (pFOK_fa (fun a b c d rg h => ct_X5_breakSheet l a b c d rg h))
theorem rc_F_X5_breakSheet : pRcv 5 F_X5_breakSheet := pRcv_fz (pRcv_fa (fun a b c d h => by
  unfold G_X5_breakSheet at h
  split at h
  next =>
    obtain ⟨v, rfl, h⟩ := unL_some h
    exact ⟨_, _, _, rfl, rfl⟩
  next => cases h))
theorem cl_X5_breakSheet (v : pLV) (t : Int32) (rg : pRg) : F_X5_breakSheet [.ref 0, .int t] (loopCells 0 v) rg = some (none, loopCells 0 (brkV (NL v) t), rg) := (fz_eq _ _ _ _).trans rfl
def Fb_X5_breakSheet : pF := frN G_X5_breakSheet
theorem ok_Fb_X5_breakSheet (l : Launch) : pFOK l yX5_breakSheet (pWs yX5_breakSheet cX5_breakSheet 2 (none)) rm_X5_breakSheet Fb_X5_breakSheet := pFOK_fr (fun a b c d h => ct_X5_breakSheet l a b c d rg00 h) (fun a b c d h => by
  unfold G_X5_breakSheet at h
  split at h
  next =>
    obtain ⟨v, rfl, h⟩ := unL_some h
    exact Nat.le_of_ble_eq_true rfl
  next => cases h)
theorem rc_Fb_X5_breakSheet : pRcv 5 Fb_X5_breakSheet := pRcv_fr (fun a b c d h => by
  unfold G_X5_breakSheet at h
  split at h
  next =>
    obtain ⟨v, rfl, h⟩ := unL_some h
    exact Nat.le_of_ble_eq_true rfl
  next => cases h) (fun a b c d h => by
  unfold G_X5_breakSheet at h
  split at h
  next =>
    obtain ⟨v, rfl, h⟩ := unL_some h
    exact ⟨_, _, _, rfl, rfl⟩
  next => cases h)
end
