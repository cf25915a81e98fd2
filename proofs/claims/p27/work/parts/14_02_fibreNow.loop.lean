noncomputable section
def fibV (v : pLV) : Int32 := v 0 10 + v 0 13 + v 0 16 + v 0 19
theorem dX5_fibreNow_0 : decode cX5_fibreNow 0 = .ok (.aload_n 0, 1) := by decide +kernel
theorem dX5_fibreNow_1 : decode cX5_fibreNow 1 = .ok (.getfield 38, 3) := by decide +kernel
theorem dX5_fibreNow_4 : decode cX5_fibreNow 4 = .ok (.getfield 107, 3) := by decide +kernel
theorem dX5_fibreNow_7 : decode cX5_fibreNow 7 = .ok (.aload_n 0, 1) := by decide +kernel
theorem dX5_fibreNow_8 : decode cX5_fibreNow 8 = .ok (.getfield 42, 3) := by decide +kernel
theorem dX5_fibreNow_11 : decode cX5_fibreNow 11 = .ok (.getfield 107, 3) := by decide +kernel
theorem dX5_fibreNow_14 : decode cX5_fibreNow 14 = .ok (.iadd, 1) := by decide +kernel
theorem dX5_fibreNow_15 : decode cX5_fibreNow 15 = .ok (.aload_n 0, 1) := by decide +kernel
theorem dX5_fibreNow_16 : decode cX5_fibreNow 16 = .ok (.getfield 45, 3) := by decide +kernel
theorem dX5_fibreNow_19 : decode cX5_fibreNow 19 = .ok (.getfield 107, 3) := by decide +kernel
theorem dX5_fibreNow_22 : decode cX5_fibreNow 22 = .ok (.iadd, 1) := by decide +kernel
theorem dX5_fibreNow_23 : decode cX5_fibreNow 23 = .ok (.aload_n 0, 1) := by decide +kernel
theorem dX5_fibreNow_24 : decode cX5_fibreNow 24 = .ok (.getfield 48, 3) := by decide +kernel
theorem dX5_fibreNow_27 : decode cX5_fibreNow 27 = .ok (.getfield 107, 3) := by decide +kernel
theorem dX5_fibreNow_30 : decode cX5_fibreNow 30 = .ok (.iadd, 1) := by decide +kernel
theorem dX5_fibreNow_31 : decode cX5_fibreNow 31 = .ok (.ireturn, 1) := by decide +kernel
def k_X5_fibreNow : List pEn := [oAload 0, oGet 5 7, oGet 1 1, oAload 0, oGet 5 8, oGet 1 1, oAdd, oAload 0, oGet 5 9, oGet 1 1, oAdd, oAload 0, oGet 5 10, oGet 1 1, oAdd, oIret]
def pc_X5_fibreNow (i : Nat) : Nat := ([0, 1, 4, 7, 8, 11, 14, 15, 16, 19, 22, 23, 24, 27, 30, 31] : List Nat).getD i 0
abbrev rm_X5_fibreNow : Room := { frames := 0, cells := 0, slots := 0, locals := 0 }
theorem pl_X5_fibreNow : pPlain yX5_fibreNow 0 := by decide +kernel
set_option maxRecDepth 100000 in
set_option maxHeartbeats 4000000 in
theorem ok_k_X5_fibreNow (l : Launch) : ∀ (i : Nat) (en : pEn), k_X5_fibreNow[i]? = some en → EOK l cX5_fibreNow yX5_fibreNow.cls 1 ((some FieldType.int)) rm_X5_fibreNow 0 pc_X5_fibreNow i en := by
  refine allOK_at ?_
  refine And.intro (okAload_n dX5_fibreNow_0 rfl rfl) ?_
  refine And.intro (okGet (C := RX5) (T := TX5) (N := 15) dX5_fibreNow_1 rfl rfl (by decide) inX5 wm_1_166) ?_
  refine And.intro (okGet (C := RX1) (T := TX1) (N := 4) dX5_fibreNow_4 rfl rfl (by decide) inX1 wm_1_34) ?_
  refine And.intro (okAload_n dX5_fibreNow_7 rfl rfl) ?_
  refine And.intro (okGet (C := RX5) (T := TX5) (N := 15) dX5_fibreNow_8 rfl rfl (by decide) inX5 wm_1_167) ?_
  refine And.intro (okGet (C := RX1) (T := TX1) (N := 4) dX5_fibreNow_11 rfl rfl (by decide) inX1 wm_1_34) ?_
  refine And.intro (okAdd dX5_fibreNow_14 rfl) ?_
  refine And.intro (okAload_n dX5_fibreNow_15 rfl rfl) ?_
  refine And.intro (okGet (C := RX5) (T := TX5) (N := 15) dX5_fibreNow_16 rfl rfl (by decide) inX5 wm_1_169) ?_
  refine And.intro (okGet (C := RX1) (T := TX1) (N := 4) dX5_fibreNow_19 rfl rfl (by decide) inX1 wm_1_34) ?_
  refine And.intro (okAdd dX5_fibreNow_22 rfl) ?_
  refine And.intro (okAload_n dX5_fibreNow_23 rfl rfl) ?_
  refine And.intro (okGet (C := RX5) (T := TX5) (N := 15) dX5_fibreNow_24 rfl rfl (by decide) inX5 wm_1_170) ?_
  refine And.intro (okGet (C := RX1) (T := TX1) (N := 4) dX5_fibreNow_27 rfl rfl (by decide) inX1 wm_1_34) ?_
  refine And.intro (okAdd dX5_fibreNow_30 rfl) ?_
  refine And.intro (okIret dX5_fibreNow_31 rfl) ?_
  exact trivial
def G_X5_fibreNow : pG := fun args w => match args with
  | [.ref 0] => unL 0 w (fun v => some (some (.int (fibV v)), loopCells 0 (v)))
  | _ => none
set_option maxHeartbeats 400000 in
set_option maxRecDepth 100000 in
theorem run_X5_fibreNow (rg : pRg) (v : pLV)  : ∃ fu, ex k_X5_fibreNow fu 0 [(0, .ref 0)] [] (loopCells 0 v) rg = some (some (.int (fibV v)), loopCells 0 (v), rg) := by
  refine ⟨60, ?_⟩
  rfl
theorem ct_X5_fibreNow (l : Launch) : ∀ args0 w0 v0 w1 rg, G_X5_fibreNow args0 w0 = some (v0, w1) → pCT l yX5_fibreNow (pWs yX5_fibreNow cX5_fibreNow 1 ((some FieldType.int))) rm_X5_fibreNow args0 w0 rg (v0, w1, rg) := by
  intro args0 w0 v0 w1 rg h
  unfold G_X5_fibreNow at h
  split at h
  next  =>
    obtain ⟨v, hw, h2⟩ := unL_some h
    clear h
    subst hw
    cases h2
    exact met_of_exL (by decide) (ok_k_X5_fibreNow l) rfl (run_X5_fibreNow rg v ) (Nat.le_of_ble_eq_true rfl) rfl rfl
  next => cases h
def F_X5_fibreNow : pF := fz (faN G_X5_fibreNow)
theorem ok_F_X5_fibreNow (l : Launch) : pFOK l yX5_fibreNow (pWs yX5_fibreNow cX5_fibreNow 1 ((some FieldType.int))) rm_X5_fibreNow F_X5_fibreNow := pFOK_fz (pFOK_fa (fun a b c d rg h => ct_X5_fibreNow l a b c d rg h))
theorem rc_F_X5_fibreNow : pRcv 5 F_X5_fibreNow := pRcv_fz (pRcv_fa (fun a b c d h => by
  unfold G_X5_fibreNow at h
  split at h
  next =>
    obtain ⟨v, rfl, h⟩ := unL_some h
    exact ⟨_, _, _, rfl, rfl⟩
  next => cases h))
theorem cl_X5_fibreNow (v : pLV)  (rg : pRg) : F_X5_fibreNow [.ref 0] (loopCells 0 v) rg = some (some (.int (fibV (NL v))), loopCells 0 ((NL v)), rg) := (fz_eq _ _ _ _).trans rfl
def Fb_X5_fibreNow : pF := frN G_X5_fibreNow
theorem ok_Fb_X5_fibreNow (l : Launch) : pFOK l yX5_fibreNow (pWs yX5_fibreNow cX5_fibreNow 1 ((some FieldType.int))) rm_X5_fibreNow Fb_X5_fibreNow := pFOK_fr (fun a b c d h => ct_X5_fibreNow l a b c d rg00 h) (fun a b c d h => by
  unfold G_X5_fibreNow at h
  split at h
  next =>
    obtain ⟨v, rfl, h⟩ := unL_some h
    exact Nat.le_of_ble_eq_true rfl
  next => cases h)
theorem rc_Fb_X5_fibreNow : pRcv 5 Fb_X5_fibreNow := pRcv_fr (fun a b c d h => by
  unfold G_X5_fibreNow at h
  split at h
  next =>
    obtain ⟨v, rfl, h⟩ := unL_some h
    exact Nat.le_of_ble_eq_true rfl
  next => cases h) (fun a b c d h => by
  unfold G_X5_fibreNow at h
  split at h
  next =>
    obtain ⟨v, rfl, h⟩ := unL_some h
    exact ⟨_, _, _, rfl, rfl⟩
  next => cases h)
end
