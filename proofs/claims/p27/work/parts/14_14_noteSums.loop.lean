noncomputable section
def smV (v : pLV) : pLV := vS (vS (vS (vS v 12 (mxI (v 0 12) (v 0 10 + v 0 11))) 15 (mxI (v 0 15) (v 0 13 + v 0 14))) 18 (mxI (v 0 18) (v 0 16 + v 0 17))) 21 (mxI (v 0 21) (v 0 19 + v 0 20))
theorem dX5_noteSums_0 : decode cX5_noteSums 0 = .ok (.aload_n 0, 1) := by decide +kernel
theorem dX5_noteSums_1 : decode cX5_noteSums 1 = .ok (.getfield 38, 3) := by decide +kernel
theorem dX5_noteSums_4 : decode cX5_noteSums 4 = .ok (.invokevirtual 211, 3) := by decide +kernel
theorem dX5_noteSums_7 : decode cX5_noteSums 7 = .ok (.aload_n 0, 1) := by decide +kernel
theorem dX5_noteSums_8 : decode cX5_noteSums 8 = .ok (.getfield 42, 3) := by decide +kernel
theorem dX5_noteSums_11 : decode cX5_noteSums 11 = .ok (.invokevirtual 211, 3) := by decide +kernel
theorem dX5_noteSums_14 : decode cX5_noteSums 14 = .ok (.aload_n 0, 1) := by decide +kernel
theorem dX5_noteSums_15 : decode cX5_noteSums 15 = .ok (.getfield 45, 3) := by decide +kernel
theorem dX5_noteSums_18 : decode cX5_noteSums 18 = .ok (.invokevirtual 211, 3) := by decide +kernel
theorem dX5_noteSums_21 : decode cX5_noteSums 21 = .ok (.aload_n 0, 1) := by decide +kernel
theorem dX5_noteSums_22 : decode cX5_noteSums 22 = .ok (.getfield 48, 3) := by decide +kernel
theorem dX5_noteSums_25 : decode cX5_noteSums 25 = .ok (.invokevirtual 211, 3) := by decide +kernel
theorem dX5_noteSums_28 : decode cX5_noteSums 28 = .ok (.return_, 1) := by decide +kernel
def k_X5_noteSums : List pEn := [oAload 0, oGet 5 7, oCall 1 F_X1_noteSum, oAload 0, oGet 5 8, oCall 1 F_X1_noteSum, oAload 0, oGet 5 9, oCall 1 F_X1_noteSum, oAload 0, oGet 5 10, oCall 1 F_X1_noteSum, oVret]
def pc_X5_noteSums (i : Nat) : Nat := ([0, 1, 4, 7, 8, 11, 14, 15, 18, 21, 22, 25, 28] : List Nat).getD i 0
abbrev rm_X5_noteSums : Room := { frames := 2, cells := 0, slots := 0, locals := 41 }
theorem pl_X5_noteSums : pPlain yX5_noteSums 0 := by decide +kernel
set_option maxRecDepth 100000 in
set_option maxHeartbeats 4000000 in
theorem ok_k_X5_noteSums (l : Launch) : ∀ (i : Nat) (en : pEn), k_X5_noteSums[i]? = some en → EOK l cX5_noteSums yX5_noteSums.cls 1 (none) rm_X5_noteSums 0 pc_X5_noteSums i en := by
  refine allOK_at ?_
  refine And.intro (okAload_n dX5_noteSums_0 rfl rfl) ?_
  refine And.intro (okGet (C := RX5) (T := TX5) (N := 15) dX5_noteSums_1 rfl rfl (by decide) inX5 wm_1_166) ?_
  refine And.intro (okCallV (y := yX1_noteSum) (T := TX1) (oCall_is _ _ _) dX5_noteSums_4 rfl (ok_F_X1_noteSum l) rc_F_X1_noteSum rfl wm_3_37 wm_3_38 wm_3_39 wm_1_3 wm_3_40 pl_X1_noteSum (by decide)) ?_
  refine And.intro (okAload_n dX5_noteSums_7 rfl rfl) ?_
  refine And.intro (okGet (C := RX5) (T := TX5) (N := 15) dX5_noteSums_8 rfl rfl (by decide) inX5 wm_1_167) ?_
  refine And.intro (okCallV (y := yX1_noteSum) (T := TX1) (oCall_is _ _ _) dX5_noteSums_11 rfl (ok_F_X1_noteSum l) rc_F_X1_noteSum rfl wm_3_37 wm_3_38 wm_3_39 wm_1_3 wm_3_40 pl_X1_noteSum (by decide)) ?_
  refine And.intro (okAload_n dX5_noteSums_14 rfl rfl) ?_
  refine And.intro (okGet (C := RX5) (T := TX5) (N := 15) dX5_noteSums_15 rfl rfl (by decide) inX5 wm_1_169) ?_
  refine And.intro (okCallV (y := yX1_noteSum) (T := TX1) (oCall_is _ _ _) dX5_noteSums_18 rfl (ok_F_X1_noteSum l) rc_F_X1_noteSum rfl wm_3_37 wm_3_38 wm_3_39 wm_1_3 wm_3_40 pl_X1_noteSum (by decide)) ?_
  refine And.intro (okAload_n dX5_noteSums_21 rfl rfl) ?_
  refine And.intro (okGet (C := RX5) (T := TX5) (N := 15) dX5_noteSums_22 rfl rfl (by decide) inX5 wm_1_170) ?_
  refine And.intro (okCallV (y := yX1_noteSum) (T := TX1) (oCall_is _ _ _) dX5_noteSums_25 rfl (ok_F_X1_noteSum l) rc_F_X1_noteSum rfl wm_3_37 wm_3_38 wm_3_39 wm_1_3 wm_3_40 pl_X1_noteSum (by decide)) ?_
  refine And.intro (okVret dX5_noteSums_28 rfl) ?_
  exact trivial
def G_X5_noteSums : pG := fun args w => match args with
  | [.ref 0] => unL 0 w (fun v => some (none, loopCells 0 (smV v)))
  | _ => none
set_option maxHeartbeats 400000 in
set_option maxRecDepth 100000 in
theorem run_X5_noteSums (rg : pRg) (v : pLV)  : ∃ fu, ex k_X5_noteSums fu 0 [(0, .ref 0)] [] (loopCells 0 v) rg = some (none, loopCells 0 (smV v), rg) := by
  refine ⟨60, ?_⟩
  rfl
theorem ct_X5_noteSums (l : Launch) : ∀ args0 w0 v0 w1 rg, G_X5_noteSums args0 w0 = some (v0, w1) → pCT l yX5_noteSums (pWs yX5_noteSums cX5_noteSums 1 (none)) rm_X5_noteSums args0 w0 rg (v0, w1, rg) := by
  intro args0 w0 v0 w1 rg h
  unfold G_X5_noteSums at h
  split at h
  next  =>
    obtain ⟨v, hw, h2⟩ := unL_some h
    clear h
    subst hw
    cases h2
    exact met_of_exL (by decide) (ok_k_X5_noteSums l) rfl (run_X5_noteSums rg v ) (Nat.le_of_ble_eq_true rfl) rfl rfl
  next => cases h
def F_X5_noteSums : pF := fz (faN G_X5_noteSums)
theorem ok_F_X5_noteSums (l : Launch) : pFOK l yX5_noteSums (pWs yX5_noteSums cX5_noteSums 1 (none)) rm_X5_noteSums F_X5_noteSums := pFOK_fz (pFOK_fa (fun a b c d rg h => ct_X5_noteSums l a b c d rg h))
theorem rc_F_X5_noteSums : pRcv 5 F_X5_noteSums := pRcv_fz (pRcv_fa (fun a b c d h => by
  unfold G_X5_noteSums at h
  split at h
  next =>
    obtain ⟨v, rfl, h⟩ := unL_some h
    exact ⟨_, _, _, rfl, rfl⟩
  next => cases h))
theorem cl_X5_noteSums (v : pLV)  (rg : pRg) : F_X5_noteSums [.ref 0] (loopCells 0 v) rg = some (none, loopCells 0 (smV (NL v)), rg) := (fz_eq _ _ _ _).trans rfl
end
