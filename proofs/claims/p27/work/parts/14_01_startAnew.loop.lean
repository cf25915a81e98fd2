noncomputable section
/-! THE LOOP -/
def startV (v : pLV) : pLV := vA (mkL [0, 0, 0, 0, 0, -9, 0, 0, 0, 0, 400, 9600, 0, 0, 0, 0, 0, 0, 0, 0, 0, 0, 0, 0, 0, 0, 0, 0, 0, v 0 29, v 0 30, v 0 31, v 0 32, v 0 33] (v 1) (v 2) (v 3) (v 4) (v 5) (v 6)) 2 (zr 4 (v 2))
theorem dX5_startAnew_0 : decode cX5_startAnew 0 = .ok (.aload_n 0, 1) := by decide +kernel
theorem dX5_startAnew_1 : decode cX5_startAnew 1 = .ok (.iconst 0, 1) := by decide +kernel
theorem dX5_startAnew_2 : decode cX5_startAnew 2 = .ok (.putfield 9, 3) := by decide +kernel
theorem dX5_startAnew_5 : decode cX5_startAnew 5 = .ok (.aload_n 0, 1) := by decide +kernel
theorem dX5_startAnew_6 : decode cX5_startAnew 6 = .ok (.iconst 0, 1) := by decide +kernel
theorem dX5_startAnew_7 : decode cX5_startAnew 7 = .ok (.putfield 15, 3) := by decide +kernel
theorem dX5_startAnew_10 : decode cX5_startAnew 10 = .ok (.aload_n 0, 1) := by decide +kernel
theorem dX5_startAnew_11 : decode cX5_startAnew 11 = .ok (.iconst 0, 1) := by decide +kernel
theorem dX5_startAnew_12 : decode cX5_startAnew 12 = .ok (.putfield 18, 3) := by decide +kernel
theorem dX5_startAnew_15 : decode cX5_startAnew 15 = .ok (.aload_n 0, 1) := by decide +kernel
theorem dX5_startAnew_16 : decode cX5_startAnew 16 = .ok (.iconst 0, 1) := by decide +kernel
theorem dX5_startAnew_17 : decode cX5_startAnew 17 = .ok (.putfield 21, 3) := by decide +kernel
theorem dX5_startAnew_20 : decode cX5_startAnew 20 = .ok (.aload_n 0, 1) := by decide +kernel
theorem dX5_startAnew_21 : decode cX5_startAnew 21 = .ok (.iconst 0, 1) := by decide +kernel
theorem dX5_startAnew_22 : decode cX5_startAnew 22 = .ok (.putfield 24, 3) := by decide +kernel
theorem dX5_startAnew_25 : decode cX5_startAnew 25 = .ok (.aload_n 0, 1) := by decide +kernel
theorem dX5_startAnew_26 : decode cX5_startAnew 26 = .ok (.bipush (-9), 2) := by decide +kernel
theorem dX5_startAnew_28 : decode cX5_startAnew 28 = .ok (.putfield 27, 3) := by decide +kernel
theorem dX5_startAnew_31 : decode cX5_startAnew 31 = .ok (.aload_n 0, 1) := by decide +kernel
theorem dX5_startAnew_32 : decode cX5_startAnew 32 = .ok (.iconst 0, 1) := by decide +kernel
theorem dX5_startAnew_33 : decode cX5_startAnew 33 = .ok (.putfield 30, 3) := by decide +kernel
theorem dX5_startAnew_36 : decode cX5_startAnew 36 = .ok (.aload_n 0, 1) := by decide +kernel
theorem dX5_startAnew_37 : decode cX5_startAnew 37 = .ok (.getfield 38, 3) := by decide +kernel
theorem dX5_startAnew_40 : decode cX5_startAnew 40 = .ok (.sipush 400, 3) := by decide +kernel
theorem dX5_startAnew_43 : decode cX5_startAnew 43 = .ok (.sipush 9600, 3) := by decide +kernel
theorem dX5_startAnew_46 : decode cX5_startAnew 46 = .ok (.invokevirtual 86, 3) := by decide +kernel
theorem dX5_startAnew_49 : decode cX5_startAnew 49 = .ok (.aload_n 0, 1) := by decide +kernel
theorem dX5_startAnew_50 : decode cX5_startAnew 50 = .ok (.getfield 42, 3) := by decide +kernel
theorem dX5_startAnew_53 : decode cX5_startAnew 53 = .ok (.iconst 0, 1) := by decide +kernel
theorem dX5_startAnew_54 : decode cX5_startAnew 54 = .ok (.iconst 0, 1) := by decide +kernel
theorem dX5_startAnew_55 : decode cX5_startAnew 55 = .ok (.invokevirtual 86, 3) := by decide +kernel
theorem dX5_startAnew_58 : decode cX5_startAnew 58 = .ok (.aload_n 0, 1) := by decide +kernel
theorem dX5_startAnew_59 : decode cX5_startAnew 59 = .ok (.getfield 45, 3) := by decide +kernel
theorem dX5_startAnew_62 : decode cX5_startAnew 62 = .ok (.iconst 0, 1) := by decide +kernel
theorem dX5_startAnew_63 : decode cX5_startAnew 63 = .ok (.iconst 0, 1) := by decide +kernel
theorem dX5_startAnew_64 : decode cX5_startAnew 64 = .ok (.invokevirtual 86, 3) := by decide +kernel
theorem dX5_startAnew_67 : decode cX5_startAnew 67 = .ok (.aload_n 0, 1) := by decide +kernel
theorem dX5_startAnew_68 : decode cX5_startAnew 68 = .ok (.getfield 48, 3) := by decide +kernel
theorem dX5_startAnew_71 : decode cX5_startAnew 71 = .ok (.iconst 0, 1) := by decide +kernel
theorem dX5_startAnew_72 : decode cX5_startAnew 72 = .ok (.iconst 0, 1) := by decide +kernel
theorem dX5_startAnew_73 : decode cX5_startAnew 73 = .ok (.invokevirtual 86, 3) := by decide +kernel
theorem dX5_startAnew_76 : decode cX5_startAnew 76 = .ok (.aload_n 0, 1) := by decide +kernel
theorem dX5_startAnew_77 : decode cX5_startAnew 77 = .ok (.getfield 54, 3) := by decide +kernel
theorem dX5_startAnew_80 : decode cX5_startAnew 80 = .ok (.invokevirtual 90, 3) := by decide +kernel
theorem dX5_startAnew_83 : decode cX5_startAnew 83 = .ok (.aload_n 0, 1) := by decide +kernel
theorem dX5_startAnew_84 : decode cX5_startAnew 84 = .ok (.getfield 61, 3) := by decide +kernel
theorem dX5_startAnew_87 : decode cX5_startAnew 87 = .ok (.invokevirtual 93, 3) := by decide +kernel
theorem dX5_startAnew_90 : decode cX5_startAnew 90 = .ok (.return_, 1) := by decide +kernel
def k_X5_startAnew : List pEn := [oAload 0, oConst (0), oPut 5 0, oAload 0, oConst (0), oPut 5 1, oAload 0, oConst (0), oPut 5 2, oAload 0, oConst (0), oPut 5 3, oAload 0, oConst (0), oPut 5 4, oAload 0, oConst (-9), oPut 5 5, oAload 0, oConst (0), oPut 5 6, oAload 0, oGet 5 7, oConst (400), oConst (9600), oCall 3 F_X1_startWith, oAload 0, oGet 5 8, oConst (0), oConst (0), oCall 3 F_X1_startWith, oAload 0, oGet 5 9, oConst (0), oConst (0), oCall 3 F_X1_startWith, oAload 0, oGet 5 10, oConst (0), oConst (0), oCall 3 F_X1_startWith, oAload 0, oGet 5 11, oCall 1 F_X0_clear, oAload 0, oGet 5 12, oCall 1 F_X2_clear, oVret]
def pc_X5_startAnew (i : Nat) : Nat := ([0, 1, 2, 5, 6, 7, 10, 11, 12, 15, 16, 17, 20, 21, 22, 25, 26, 28, 31, 32, 33, 36, 37, 40, 43, 46, 49, 50, 53, 54, 55, 58, 59, 62, 63, 64, 67, 68, 71, 72, 73, 76, 77, 80, 83, 84, 87, 90] : List Nat).getD i 0
abbrev rm_X5_startAnew : Room := { frames := 1, cells := 0, slots := 0, locals := 22 }
theorem pl_X5_startAnew : pPlain yX5_startAnew 0 := by decide +kernel
set_option maxRecDepth 100000 in
set_option maxHeartbeats 4000000 in
theorem ok_k_X5_startAnew (l : Launch) : ∀ (i : Nat) (en : pEn), k_X5_startAnew[i]? = some en → EOK l cX5_startAnew yX5_startAnew.cls 1 (none) rm_X5_startAnew 0 pc_X5_startAnew i en := by
  refine allOK_at ?_
  refine And.intro (okAload_n dX5_startAnew_0 rfl rfl) ?_
  refine And.intro (okIconst dX5_startAnew_1 rfl (by first | rfl | decide)) ?_
  refine And.intro (okPut (C := RX5) (T := TX5) (N := 15) dX5_startAnew_2 rfl rfl (by decide) inX5 tyX5_ok nmX5 rfl rfl wm_1_152) ?_
  refine And.intro (okAload_n dX5_startAnew_5 rfl rfl) ?_
  refine And.intro (okIconst dX5_startAnew_6 rfl (by first | rfl | decide)) ?_
  refine And.intro (okPut (C := RX5) (T := TX5) (N := 15) dX5_startAnew_7 rfl rfl (by decide) inX5 tyX5_ok nmX5 rfl rfl wm_1_154) ?_
  refine And.intro (okAload_n dX5_startAnew_10 rfl rfl) ?_
  refine And.intro (okIconst dX5_startAnew_11 rfl (by first | rfl | decide)) ?_
  refine And.intro (okPut (C := RX5) (T := TX5) (N := 15) dX5_startAnew_12 rfl rfl (by decide) inX5 tyX5_ok nmX5 rfl rfl wm_1_156) ?_
  refine And.intro (okAload_n dX5_startAnew_15 rfl rfl) ?_
  refine And.intro (okIconst dX5_startAnew_16 rfl (by first | rfl | decide)) ?_
  refine And.intro (okPut (C := RX5) (T := TX5) (N := 15) dX5_startAnew_17 rfl rfl (by decide) inX5 tyX5_ok nmX5 rfl rfl wm_1_158) ?_
  refine And.intro (okAload_n dX5_startAnew_20 rfl rfl) ?_
  refine And.intro (okIconst dX5_startAnew_21 rfl (by first | rfl | decide)) ?_
  refine And.intro (okPut (C := RX5) (T := TX5) (N := 15) dX5_startAnew_22 rfl rfl (by decide) inX5 tyX5_ok nmX5 rfl rfl wm_1_160) ?_
  refine And.intro (okAload_n dX5_startAnew_25 rfl rfl) ?_
  refine And.intro (okBipush dX5_startAnew_26 rfl (by first | rfl | decide)) ?_
  refine And.intro (okPut (C := RX5) (T := TX5) (N := 15) dX5_startAnew_28 rfl rfl (by decide) inX5 tyX5_ok nmX5 rfl rfl wm_1_162) ?_
  refine And.intro (okAload_n dX5_startAnew_31 rfl rfl) ?_
  refine And.intro (okIconst dX5_startAnew_32 rfl (by first | rfl | decide)) ?_
  refine And.intro (okPut (C := RX5) (T := TX5) (N := 15) dX5_startAnew_33 rfl rfl (by decide) inX5 tyX5_ok nmX5 rfl rfl wm_1_164) ?_
  refine And.intro (okAload_n dX5_startAnew_36 rfl rfl) ?_
  refine And.intro (okGet (C := RX5) (T := TX5) (N := 15) dX5_startAnew_37 rfl rfl (by decide) inX5 wm_1_166) ?_
  refine And.intro (okSipush dX5_startAnew_40 rfl (by first | rfl | decide)) ?_
  refine And.intro (okSipush dX5_startAnew_43 rfl (by first | rfl | decide)) ?_
  refine And.intro (okCallV (y := yX1_startWith) (T := TX1) (oCall_is _ _ _) dX5_startAnew_46 rfl (ok_F_X1_startWith l) rc_F_X1_startWith rfl wm_1_140 wm_1_141 wm_1_142 wm_1_3 wm_1_143 pl_X1_startWith (by decide)) ?_
  refine And.intro (okAload_n dX5_startAnew_49 rfl rfl) ?_
  refine And.intro (okGet (C := RX5) (T := TX5) (N := 15) dX5_startAnew_50 rfl rfl (by decide) inX5 wm_1_167) ?_
  refine And.intro (okIconst dX5_startAnew_53 rfl (by first | rfl | decide)) ?_
  refine And.intro (okIconst dX5_startAnew_54 rfl (by first | rfl | decide)) ?_
  refine And.intro (okCallV (y := yX1_startWith) (T := TX1) (oCall_is _ _ _) dX5_startAnew_55 rfl (ok_F_X1_startWith l) rc_F_X1_startWith rfl wm_1_140 wm_1_141 wm_1_142 wm_1_3 wm_1_143 pl_X1_startWith (by decide)) ?_
  refine And.intro (okAload_n dX5_startAnew_58 rfl rfl) ?_
  refine And.intro (okGet (C := RX5) (T := TX5) (N := 15) dX5_startAnew_59 rfl rfl (by decide) inX5 wm_1_169) ?_
  refine And.intro (okIconst dX5_startAnew_62 rfl (by first | rfl | decide)) ?_
  refine And.intro (okIconst dX5_startAnew_63 rfl (by first | rfl | decide)) ?_
  refine And.intro (okCallV (y := yX1_startWith) (T := TX1) (oCall_is _ _ _) dX5_startAnew_64 rfl (ok_F_X1_startWith l) rc_F_X1_startWith rfl wm_1_140 wm_1_141 wm_1_142 wm_1_3 wm_1_143 pl_X1_startWith (by decide)) ?_
  refine And.intro (okAload_n dX5_startAnew_67 rfl rfl) ?_
  refine And.intro (okGet (C := RX5) (T := TX5) (N := 15) dX5_startAnew_68 rfl rfl (by decide) inX5 wm_1_170) ?_
  refine And.intro (okIconst dX5_startAnew_71 rfl (by first | rfl | decide)) ?_
  refine And.intro (okIconst dX5_startAnew_72 rfl (by first | rfl | decide)) ?_
  refine And.intro (okCallV (y := yX1_startWith) (T := TX1) (oCall_is _ _ _) dX5_startAnew_73 rfl (ok_F_X1_startWith l) rc_F_X1_startWith rfl wm_1_140 wm_1_141 wm_1_142 wm_1_3 wm_1_143 pl_X1_startWith (by decide)) ?_
  refine And.intro (okAload_n dX5_startAnew_76 rfl rfl) ?_
  refine And.intro (okGet (C := RX5) (T := TX5) (N := 15) dX5_startAnew_77 rfl rfl (by decide) inX5 wm_1_172) ?_
  refine And.intro (okCallV (y := yX0_clear) (T := TX0) (oCall_is _ _ _) dX5_startAnew_80 rfl (ok_F_X0_clear l) rc_F_X0_clear rfl wm_1_144 wm_1_145 wm_1_146 wm_1_4 wm_1_147 pl_X0_clear (by decide)) ?_
  refine And.intro (okAload_n dX5_startAnew_83 rfl rfl) ?_
  refine And.intro (okGet (C := RX5) (T := TX5) (N := 15) dX5_startAnew_84 rfl rfl (by decide) inX5 wm_1_174) ?_
  refine And.intro (okCallV (y := yX2_clear) (T := TX2) (oCall_is _ _ _) dX5_startAnew_87 rfl (ok_F_X2_clear l) rc_F_X2_clear rfl wm_1_148 wm_1_149 wm_1_150 wm_1_5 wm_1_151 pl_X2_clear (by decide)) ?_
  refine And.intro (okVret dX5_startAnew_90 rfl) ?_
  exact trivial
def G_X5_startAnew : pG := fun args w => match args with
  | [.ref 0] => unL 0 w (fun v => some (none, loopCells 0 (startV v)))
  | _ => none
set_option maxHeartbeats 400000 in
set_option maxRecDepth 100000 in
theorem run_X5_startAnew (rg : pRg) (v : pLV)  : ∃ fu, ex k_X5_startAnew fu 0 [(0, .ref 0)] [] (loopCells 0 v) rg = some (none, loopCells 0 (startV v), rg) := by
  refine ⟨60, ?_⟩
  rfl
theorem ct_X5_startAnew (l : Launch) : ∀ args0 w0 v0 w1 rg, G_X5_startAnew args0 w0 = some (v0, w1) → pCT l yX5_startAnew (pWs yX5_startAnew cX5_startAnew 1 (none)) rm_X5_startAnew args0 w0 rg (v0, w1, rg) := by
  intro args0 w0 v0 w1 rg h
  unfold G_X5_startAnew at h
  split at h
  next  =>
    obtain ⟨v, hw, h2⟩ := unL_some h
    clear h
    subst hw
    cases h2
    exact met_of_exL (by decide) (ok_k_X5_startAnew l) rfl (run_X5_startAnew rg v ) (Nat.le_of_ble_eq_true rfl) rfl rfl
  next => cases h
def F_X5_startAnew : pF := fz (faN G_X5_startAnew)
theorem ok_F_X5_startAnew (l : Launch) : pFOK l yX5_startAnew (pWs yX5_startAnew cX5_startAnew 1 (none)) rm_X5_startAnew F_X5_startAnew := pFOK_fz (pFOK_fa (fun a b c d rg h => ct_X5_startAnew l a b c d rg h))
theorem rc_F_X5_startAnew : pRcv 5 F_X5_startAnew := pRcv_fz (pRcv_fa (fun a b c d h => by
  unfold G_X5_startAnew at h
  split at h
  next =>
    obtain ⟨v, rfl, h⟩ := unL_some h
    exact ⟨_, _, _, rfl, rfl⟩
  next => cases h))
theorem cl_X5_startAnew (v : pLV)  (rg : pRg) : F_X5_startAnew [.ref 0] (loopCells 0 v) rg = some (none, loopCells 0 (startV (NL v)), rg) := (fz_eq _ _ _ _).trans rfl
def Fb_X5_startAnew : pF := frN G_X5_startAnew
theorem ok_Fb_X5_startAnew (l : Launch) : pFOK l yX5_startAnew (pWs yX5_startAnew cX5_startAnew 1 (none)) rm_X5_startAnew Fb_X5_startAnew := pFOK_fr (fun a b c d h => ct_X5_startAnew l a b c d rg00 h) (fun a b c d h => by
  unfold G_X5_startAnew at h
  split at h
  next =>
    obtain ⟨v, rfl, h⟩ := unL_some h
    exact Nat.le_of_ble_eq_true rfl
  next => cases h)
theorem rc_Fb_X5_startAnew : pRcv 5 Fb_X5_startAnew := pRcv_fr (fun a b c d h => by
  unfold G_X5_startAnew at h
  split at h
  next =>
    obtain ⟨v, rfl, h⟩ := unL_some h
    exact Nat.le_of_ble_eq_true rfl
  next => cases h) (fun a b c d h => by
  unfold G_X5_startAnew at h
  split at h
  next =>
    obtain ⟨v, rfl, h⟩ := unL_some h
    exact ⟨_, _, _, rfl, rfl⟩
  next => cases h)
end
