noncomputable section
def mxD (v : pLV) : Int32 := mnI (v 1 2) (v 0 32 - v 0 16 - v 0 17)
def mxW (v : pLV) : Int32 := if v 0 4 = v 0 1 then mxD v * v 1 3 / 1000 else 0
def mxB (v : pLV) (w : Int32) : Int32 := mnI w (v 0 13 + v 0 14)
def mxP (v : pLV) (w : Int32) : Int32 := mnI (mxD v - mxB v w) (v 0 10 + v 0 11)
def mxT (v : pLV) (w : Int32) : pLV := vS (vS (vS (vS v 13 (v 0 13 - tkR (v 0 13) (v 0 14) (mxB v w))) 14 (tkG (v 0 13) (v 0 14) (mxB v w))) 10 (v 0 10 - tkR (v 0 10) (v 0 11) (mxP v w))) 11 (tkG (v 0 10) (v 0 11) (mxP v w))
def mxF (v : pLV) (w : Int32) : Int32 := tkR (v 0 13) (v 0 14) (mxB v w) + tkR (v 0 10) (v 0 11) (mxP v w)
def mxU (v : pLV) (w : Int32) : pLV := pourV 2 (NL (mxT v w)) (mxF v w) (mxB v w + mxP v w - mxF v w)
def mixU (v : pLV) (w : Int32) : pLV := vS (NL (mxU v w)) 5 (rsnV (NL (mxU v w)) (mxD v) w (mxB v w))
def mixV (v : pLV) : pLV := mixU v (mxW v)
theorem dX5_feedMixing_0 : decode cX5_feedMixing 0 = .ok (.aload_n 0, 1) := by decide +kernel
theorem dX5_feedMixing_1 : decode cX5_feedMixing 1 = .ok (.getfield 72, 3) := by decide +kernel
theorem dX5_feedMixing_4 : decode cX5_feedMixing 4 = .ok (.iconst 2, 1) := by decide +kernel
theorem dX5_feedMixing_5 : decode cX5_feedMixing 5 = .ok (.iaload, 1) := by decide +kernel
theorem dX5_feedMixing_6 : decode cX5_feedMixing 6 = .ok (.aload_n 0, 1) := by decide +kernel
theorem dX5_feedMixing_7 : decode cX5_feedMixing 7 = .ok (.getfield 45, 3) := by decide +kernel
theorem dX5_feedMixing_10 : decode cX5_feedMixing 10 = .ok (.invokevirtual 183, 3) := by decide +kernel
theorem dX5_feedMixing_13 : decode cX5_feedMixing 13 = .ok (.invokestatic 186, 3) := by decide +kernel
theorem dX5_feedMixing_16 : decode cX5_feedMixing 16 = .ok (.istore_n 1, 1) := by decide +kernel
theorem dX5_feedMixing_17 : decode cX5_feedMixing 17 = .ok (.aload_n 0, 1) := by decide +kernel
theorem dX5_feedMixing_18 : decode cX5_feedMixing 18 = .ok (.getfield 24, 3) := by decide +kernel
theorem dX5_feedMixing_21 : decode cX5_feedMixing 21 = .ok (.aload_n 0, 1) := by decide +kernel
theorem dX5_feedMixing_22 : decode cX5_feedMixing 22 = .ok (.getfield 15, 3) := by decide +kernel
theorem dX5_feedMixing_25 : decode cX5_feedMixing 25 = .ok (.if_icmp .ne 18, 3) := by decide +kernel
theorem dX5_feedMixing_28 : decode cX5_feedMixing 28 = .ok (.iload_n 1, 1) := by decide +kernel
theorem dX5_feedMixing_29 : decode cX5_feedMixing 29 = .ok (.aload_n 0, 1) := by decide +kernel
theorem dX5_feedMixing_30 : decode cX5_feedMixing 30 = .ok (.getfield 72, 3) := by decide +kernel
theorem dX5_feedMixing_33 : decode cX5_feedMixing 33 = .ok (.iconst 3, 1) := by decide +kernel
theorem dX5_feedMixing_34 : decode cX5_feedMixing 34 = .ok (.iaload, 1) := by decide +kernel
theorem dX5_feedMixing_35 : decode cX5_feedMixing 35 = .ok (.imul, 1) := by decide +kernel
theorem dX5_feedMixing_36 : decode cX5_feedMixing 36 = .ok (.sipush 1000, 3) := by decide +kernel
theorem dX5_feedMixing_39 : decode cX5_feedMixing 39 = .ok (.idiv, 1) := by decide +kernel
theorem dX5_feedMixing_40 : decode cX5_feedMixing 40 = .ok (.goto 4, 3) := by decide +kernel
theorem dX5_feedMixing_43 : decode cX5_feedMixing 43 = .ok (.iconst 0, 1) := by decide +kernel
theorem dX5_feedMixing_44 : decode cX5_feedMixing 44 = .ok (.istore_n 2, 1) := by decide +kernel
theorem dX5_feedMixing_45 : decode cX5_feedMixing 45 = .ok (.aload_n 0, 1) := by decide +kernel
theorem dX5_feedMixing_46 : decode cX5_feedMixing 46 = .ok (.getfield 42, 3) := by decide +kernel
theorem dX5_feedMixing_49 : decode cX5_feedMixing 49 = .ok (.iload_n 2, 1) := by decide +kernel
theorem dX5_feedMixing_50 : decode cX5_feedMixing 50 = .ok (.invokevirtual 189, 3) := by decide +kernel
theorem dX5_feedMixing_53 : decode cX5_feedMixing 53 = .ok (.istore_n 3, 1) := by decide +kernel
theorem dX5_feedMixing_54 : decode cX5_feedMixing 54 = .ok (.aload_n 0, 1) := by decide +kernel
theorem dX5_feedMixing_55 : decode cX5_feedMixing 55 = .ok (.getfield 38, 3) := by decide +kernel
theorem dX5_feedMixing_58 : decode cX5_feedMixing 58 = .ok (.iload_n 1, 1) := by decide +kernel
theorem dX5_feedMixing_59 : decode cX5_feedMixing 59 = .ok (.iload_n 3, 1) := by decide +kernel
theorem dX5_feedMixing_60 : decode cX5_feedMixing 60 = .ok (.isub, 1) := by decide +kernel
theorem dX5_feedMixing_61 : decode cX5_feedMixing 61 = .ok (.invokevirtual 189, 3) := by decide +kernel
theorem dX5_feedMixing_64 : decode cX5_feedMixing 64 = .ok (.istore 4, 2) := by decide +kernel
theorem dX5_feedMixing_66 : decode cX5_feedMixing 66 = .ok (.aload_n 0, 1) := by decide +kernel
theorem dX5_feedMixing_67 : decode cX5_feedMixing 67 = .ok (.getfield 42, 3) := by decide +kernel
theorem dX5_feedMixing_70 : decode cX5_feedMixing 70 = .ok (.iload_n 3, 1) := by decide +kernel
theorem dX5_feedMixing_71 : decode cX5_feedMixing 71 = .ok (.invokevirtual 193, 3) := by decide +kernel
theorem dX5_feedMixing_74 : decode cX5_feedMixing 74 = .ok (.aload_n 0, 1) := by decide +kernel
theorem dX5_feedMixing_75 : decode cX5_feedMixing 75 = .ok (.getfield 38, 3) := by decide +kernel
theorem dX5_feedMixing_78 : decode cX5_feedMixing 78 = .ok (.iload 4, 2) := by decide +kernel
theorem dX5_feedMixing_80 : decode cX5_feedMixing 80 = .ok (.invokevirtual 193, 3) := by decide +kernel
theorem dX5_feedMixing_83 : decode cX5_feedMixing 83 = .ok (.iadd, 1) := by decide +kernel
theorem dX5_feedMixing_84 : decode cX5_feedMixing 84 = .ok (.istore 5, 2) := by decide +kernel
theorem dX5_feedMixing_86 : decode cX5_feedMixing 86 = .ok (.aload_n 0, 1) := by decide +kernel
theorem dX5_feedMixing_87 : decode cX5_feedMixing 87 = .ok (.aload_n 0, 1) := by decide +kernel
theorem dX5_feedMixing_88 : decode cX5_feedMixing 88 = .ok (.getfield 45, 3) := by decide +kernel
theorem dX5_feedMixing_91 : decode cX5_feedMixing 91 = .ok (.iload 5, 2) := by decide +kernel
theorem dX5_feedMixing_93 : decode cX5_feedMixing 93 = .ok (.iload_n 3, 1) := by decide +kernel
theorem dX5_feedMixing_94 : decode cX5_feedMixing 94 = .ok (.iload 4, 2) := by decide +kernel
theorem dX5_feedMixing_96 : decode cX5_feedMixing 96 = .ok (.iadd, 1) := by decide +kernel
theorem dX5_feedMixing_97 : decode cX5_feedMixing 97 = .ok (.iload 5, 2) := by decide +kernel
theorem dX5_feedMixing_99 : decode cX5_feedMixing 99 = .ok (.isub, 1) := by decide +kernel
theorem dX5_feedMixing_100 : decode cX5_feedMixing 100 = .ok (.invokevirtual 136, 3) := by decide +kernel
theorem dX5_feedMixing_103 : decode cX5_feedMixing 103 = .ok (.pop, 1) := by decide +kernel
theorem dX5_feedMixing_104 : decode cX5_feedMixing 104 = .ok (.aload_n 0, 1) := by decide +kernel
theorem dX5_feedMixing_105 : decode cX5_feedMixing 105 = .ok (.aload_n 0, 1) := by decide +kernel
theorem dX5_feedMixing_106 : decode cX5_feedMixing 106 = .ok (.iload_n 1, 1) := by decide +kernel
theorem dX5_feedMixing_107 : decode cX5_feedMixing 107 = .ok (.iload_n 2, 1) := by decide +kernel
theorem dX5_feedMixing_108 : decode cX5_feedMixing 108 = .ok (.iload_n 3, 1) := by decide +kernel
theorem dX5_feedMixing_109 : decode cX5_feedMixing 109 = .ok (.invokevirtual 196, 3) := by decide +kernel
theorem dX5_feedMixing_112 : decode cX5_feedMixing 112 = .ok (.putfield 27, 3) := by decide +kernel
theorem dX5_feedMixing_115 : decode cX5_feedMixing 115 = .ok (.return_, 1) := by decide +kernel
def k_X5_feedMixing : List pEn := [oAload 0, oGet 5 14, oConst (2), oIaldN 2, oAload 0, oGet 5 9, oCall 1 F_X1_missing, oMin, oIstore 1, oAload 0, oGet 5 4, oAload 0, oGet 5 1, oCne 23, oIload 1, oAload 0, oGet 5 14, oConst (3), oIaldN 3, oMul, oConst (1000), oDivL, oGoto 24, oConst (0), oIstore 2, oAload 0, oGet 5 8, oIload 2, oCall 2 F_X1_there, oIstore 3, oAload 0, oGet 5 7, oIload 1, oIload 3, oSub, oCall 2 F_X1_there, oIstore 4, oAload 0, oGet 5 8, oIload 3, oCall 2 F_X1_takeOut, oAload 0, oGet 5 7, oIload 4, oCall 2 F_X1_takeOut, oAdd, oIstore 5, oAload 0, oAload 0, oGet 5 9, oIload 5, oIload 3, oIload 4, oAdd, oIload 5, oSub, oCallZ 4 F_X5_pour, oPop, oAload 0, oAload 0, oIload 1, oIload 2, oIload 3, oCallZ 4 F_X5_reasonOf, oPut 5 5, oVret]
def pc_X5_feedMixing (i : Nat) : Nat := ([0, 1, 4, 5, 6, 7, 10, 13, 16, 17, 18, 21, 22, 25, 28, 29, 30, 33, 34, 35, 36, 39, 40, 43, 44, 45, 46, 49, 50, 53, 54, 55, 58, 59, 60, 61, 64, 66, 67, 70, 71, 74, 75, 78, 80, 83, 84, 86, 87, 88, 91, 93, 94, 96, 97, 99, 100, 103, 104, 105, 106, 107, 108, 109, 112, 115] : List Nat).getD i 0
abbrev rm_X5_feedMixing : Room := { frames := 3, cells := 0, slots := 0, locals := 70 }
theorem pl_X5_feedMixing : pPlain yX5_feedMixing 0 := by decide +kernel
set_option maxRecDepth 100000 in
set_option maxHeartbeats 4000000 in
theorem ok_k_X5_feedMixing (l : Launch) : ∀ (i : Nat) (en : pEn), k_X5_feedMixing[i]? = some en → EOK l cX5_feedMixing yX5_feedMixing.cls 6 (none) rm_X5_feedMixing 0 pc_X5_feedMixing i en := by
  refine allOK_at ?_
  refine And.intro (okAload_n dX5_feedMixing_0 rfl rfl) ?_
  refine And.intro (okGet (C := RX5) (T := TX5) (N := 15) dX5_feedMixing_1 rfl rfl (by decide) inX5 wm_1_178) ?_
  refine And.intro (okIconst dX5_feedMixing_4 rfl (by first | rfl | decide)) ?_
  refine And.intro (okIaldN dX5_feedMixing_5 rfl) ?_
  refine And.intro (okAload_n dX5_feedMixing_6 rfl rfl) ?_
  refine And.intro (okGet (C := RX5) (T := TX5) (N := 15) dX5_feedMixing_7 rfl rfl (by decide) inX5 wm_1_169) ?_
  refine And.intro (okCallV (y := yX1_missing) (T := TX1) (oCall_is _ _ _) dX5_feedMixing_10 rfl (ok_F_X1_missing l) rc_F_X1_missing rfl wm_2_236 wm_2_237 wm_2_238 wm_1_3 wm_2_239 pl_X1_missing (by decide)) ?_
  refine And.intro (okMin dX5_feedMixing_13 rfl wm_3_0 wm_2_95 wm_1_11 wm_2_96 (by decide) (by decide)) ?_
  refine And.intro (okIstore_n dX5_feedMixing_16 rfl rfl (by decide)) ?_
  refine And.intro (okAload_n dX5_feedMixing_17 rfl rfl) ?_
  refine And.intro (okGet (C := RX5) (T := TX5) (N := 15) dX5_feedMixing_18 rfl rfl (by decide) inX5 wm_1_160) ?_
  refine And.intro (okAload_n dX5_feedMixing_21 rfl rfl) ?_
  refine And.intro (okGet (C := RX5) (T := TX5) (N := 15) dX5_feedMixing_22 rfl rfl (by decide) inX5 wm_1_154) ?_
  refine And.intro (okCne dX5_feedMixing_25 rfl (by rfl)) ?_
  refine And.intro (okIload_n dX5_feedMixing_28 rfl rfl) ?_
  refine And.intro (okAload_n dX5_feedMixing_29 rfl rfl) ?_
  refine And.intro (okGet (C := RX5) (T := TX5) (N := 15) dX5_feedMixing_30 rfl rfl (by decide) inX5 wm_1_178) ?_
  refine And.intro (okIconst dX5_feedMixing_33 rfl (by first | rfl | decide)) ?_
  refine And.intro (okIaldN dX5_feedMixing_34 rfl) ?_
  refine And.intro (okMul dX5_feedMixing_35 rfl) ?_
  refine And.intro (okSipush dX5_feedMixing_36 rfl (by first | rfl | decide)) ?_
  refine And.intro (okDivL dX5_feedMixing_39 rfl) ?_
  refine And.intro (okGoto dX5_feedMixing_40 (by rfl)) ?_
  refine And.intro (okIconst dX5_feedMixing_43 rfl (by first | rfl | decide)) ?_
  refine And.intro (okIstore_n dX5_feedMixing_44 rfl rfl (by decide)) ?_
  refine And.intro (okAload_n dX5_feedMixing_45 rfl rfl) ?_
  refine And.intro (okGet (C := RX5) (T := TX5) (N := 15) dX5_feedMixing_46 rfl rfl (by decide) inX5 wm_1_167) ?_
  refine And.intro (okIload_n dX5_feedMixing_49 rfl rfl) ?_
  refine And.intro (okCallV (y := yX1_there) (T := TX1) (oCall_is _ _ _) dX5_feedMixing_50 rfl (ok_F_X1_there l) rc_F_X1_there rfl wm_3_1 wm_2_151 wm_2_152 wm_1_3 wm_2_153 pl_X1_there (by decide)) ?_
  refine And.intro (okIstore_n dX5_feedMixing_53 rfl rfl (by decide)) ?_
  refine And.intro (okAload_n dX5_feedMixing_54 rfl rfl) ?_
  refine And.intro (okGet (C := RX5) (T := TX5) (N := 15) dX5_feedMixing_55 rfl rfl (by decide) inX5 wm_1_166) ?_
  refine And.intro (okIload_n dX5_feedMixing_58 rfl rfl) ?_
  refine And.intro (okIload_n dX5_feedMixing_59 rfl rfl) ?_
  refine And.intro (okSub dX5_feedMixing_60 rfl) ?_
  refine And.intro (okCallV (y := yX1_there) (T := TX1) (oCall_is _ _ _) dX5_feedMixing_61 rfl (ok_F_X1_there l) rc_F_X1_there rfl wm_3_1 wm_2_151 wm_2_152 wm_1_3 wm_2_153 pl_X1_there (by decide)) ?_
  refine And.intro (okIstore dX5_feedMixing_64 rfl (by decide)) ?_
  refine And.intro (okAload_n dX5_feedMixing_66 rfl rfl) ?_
  refine And.intro (okGet (C := RX5) (T := TX5) (N := 15) dX5_feedMixing_67 rfl rfl (by decide) inX5 wm_1_167) ?_
  refine And.intro (okIload_n dX5_feedMixing_70 rfl rfl) ?_
  refine And.intro (okCallV (y := yX1_takeOut) (T := TX1) (oCall_is _ _ _) dX5_feedMixing_71 rfl (ok_F_X1_takeOut l) rc_F_X1_takeOut rfl wm_3_2 wm_2_143 wm_2_144 wm_1_3 wm_2_145 pl_X1_takeOut (by decide)) ?_
  refine And.intro (okAload_n dX5_feedMixing_74 rfl rfl) ?_
  refine And.intro (okGet (C := RX5) (T := TX5) (N := 15) dX5_feedMixing_75 rfl rfl (by decide) inX5 wm_1_166) ?_
  refine And.intro (okIload dX5_feedMixing_78 rfl) ?_
  refine And.intro (okCallV (y := yX1_takeOut) (T := TX1) (oCall_is _ _ _) dX5_feedMixing_80 rfl (ok_F_X1_takeOut l) rc_F_X1_takeOut rfl wm_3_2 wm_2_143 wm_2_144 wm_1_3 wm_2_145 pl_X1_takeOut (by decide)) ?_
  refine And.intro (okAdd dX5_feedMixing_83 rfl) ?_
  refine And.intro (okIstore dX5_feedMixing_84 rfl (by decide)) ?_
  refine And.intro (okAload_n dX5_feedMixing_86 rfl rfl) ?_
  refine And.intro (okAload_n dX5_feedMixing_87 rfl rfl) ?_
  refine And.intro (okGet (C := RX5) (T := TX5) (N := 15) dX5_feedMixing_88 rfl rfl (by decide) inX5 wm_1_169) ?_
  refine And.intro (okIload dX5_feedMixing_91 rfl) ?_
  refine And.intro (okIload_n dX5_feedMixing_93 rfl rfl) ?_
  refine And.intro (okIload dX5_feedMixing_94 rfl) ?_
  refine And.intro (okAdd dX5_feedMixing_96 rfl) ?_
  refine And.intro (okIload dX5_feedMixing_97 rfl) ?_
  refine And.intro (okSub dX5_feedMixing_99 rfl) ?_
  refine And.intro (okCallV (y := yX5_pour) (T := TX5) (oCallZ_is _ _ _) dX5_feedMixing_100 rfl (ok_F_X5_pour l) rc_F_X5_pour rfl wm_2_231 wm_2_135 wm_2_136 wm_1_2 wm_2_137 pl_X5_pour (by decide)) ?_
  refine And.intro (okPop dX5_feedMixing_103 rfl) ?_
  refine And.intro (okAload_n dX5_feedMixing_104 rfl rfl) ?_
  refine And.intro (okAload_n dX5_feedMixing_105 rfl rfl) ?_
  refine And.intro (okIload_n dX5_feedMixing_106 rfl rfl) ?_
  refine And.intro (okIload_n dX5_feedMixing_107 rfl rfl) ?_
  refine And.intro (okIload_n dX5_feedMixing_108 rfl rfl) ?_
  refine And.intro (okCallV (y := yX5_reasonOf) (T := TX5) (oCallZ_is _ _ _) dX5_feedMixing_109 rfl (ok_F_X5_reasonOf l) rc_F_X5_reasonOf rfl wm_3_3 wm_3_5 wp_9 wm_1_2 wm_3_6 pl_X5_reasonOf (by decide)) ?_
  refine And.intro (okPut (C := RX5) (T := TX5) (N := 15) dX5_feedMixing_112 rfl rfl (by decide) inX5 tyX5_ok nmX5 rfl rfl wm_1_162) ?_
  refine And.intro (okVret dX5_feedMixing_115 rfl) ?_
  exact trivial
def G_X5_feedMixing : pG := fun args w => match args with
  | [.ref 0] => unL 0 w (fun v => some (none, loopCells 0 (mixV v)))
  | _ => none
set_option maxHeartbeats 400000 in
set_option maxRecDepth 100000 in
theorem run_X5_feedMixing (rg : pRg) (v : pLV)  : ∃ fu, ex k_X5_feedMixing fu 0 [(0, .ref 0)] [] (loopCells 0 v) rg = some (none, loopCells 0 (mixV v), rg) := by
  refine ⟨60, ?_⟩
  conv => lhs; whnf
  refine pif_c (fun h => ?_) (fun h => ?_)
  · conv => lhs; whnf
    refine (callK_r (cl_X5_pour2 (mxT v (mxD v * v 1 3 / 1000)) (mxF v (mxD v * v 1 3 / 1000)) (mxB v (mxD v * v 1 3 / 1000) + mxP v (mxD v * v 1 3 / 1000) - mxF v (mxD v * v 1 3 / 1000)) rg) rfl).trans ?_
    conv => lhs; whnf
    refine (callK_r (cl_X5_reasonOf (mxU v (mxD v * v 1 3 / 1000)) (mxD v) (mxD v * v 1 3 / 1000) (mxB v (mxD v * v 1 3 / 1000)) rg) rfl).trans ?_
    rw [show mixV v = mixU v (mxD v * v 1 3 / 1000) from congrArg (mixU v) (if_pos h)]
    unfold mixU
    generalize rsnV (NL (mxU v (mxD v * v 1 3 / 1000))) (mxD v) (mxD v * v 1 3 / 1000) (mxB v (mxD v * v 1 3 / 1000)) = rr
    generalize NL (mxU v (mxD v * v 1 3 / 1000)) = X
    revert X rr; refine id ?_; intro X rr
    rfl
  · conv => lhs; whnf
    refine (callK_r (cl_X5_pour2 (mxT v (0)) (mxF v (0)) (mxB v (0) + mxP v (0) - mxF v (0)) rg) rfl).trans ?_
    conv => lhs; whnf
    refine (callK_r (cl_X5_reasonOf (mxU v (0)) (mxD v) (0) (mxB v (0)) rg) rfl).trans ?_
    rw [show mixV v = mixU v (0) from congrArg (mixU v) (if_neg h)]
    unfold mixU
    generalize rsnV (NL (mxU v (0))) (mxD v) (0) (mxB v (0)) = rr
    generalize NL (mxU v (0)) = X
    revert X rr; refine id ?_; intro X rr
    rfl
theorem ct_X5_feedMixing (l : Launch) : ∀ args0 w0 v0 w1 rg, G_X5_feedMixing args0 w0 = some (v0, w1) → pCT l yX5_feedMixing (pWs yX5_feedMixing cX5_feedMixing 6 (none)) rm_X5_feedMixing args0 w0 rg (v0, w1, rg) := by
  intro args0 w0 v0 w1 rg h
  unfold G_X5_feedMixing at h
  split at h
  next  =>
    obtain ⟨v, hw, h2⟩ := unL_some h
    clear h
    subst hw
    cases h2
    exact met_of_exL (by decide) (ok_k_X5_feedMixing l) rfl (run_X5_feedMixing rg v ) (Nat.le_of_ble_eq_true rfl) rfl rfl
  next => cases h
def F_X5_feedMixing : pF := fz (faN G_X5_feedMixing)
theorem ok_F_X5_feedMixing (l : Launch) : pFOK l yX5_feedMixing (pWs yX5_feedMixing cX5_feedMixing 6 (none)) rm_X5_feedMixing F_X5_feedMixing := pFOK_fz (pFOK_fa (fun a b c d rg h => ct_X5_feedMixing l a b c d rg h))
theorem rc_F_X5_feedMixing : pRcv 5 F_X5_feedMixing := pRcv_fz (pRcv_fa (fun a b c d h => by
  unfold G_X5_feedMixing at h
  split at h
  next =>
    obtain ⟨v, rfl, h⟩ := unL_some h
    exact ⟨_, _, _, rfl, rfl⟩
  next => cases h))
theorem cl_X5_feedMixing (v : pLV)  (rg : pRg) : F_X5_feedMixing [.ref 0] (loopCells 0 v) rg = some (none, loopCells 0 (mixV (NL v)), rg) := (fz_eq _ _ _ _).trans rfl
end
