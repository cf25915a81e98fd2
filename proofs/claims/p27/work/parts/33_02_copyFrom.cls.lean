noncomputable section
theorem dX5_copyFrom_0 : decode cX5_copyFrom 0 = .ok (.aload_n 0, 1) := by decide +kernel
theorem dX5_copyFrom_1 : decode cX5_copyFrom 1 = .ok (.aload_n 1, 1) := by decide +kernel
theorem dX5_copyFrom_2 : decode cX5_copyFrom 2 = .ok (.getfield 9, 3) := by decide +kernel
theorem dX5_copyFrom_5 : decode cX5_copyFrom 5 = .ok (.putfield 9, 3) := by decide +kernel
theorem dX5_copyFrom_8 : decode cX5_copyFrom 8 = .ok (.aload_n 0, 1) := by decide +kernel
theorem dX5_copyFrom_9 : decode cX5_copyFrom 9 = .ok (.aload_n 1, 1) := by decide +kernel
theorem dX5_copyFrom_10 : decode cX5_copyFrom 10 = .ok (.getfield 15, 3) := by decide +kernel
theorem dX5_copyFrom_13 : decode cX5_copyFrom 13 = .ok (.putfield 15, 3) := by decide +kernel
theorem dX5_copyFrom_16 : decode cX5_copyFrom 16 = .ok (.aload_n 0, 1) := by decide +kernel
theorem dX5_copyFrom_17 : decode cX5_copyFrom 17 = .ok (.aload_n 1, 1) := by decide +kernel
theorem dX5_copyFrom_18 : decode cX5_copyFrom 18 = .ok (.getfield 18, 3) := by decide +kernel
theorem dX5_copyFrom_21 : decode cX5_copyFrom 21 = .ok (.putfield 18, 3) := by decide +kernel
theorem dX5_copyFrom_24 : decode cX5_copyFrom 24 = .ok (.aload_n 0, 1) := by decide +kernel
theorem dX5_copyFrom_25 : decode cX5_copyFrom 25 = .ok (.aload_n 1, 1) := by decide +kernel
theorem dX5_copyFrom_26 : decode cX5_copyFrom 26 = .ok (.getfield 21, 3) := by decide +kernel
theorem dX5_copyFrom_29 : decode cX5_copyFrom 29 = .ok (.putfield 21, 3) := by decide +kernel
theorem dX5_copyFrom_32 : decode cX5_copyFrom 32 = .ok (.aload_n 0, 1) := by decide +kernel
theorem dX5_copyFrom_33 : decode cX5_copyFrom 33 = .ok (.aload_n 1, 1) := by decide +kernel
theorem dX5_copyFrom_34 : decode cX5_copyFrom 34 = .ok (.getfield 24, 3) := by decide +kernel
theorem dX5_copyFrom_37 : decode cX5_copyFrom 37 = .ok (.putfield 24, 3) := by decide +kernel
theorem dX5_copyFrom_40 : decode cX5_copyFrom 40 = .ok (.aload_n 0, 1) := by decide +kernel
theorem dX5_copyFrom_41 : decode cX5_copyFrom 41 = .ok (.aload_n 1, 1) := by decide +kernel
theorem dX5_copyFrom_42 : decode cX5_copyFrom 42 = .ok (.getfield 27, 3) := by decide +kernel
theorem dX5_copyFrom_45 : decode cX5_copyFrom 45 = .ok (.putfield 27, 3) := by decide +kernel
theorem dX5_copyFrom_48 : decode cX5_copyFrom 48 = .ok (.aload_n 0, 1) := by decide +kernel
theorem dX5_copyFrom_49 : decode cX5_copyFrom 49 = .ok (.aload_n 1, 1) := by decide +kernel
theorem dX5_copyFrom_50 : decode cX5_copyFrom 50 = .ok (.getfield 30, 3) := by decide +kernel
theorem dX5_copyFrom_53 : decode cX5_copyFrom 53 = .ok (.putfield 30, 3) := by decide +kernel
theorem dX5_copyFrom_56 : decode cX5_copyFrom 56 = .ok (.aload_n 0, 1) := by decide +kernel
theorem dX5_copyFrom_57 : decode cX5_copyFrom 57 = .ok (.getfield 38, 3) := by decide +kernel
theorem dX5_copyFrom_60 : decode cX5_copyFrom 60 = .ok (.aload_n 1, 1) := by decide +kernel
theorem dX5_copyFrom_61 : decode cX5_copyFrom 61 = .ok (.getfield 38, 3) := by decide +kernel
theorem dX5_copyFrom_64 : decode cX5_copyFrom 64 = .ok (.invokevirtual 94, 3) := by decide +kernel
theorem dX5_copyFrom_67 : decode cX5_copyFrom 67 = .ok (.aload_n 0, 1) := by decide +kernel
theorem dX5_copyFrom_68 : decode cX5_copyFrom 68 = .ok (.getfield 42, 3) := by decide +kernel
theorem dX5_copyFrom_71 : decode cX5_copyFrom 71 = .ok (.aload_n 1, 1) := by decide +kernel
theorem dX5_copyFrom_72 : decode cX5_copyFrom 72 = .ok (.getfield 42, 3) := by decide +kernel
theorem dX5_copyFrom_75 : decode cX5_copyFrom 75 = .ok (.invokevirtual 94, 3) := by decide +kernel
theorem dX5_copyFrom_78 : decode cX5_copyFrom 78 = .ok (.aload_n 0, 1) := by decide +kernel
theorem dX5_copyFrom_79 : decode cX5_copyFrom 79 = .ok (.getfield 45, 3) := by decide +kernel
theorem dX5_copyFrom_82 : decode cX5_copyFrom 82 = .ok (.aload_n 1, 1) := by decide +kernel
theorem dX5_copyFrom_83 : decode cX5_copyFrom 83 = .ok (.getfield 45, 3) := by decide +kernel
theorem dX5_copyFrom_86 : decode cX5_copyFrom 86 = .ok (.invokevirtual 94, 3) := by decide +kernel
theorem dX5_copyFrom_89 : decode cX5_copyFrom 89 = .ok (.aload_n 0, 1) := by decide +kernel
theorem dX5_copyFrom_90 : decode cX5_copyFrom 90 = .ok (.getfield 48, 3) := by decide +kernel
theorem dX5_copyFrom_93 : decode cX5_copyFrom 93 = .ok (.aload_n 1, 1) := by decide +kernel
theorem dX5_copyFrom_94 : decode cX5_copyFrom 94 = .ok (.getfield 48, 3) := by decide +kernel
theorem dX5_copyFrom_97 : decode cX5_copyFrom 97 = .ok (.invokevirtual 94, 3) := by decide +kernel
theorem dX5_copyFrom_100 : decode cX5_copyFrom 100 = .ok (.aload_n 0, 1) := by decide +kernel
theorem dX5_copyFrom_101 : decode cX5_copyFrom 101 = .ok (.getfield 54, 3) := by decide +kernel
theorem dX5_copyFrom_104 : decode cX5_copyFrom 104 = .ok (.aload_n 1, 1) := by decide +kernel
theorem dX5_copyFrom_105 : decode cX5_copyFrom 105 = .ok (.getfield 54, 3) := by decide +kernel
theorem dX5_copyFrom_108 : decode cX5_copyFrom 108 = .ok (.invokevirtual 98, 3) := by decide +kernel
theorem dX5_copyFrom_111 : decode cX5_copyFrom 111 = .ok (.aload_n 0, 1) := by decide +kernel
theorem dX5_copyFrom_112 : decode cX5_copyFrom 112 = .ok (.getfield 61, 3) := by decide +kernel
theorem dX5_copyFrom_115 : decode cX5_copyFrom 115 = .ok (.aload_n 1, 1) := by decide +kernel
theorem dX5_copyFrom_116 : decode cX5_copyFrom 116 = .ok (.getfield 61, 3) := by decide +kernel
theorem dX5_copyFrom_119 : decode cX5_copyFrom 119 = .ok (.invokevirtual 101, 3) := by decide +kernel
theorem dX5_copyFrom_122 : decode cX5_copyFrom 122 = .ok (.aload_n 0, 1) := by decide +kernel
theorem dX5_copyFrom_123 : decode cX5_copyFrom 123 = .ok (.getfield 68, 3) := by decide +kernel
theorem dX5_copyFrom_126 : decode cX5_copyFrom 126 = .ok (.aload_n 1, 1) := by decide +kernel
theorem dX5_copyFrom_127 : decode cX5_copyFrom 127 = .ok (.getfield 68, 3) := by decide +kernel
theorem dX5_copyFrom_130 : decode cX5_copyFrom 130 = .ok (.invokevirtual 104, 3) := by decide +kernel
theorem dX5_copyFrom_133 : decode cX5_copyFrom 133 = .ok (.aload_n 1, 1) := by decide +kernel
theorem dX5_copyFrom_134 : decode cX5_copyFrom 134 = .ok (.getfield 72, 3) := by decide +kernel
theorem dX5_copyFrom_137 : decode cX5_copyFrom 137 = .ok (.aload_n 0, 1) := by decide +kernel
theorem dX5_copyFrom_138 : decode cX5_copyFrom 138 = .ok (.getfield 72, 3) := by decide +kernel
theorem dX5_copyFrom_141 : decode cX5_copyFrom 141 = .ok (.invokestatic 79, 3) := by decide +kernel
theorem dX5_copyFrom_144 : decode cX5_copyFrom 144 = .ok (.return_, 1) := by decide +kernel
def k_X5_copyFrom : List pEn := [oAload 0, oAload 1, oGet 5 0, oPut 5 0, oAload 0, oAload 1, oGet 5 1, oPut 5 1, oAload 0, oAload 1, oGet 5 2, oPut 5 2, oAload 0, oAload 1, oGet 5 3, oPut 5 3, oAload 0, oAload 1, oGet 5 4, oPut 5 4, oAload 0, oAload 1, oGet 5 5, oPut 5 5, oAload 0, oAload 1, oGet 5 6, oPut 5 6, oAload 0, oGet 5 7, oAload 1, oGet 5 7, oCall 2 F_X1_copyFrom, oAload 0, oGet 5 8, oAload 1, oGet 5 8, oCall 2 F_X1_copyFrom, oAload 0, oGet 5 9, oAload 1, oGet 5 9, oCall 2 F_X1_copyFrom, oAload 0, oGet 5 10, oAload 1, oGet 5 10, oCall 2 F_X1_copyFrom, oAload 0, oGet 5 11, oAload 1, oGet 5 11, oCall 2 F_X0_copyFrom, oAload 0, oGet 5 12, oAload 1, oGet 5 12, oCall 2 F_X2_copyFrom, oAload 0, oGet 5 13, oAload 1, oGet 5 13, oCall 2 F_X7_copyFrom, oAload 1, oGet 5 14, oAload 0, oGet 5 14, oCall 2 F_X8_copyNumbers, oVret]
def pc_X5_copyFrom (i : Nat) : Nat := ([0, 1, 2, 5, 8, 9, 10, 13, 16, 17, 18, 21, 24, 25, 26, 29, 32, 33, 34, 37, 40, 41, 42, 45, 48, 49, 50, 53, 56, 57, 60, 61, 64, 67, 68, 71, 72, 75, 78, 79, 82, 83, 86, 89, 90, 93, 94, 97, 100, 101, 104, 105, 108, 111, 112, 115, 116, 119, 122, 123, 126, 127, 130, 133, 134, 137, 138, 141, 144] : List Nat).getD i 0
abbrev rm_X5_copyFrom : Room := { frames := 2, cells := 0, slots := 0, locals := 43 }
theorem pl_X5_copyFrom : pPlain yX5_copyFrom 1 := by decide +kernel
set_option maxRecDepth 100000 in
set_option maxHeartbeats 4000000 in
theorem ok_k_X5_copyFrom (l : Launch) : ∀ (i : Nat) (en : pEn), k_X5_copyFrom[i]? = some en → EOK l cX5_copyFrom yX5_copyFrom.cls 2 (none) rm_X5_copyFrom 0 pc_X5_copyFrom i en := by
  refine allOK_at ?_
  refine And.intro (okAload_n dX5_copyFrom_0 rfl rfl) ?_
  refine And.intro (okAload_n dX5_copyFrom_1 rfl rfl) ?_
  refine And.intro (okGet (C := RX5) (T := TX5) (N := 15) dX5_copyFrom_2 rfl rfl (by decide) inX5 wm_1_152) ?_
  refine And.intro (okPut (C := RX5) (T := TX5) (N := 15) dX5_copyFrom_5 rfl rfl (by decide) inX5 tyX5_ok nmX5 rfl rfl wm_1_152) ?_
  refine And.intro (okAload_n dX5_copyFrom_8 rfl rfl) ?_
  refine And.intro (okAload_n dX5_copyFrom_9 rfl rfl) ?_
  refine And.intro (okGet (C := RX5) (T := TX5) (N := 15) dX5_copyFrom_10 rfl rfl (by decide) inX5 wm_1_154) ?_
  refine And.intro (okPut (C := RX5) (T := TX5) (N := 15) dX5_copyFrom_13 rfl rfl (by decide) inX5 tyX5_ok nmX5 rfl rfl wm_1_154) ?_
  refine And.intro (okAload_n dX5_copyFrom_16 rfl rfl) ?_
  refine And.intro (okAload_n dX5_copyFrom_17 rfl rfl) ?_
  refine And.intro (okGet (C := RX5) (T := TX5) (N := 15) dX5_copyFrom_18 rfl rfl (by decide) inX5 wm_1_156) ?_
  refine And.intro (okPut (C := RX5) (T := TX5) (N := 15) dX5_copyFrom_21 rfl rfl (by decide) inX5 tyX5_ok nmX5 rfl rfl wm_1_156) ?_
  refine And.intro (okAload_n dX5_copyFrom_24 rfl rfl) ?_
  refine And.intro (okAload_n dX5_copyFrom_25 rfl rfl) ?_
  refine And.intro (okGet (C := RX5) (T := TX5) (N := 15) dX5_copyFrom_26 rfl rfl (by decide) inX5 wm_1_158) ?_
  refine And.intro (okPut (C := RX5) (T := TX5) (N := 15) dX5_copyFrom_29 rfl rfl (by decide) inX5 tyX5_ok nmX5 rfl rfl wm_1_158) ?_
  refine And.intro (okAload_n dX5_copyFrom_32 rfl rfl) ?_
  refine And.intro (okAload_n dX5_copyFrom_33 rfl rfl) ?_
  refine And.intro (okGet (C := RX5) (T := TX5) (N := 15) dX5_copyFrom_34 rfl rfl (by decide) inX5 wm_1_160) ?_
  refine And.intro (okPut (C := RX5) (T := TX5) (N := 15) dX5_copyFrom_37 rfl rfl (by decide) inX5 tyX5_ok nmX5 rfl rfl wm_1_160) ?_
  refine And.intro (okAload_n dX5_copyFrom_40 rfl rfl) ?_
  refine And.intro (okAload_n dX5_copyFrom_41 rfl rfl) ?_
  refine And.intro (okGet (C := RX5) (T := TX5) (N := 15) dX5_copyFrom_42 rfl rfl (by decide) inX5 wm_1_162) ?_
  refine And.intro (okPut (C := RX5) (T := TX5) (N := 15) dX5_copyFrom_45 rfl rfl (by decide) inX5 tyX5_ok nmX5 rfl rfl wm_1_162) ?_
  refine And.intro (okAload_n dX5_copyFrom_48 rfl rfl) ?_
  refine And.intro (okAload_n dX5_copyFrom_49 rfl rfl) ?_
  refine And.intro (okGet (C := RX5) (T := TX5) (N := 15) dX5_copyFrom_50 rfl rfl (by decide) inX5 wm_1_164) ?_
  refine And.intro (okPut (C := RX5) (T := TX5) (N := 15) dX5_copyFrom_53 rfl rfl (by decide) inX5 tyX5_ok nmX5 rfl rfl wm_1_164) ?_
  refine And.intro (okAload_n dX5_copyFrom_56 rfl rfl) ?_
  refine And.intro (okGet (C := RX5) (T := TX5) (N := 15) dX5_copyFrom_57 rfl rfl (by decide) inX5 wm_1_166) ?_
  refine And.intro (okAload_n dX5_copyFrom_60 rfl rfl) ?_
  refine And.intro (okGet (C := RX5) (T := TX5) (N := 15) dX5_copyFrom_61 rfl rfl (by decide) inX5 wm_1_166) ?_
  refine And.intro (okCallV (y := yX1_copyFrom) (T := TX1) (oCall_is _ _ _) dX5_copyFrom_64 rfl (ok_F_X1_copyFrom l) rc_F_X1_copyFrom rfl wm_2_75 wm_2_76 wm_2_77 wm_1_3 wm_2_78 pl_X1_copyFrom (by decide)) ?_
  refine And.intro (okAload_n dX5_copyFrom_67 rfl rfl) ?_
  refine And.intro (okGet (C := RX5) (T := TX5) (N := 15) dX5_copyFrom_68 rfl rfl (by decide) inX5 wm_1_167) ?_
  refine And.intro (okAload_n dX5_copyFrom_71 rfl rfl) ?_
  refine And.intro (okGet (C := RX5) (T := TX5) (N := 15) dX5_copyFrom_72 rfl rfl (by decide) inX5 wm_1_167) ?_
  refine And.intro (okCallV (y := yX1_copyFrom) (T := TX1) (oCall_is _ _ _) dX5_copyFrom_75 rfl (ok_F_X1_copyFrom l) rc_F_X1_copyFrom rfl wm_2_75 wm_2_76 wm_2_77 wm_1_3 wm_2_78 pl_X1_copyFrom (by decide)) ?_
  refine And.intro (okAload_n dX5_copyFrom_78 rfl rfl) ?_
  refine And.intro (okGet (C := RX5) (T := TX5) (N := 15) dX5_copyFrom_79 rfl rfl (by decide) inX5 wm_1_169) ?_
  refine And.intro (okAload_n dX5_copyFrom_82 rfl rfl) ?_
  refine And.intro (okGet (C := RX5) (T := TX5) (N := 15) dX5_copyFrom_83 rfl rfl (by decide) inX5 wm_1_169) ?_
  refine And.intro (okCallV (y := yX1_copyFrom) (T := TX1) (oCall_is _ _ _) dX5_copyFrom_86 rfl (ok_F_X1_copyFrom l) rc_F_X1_copyFrom rfl wm_2_75 wm_2_76 wm_2_77 wm_1_3 wm_2_78 pl_X1_copyFrom (by decide)) ?_
  refine And.intro (okAload_n dX5_copyFrom_89 rfl rfl) ?_
  refine And.intro (okGet (C := RX5) (T := TX5) (N := 15) dX5_copyFrom_90 rfl rfl (by decide) inX5 wm_1_170) ?_
  refine And.intro (okAload_n dX5_copyFrom_93 rfl rfl) ?_
  refine And.intro (okGet (C := RX5) (T := TX5) (N := 15) dX5_copyFrom_94 rfl rfl (by decide) inX5 wm_1_170) ?_
  refine And.intro (okCallV (y := yX1_copyFrom) (T := TX1) (oCall_is _ _ _) dX5_copyFrom_97 rfl (ok_F_X1_copyFrom l) rc_F_X1_copyFrom rfl wm_2_75 wm_2_76 wm_2_77 wm_1_3 wm_2_78 pl_X1_copyFrom (by decide)) ?_
  refine And.intro (okAload_n dX5_copyFrom_100 rfl rfl) ?_
  refine And.intro (okGet (C := RX5) (T := TX5) (N := 15) dX5_copyFrom_101 rfl rfl (by decide) inX5 wm_1_172) ?_
  refine And.intro (okAload_n dX5_copyFrom_104 rfl rfl) ?_
  refine And.intro (okGet (C := RX5) (T := TX5) (N := 15) dX5_copyFrom_105 rfl rfl (by decide) inX5 wm_1_172) ?_
  refine And.intro (okCallV (y := yX0_copyFrom) (T := TX0) (oCall_is _ _ _) dX5_copyFrom_108 rfl (ok_F_X0_copyFrom l) rc_F_X0_copyFrom rfl wm_2_79 wm_2_80 wm_2_81 wm_1_4 wm_2_82 pl_X0_copyFrom (by decide)) ?_
  refine And.intro (okAload_n dX5_copyFrom_111 rfl rfl) ?_
  refine And.intro (okGet (C := RX5) (T := TX5) (N := 15) dX5_copyFrom_112 rfl rfl (by decide) inX5 wm_1_174) ?_
  refine And.intro (okAload_n dX5_copyFrom_115 rfl rfl) ?_
  refine And.intro (okGet (C := RX5) (T := TX5) (N := 15) dX5_copyFrom_116 rfl rfl (by decide) inX5 wm_1_174) ?_
  refine And.intro (okCallV (y := yX2_copyFrom) (T := TX2) (oCall_is _ _ _) dX5_copyFrom_119 rfl (ok_F_X2_copyFrom l) rc_F_X2_copyFrom rfl wm_2_84 wm_2_85 wm_2_86 wm_1_5 wm_2_87 pl_X2_copyFrom (by decide)) ?_
  refine And.intro (okAload_n dX5_copyFrom_122 rfl rfl) ?_
  refine And.intro (okGet (C := RX5) (T := TX5) (N := 15) dX5_copyFrom_123 rfl rfl (by decide) inX5 wm_1_176) ?_
  refine And.intro (okAload_n dX5_copyFrom_126 rfl rfl) ?_
  refine And.intro (okGet (C := RX5) (T := TX5) (N := 15) dX5_copyFrom_127 rfl rfl (by decide) inX5 wm_1_176) ?_
  refine And.intro (okCallV (y := yX7_copyFrom) (T := TX7) (oCall_is _ _ _) dX5_copyFrom_130 rfl (ok_F_X7_copyFrom l) rc_F_X7_copyFrom rfl wm_2_89 wm_2_90 wm_2_91 wm_1_6 wm_2_92 pl_X7_copyFrom (by decide)) ?_
  refine And.intro (okAload_n dX5_copyFrom_133 rfl rfl) ?_
  refine And.intro (okGet (C := RX5) (T := TX5) (N := 15) dX5_copyFrom_134 rfl rfl (by decide) inX5 wm_1_178) ?_
  refine And.intro (okAload_n dX5_copyFrom_137 rfl rfl) ?_
  refine And.intro (okGet (C := RX5) (T := TX5) (N := 15) dX5_copyFrom_138 rfl rfl (by decide) inX5 wm_1_178) ?_
  refine And.intro (okCallSN (y := yX8_copyNumbers) (host := "BrokeLoop") (oCall_is _ _ _) dX5_copyFrom_141 rfl (ok_F_X8_copyNumbers l) (by decide) wm_1_134 wm_1_1 wm_1_135 pl_X8_copyNumbers (by decide)) ?_
  refine And.intro (okVret dX5_copyFrom_144 rfl) ?_
  exact trivial
/-- a copy keeps its rooms -/
def cpyV (v u : pLV) : pLV := mkL [u 0 0, u 0 1, u 0 2, u 0 3, u 0 4, u 0 5, u 0 6, 0, 0, 0, u 0 10, u 0 11, u 0 12, u 0 13, u 0 14, u 0 15, u 0 16, u 0 17, u 0 18, u 0 19, u 0 20, u 0 21, u 0 22, u 0 23, u 0 24, u 0 25, u 0 26, u 0 27, u 0 28, u 0 29, v 0 30, v 0 31, v 0 32, v 0 33] (u 1) (u 2) (u 3) (u 4) (u 5) (u 6)
def G_X5_copyFrom : pG := fun args w => match args with
  | [.ref 0, .ref 14] => (match w with
    | c0 :: c1 :: c2 :: c3 :: c4 :: c5 :: c6 :: c7 :: c8 :: c9 :: c10 :: c11 :: c12 :: c13 :: w2 => unL 0 [c0, c1, c2, c3, c4, c5, c6, c7, c8, c9, c10, c11, c12, c13] (fun v => unL 14 w2 (fun u => some (none, loopCells 0 (cpyV v u) ++ loopCells 14 u)))
    | _ => none)
  | _ => none
set_option maxHeartbeats 4000000 in
set_option maxRecDepth 100000 in
theorem run_X5_copyFrom (rg : pRg) (v u : pLV) : ∃ fu, ex k_X5_copyFrom fu 0 [(0, .ref 0), (1, .ref 14)] [] (loopCells 0 v ++ loopCells 14 u) rg = some (none, loopCells 0 (cpyV v u) ++ loopCells 14 u, rg) := ⟨2, rfl⟩
theorem ct2_X5_copyFrom (l : Launch) (rg : pRg) (v u : pLV) : pCT l yX5_copyFrom (pWs yX5_copyFrom cX5_copyFrom 2 none) rm_X5_copyFrom [.ref 0, .ref 14] (loopCells 0 v ++ loopCells 14 u) rg (none, loopCells 0 (cpyV v u) ++ loopCells 14 u, rg) :=
  met_of_ex (by decide) (ok_k_X5_copyFrom l) rfl (run_X5_copyFrom rg v u) (Nat.le_of_ble_eq_true rfl) rfl (Nat.le_of_ble_eq_true rfl) (Nat.le_of_ble_eq_true rfl) (Nat.zero_le _) rfl rfl
theorem G_cp_some {args0 : List Value} {w0 : pWd} {v0 : Option Value} {w1 : pWd} (h : G_X5_copyFrom args0 w0 = some (v0, w1)) : ∃ v u, args0 = [.ref 0, .ref 14] ∧ w0 = loopCells 0 v ++ loopCells 14 u ∧ v0 = none ∧ w1 = loopCells 0 (cpyV v u) ++ loopCells 14 u := by
  unfold G_X5_copyFrom at h
  split at h
  next =>
    split at h
    next =>
      obtain ⟨v, e1, h2⟩ := unL_some h
      clear h
      obtain ⟨u, e2, h3⟩ := unL_some h2
      clear h2
      cases h3
      refine ⟨v, u, rfl, ?_, rfl, rfl⟩
      rw [← e1, ← e2]
      rfl
    next => cases h
  next => cases h
theorem ct_X5_copyFrom (l : Launch) : ∀ args0 w0 v0 w1 rg, G_X5_copyFrom args0 w0 = some (v0, w1) → pCT l yX5_copyFrom (pWs yX5_copyFrom cX5_copyFrom 2 none) rm_X5_copyFrom args0 w0 rg (v0, w1, rg) := by
  intro args0 w0 v0 w1 rg h
  obtain ⟨v, u, rfl, rfl, rfl, rfl⟩ := G_cp_some h
  exact ct2_X5_copyFrom l rg v u
/-- the trial out of the loop -/
def F_cpTL : pF := fz (frN G_X5_copyFrom)
theorem sz_cp : ∀ a b c d, G_X5_copyFrom a b = some (c, d) → b.length ≤ 64 := by
  intro a b c d h
  obtain ⟨v, u, rfl, rfl, rfl, rfl⟩ := G_cp_some h
  exact Nat.le_of_ble_eq_true rfl
theorem ok_F_cpTL (l : Launch) : pFOK l yX5_copyFrom (pWs yX5_copyFrom cX5_copyFrom 2 none) rm_X5_copyFrom F_cpTL := pFOK_fz (pFOK_fr (fun a b c d h => ct_X5_copyFrom l a b c d rg00 h) sz_cp)
theorem rc_F_cpTL : pRcv 5 F_cpTL := pRcv_fz (pRcv_fr sz_cp (fun a b c d h => by
  obtain ⟨v, u, rfl, rfl, rfl, rfl⟩ := G_cp_some h
  exact ⟨_, _, _, rfl, rfl⟩))
set_option maxHeartbeats 4000000 in
set_option maxRecDepth 100000 in
theorem cl_cpTL (f : Nat → Option Nat) (x v u : pLV) (rg : pRg) : F_cpTL [.ref 15, .ref 1] (cw f x v u) rg = some (none, cw f x v (cpyV u v), rg) := (fz_eq _ _ _ _).trans rfl
/-- where a callee's two loops stand: the first from p, the second from q -/
def ρ2 (p q : Nat) (j : Nat) : Nat := if j < 14 then p + j else if j < 28 then q + (j - 14) else j
theorem ρ2_a {p q t : Nat} (h : t < 14) : ρ2 p q (0 + t) = p + t := by unfold ρ2; rw [if_pos (by omega)]; omega
theorem ρ2_b {p q t : Nat} (h : t < 14) : ρ2 p q (14 + t) = q + t := by unfold ρ2; rw [if_neg (by omega), if_pos (by omega)]; omega
theorem ρ2_map (p q : Nat) (v u : pLV) : (loopCells 0 v ++ loopCells 14 u).map (re (ρ2 p q)) = loopCells p v ++ loopCells q u := by
  rw [List.map_append, lc_map (ρ2 p q) 0 p v (fun t h => ρ2_a h), lc_map (ρ2 p q) 14 q u (fun t h => ρ2_b h)]
theorem two_get {p q : Nat} {v u : pLV} {j : Nat} {e : va_E} (h : wget (loopCells 0 v ++ loopCells 14 u) j = some e) : j < 28 ∧ (if j < 14 then wget (loopCells p v) j else wget (loopCells q u) (j - 14)) = some (re (ρ2 p q) e) := by
  have hj : j < 28 := wget_lt h
  refine ⟨hj, ?_⟩
  have h2 : wget (loopCells p v ++ loopCells q u) j = some (re (ρ2 p q) e) := by
    rw [← ρ2_map, wget_map, h]; rfl
  by_cases h14 : j < 14
  · rw [if_pos h14]
    rw [lo_14 _ _ _ h14] at h2
    exact h2
  · rw [if_neg h14]
    rw [hi_14 _ _ _ h14] at h2
    exact h2
theorem two_back {p q : Nat} {v u : pLV} {j : Nat} {e : va_E} (hj : j < 28) (h : (if j < 14 then wget (loopCells p v) j else wget (loopCells q u) (j - 14)) = some e) : ∃ e0, wget (loopCells 0 v ++ loopCells 14 u) j = some e0 ∧ e = re (ρ2 p q) e0 := by
  obtain ⟨e0, h0⟩ := wget_ex (w := loopCells 0 v ++ loopCells 14 u) (k := j) hj
  obtain ⟨-, h1⟩ := two_get (p := p) (q := q) h0
  rw [h] at h1
  exact ⟨e0, h0, Option.some.inj h1⟩
theorem ρ2_inj {p q : Nat} (hpq : p + 14 ≤ q ∨ q + 14 ≤ p) : ∀ j j', j < 28 → j' < 28 → ρ2 p q j = ρ2 p q j' → j = j' := by
  intro j j' h1 h2 e
  unfold ρ2 at e
  by_cases a : j < 14 <;> by_cases b : j' < 14 <;> simp only [a, b, h1, h2, if_true, if_false] at e <;> omega
theorem ρ2_stat (p q : Nat) : ∀ z ∈ pStat, ρ2 p q z.2.1 = z.2.1 := by
  intro z hz
  simp only [pStat, List.mem_cons, List.not_mem_nil, or_false] at hz
  rcases hz with rfl | rfl | rfl <;> rfl
theorem dm00 {n j : Nat} (hj : pDm n rg00.1 j) : j < n := by
  rcases hj with z | z
  · exact z
  · have : rg00.1 = 0 := rfl
    omega
/-- a loop of the region out of the loop -/
def F_cpRT : pF := fun args w rg => match args with
  | [.ref p, .ref 1] => unB w (fun f x v u => pif ((p : Nat) = 100000 + 14 * (((p : Nat) - 100000) / 14) ∧ ((p : Nat) - 100000) / 14 < rg.1) (some (none, cw f x v u, (rg.1, updR rg.2 (((p : Nat) - 100000) / 14) (cpyV (rg.2 (((p : Nat) - 100000) / 14)) v)))) none)
  | _ => none
theorem cpRT_some {args : List Value} {w : pWd} {rg : pRg} {v0 : Option Value} {w' : pWd} {rg' : pRg} (h : F_cpRT args w rg = some (v0, w', rg')) : ∃ f x v u, ∃ k : Nat, args = [.ref (100000 + 14 * k), .ref 1] ∧ w = cw f x v u ∧ k < rg.1 ∧ v0 = none ∧ w' = w ∧ rg' = (rg.1, updR rg.2 k (cpyV (rg.2 k) v)) := by
  unfold F_cpRT at h
  split at h
  next p =>
    obtain ⟨f, x, v, u, hw, h2⟩ := unB_some h
    clear h
    by_cases hc : ((p : Nat) = 100000 + 14 * (((p : Nat) - 100000) / 14) ∧ ((p : Nat) - 100000) / 14 < rg.1)
    · have h2 := (pif_t hc).symm.trans h2
      cases h2
      refine ⟨f, x, v, u, ((p : Nat) - 100000) / 14, ?_, hw, hc.2, rfl, hw.symm, rfl⟩
      have e := hc.1
      rw [← e]
    · have h2 := (pif_f hc).symm.trans h2
      cases h2
  next => cases h
set_option maxHeartbeats 1000000 in
theorem ok_F_cpRT (l : Launch) : pFOK l yX5_copyFrom (pWs yX5_copyFrom cX5_copyFrom 2 none) rm_X5_copyFrom F_cpRT := by
  intro args w rg v0 w' rg' h
  obtain ⟨f, x, v, u, k, rfl, rfl, hk, rfl, rfl, rfl⟩ := cpRT_some h
  have hlw : (cw f x v u).length = 39 := rfl
  refine ⟨ρ2 (100000 + 14 * k) 1, [.ref 0, .ref 14], loopCells 0 (rg.2 k) ++ loopCells 14 v, rg00, none, loopCells 0 (cpyV (rg.2 k) v) ++ loopCells 14 v, rg00, ct2_X5_copyFrom l rg00 (rg.2 k) v, ⟨fun j e hj => ?_, fun j j' hj hj' e => ?_, fun j hj => ?_, fun j h1 h2 => ?_, fun q e hq => ?_, ρ2_stat _ _, rfl, rfl⟩, rfl, rfl⟩
  · obtain ⟨hj28, h2⟩ := two_get (p := 100000 + 14 * k) (q := 1) (cellOf_00 hj)
    by_cases h14 : j < 14
    · rw [if_pos h14] at h2
      have e1 : ρ2 (100000 + 14 * k) 1 j = 100000 + 14 * k + j := by unfold ρ2; rw [if_pos h14]
      rw [e1, cellOf_hi (by rw [hlw]; omega), rg_at hk h14]
      exact h2
    · rw [if_neg h14] at h2
      have e1 : ρ2 (100000 + 14 * k) 1 j = 1 + (j - 14) := by unfold ρ2; rw [if_neg h14, if_pos hj28]
      rw [e1, cellOf_lo (by rw [hlw]; omega), cw_loop f x v u (by omega)]
      exact h2
  · exact ρ2_inj (Or.inr (by omega)) j j' (dm00 hj) (dm00 hj') e
  · have hj28 : j < 28 := dm00 hj
    by_cases h14 : j < 14
    · refine Or.inr ?_
      unfold ρ2
      rw [if_pos h14]
      omega
    · refine Or.inl ?_
      unfold ρ2
      rw [if_neg h14, if_pos hj28, hlw]
      omega
  · have h1 : 28 ≤ j := h1
    have h2 : j < 28 := h2
    omega
  · by_cases hA : ∃ t, t < 14 ∧ q = 100000 + 14 * k + t
    · obtain ⟨t, ht, rfl⟩ := hA
      rw [cellOf_hi (by rw [hlw]; omega), rg_at (rg := (rg.1, updR rg.2 k (cpyV (rg.2 k) v))) hk ht] at hq
      have hq : wget (loopCells (100000 + 14 * k) (if k = k then cpyV (rg.2 k) v else rg.2 k)) t = some e := hq
      rw [if_pos rfl] at hq
      obtain ⟨e0, g1, g2⟩ := two_back (p := 100000 + 14 * k) (q := 1) (v := cpyV (rg.2 k) v) (u := v) (j := t) (e := e) (by omega) (by rw [if_pos ht]; exact hq)
      exact Or.inl ⟨t, e0, Or.inl (by show t < 28; omega), by unfold ρ2; rw [if_pos ht], cellOf_get g1, g2⟩
    · by_cases hB : ∃ t, t < 14 ∧ q = 1 + t
      · obtain ⟨t, ht, rfl⟩ := hB
        rw [cellOf_lo (by rw [hlw]; omega), cw_loop f x v u ht] at hq
        obtain ⟨e0, g1, g2⟩ := two_back (p := 100000 + 14 * k) (q := 1) (v := cpyV (rg.2 k) v) (u := v) (j := 14 + t) (e := e) (by omega) (by rw [if_neg (by omega), show 14 + t - 14 = t by omega]; exact hq)
        exact Or.inl ⟨14 + t, e0, Or.inl (by show 14 + t < 28; omega), by unfold ρ2; rw [if_neg (by omega), if_pos (by omega)]; omega, cellOf_get g1, g2⟩
      · refine Or.inr ⟨?_, fun j hj ej => ?_⟩
        · unfold cellOf at hq ⊢
          rw [rg_other (fun t ht e => hA ⟨t, ht, e⟩)] at hq
          exact hq
        · have hj28 : j < 28 := dm00 hj
          unfold ρ2 at ej
          by_cases h14 : j < 14
          · rw [if_pos h14] at ej
            exact hA ⟨j, h14, ej.symm⟩
          · rw [if_neg h14, if_pos hj28] at ej
            exact hB ⟨j - 14, by omega, ej.symm⟩
theorem rc_F_cpRT : pRcv 5 F_cpRT := by
  intro as w rg o h
  obtain ⟨v0, w', rg'⟩ := o
  obtain ⟨f, x, v, u, k, rfl, rfl, hk, rfl, rfl, rfl⟩ := cpRT_some h
  have h1 : cellOf (cw f x v u) rg (100000 + 14 * k) = wget (loopCells (100000 + 14 * k) (rg.2 k)) 0 := by
    rw [cellOf_hi (by show 39 ≤ _; omega)]
    exact rg_at (t := 0) hk (by omega)
  exact ⟨_, _, _, rfl, h1⟩
theorem cl_cpRT (f : Nat → Option Nat) (x v u : pLV) (rg : pRg) (k : Nat) (hk : k < rg.1) : F_cpRT [.ref (100000 + 14 * k), .ref 1] (cw f x v u) rg = some (none, cw f x v u, (rg.1, updR rg.2 k (cpyV (rg.2 k) v))) := by
  have e : (100000 + 14 * k - 100000) / 14 = k := by omega
  have hc : (100000 + 14 * k : Nat) = 100000 + 14 * ((100000 + 14 * k - 100000) / 14) ∧ (100000 + 14 * k - 100000) / 14 < rg.1 := ⟨by rw [e], by rw [e]; exact hk⟩
  refine (pif_t hc).trans ?_
  rw [e]
  rfl
/-- the loop out of a loop of the region -/
def F_cpLR : pF := fun args w rg => match args with
  | [.ref 1, .ref p] => unB w (fun f x v u => pif ((p : Nat) = 100000 + 14 * (((p : Nat) - 100000) / 14) ∧ ((p : Nat) - 100000) / 14 < rg.1) (some (none, cw f x (cpyV v (rg.2 (((p : Nat) - 100000) / 14))) u, rg)) none)
  | _ => none
theorem cpLR_some {args : List Value} {w : pWd} {rg : pRg} {v0 : Option Value} {w' : pWd} {rg' : pRg} (h : F_cpLR args w rg = some (v0, w', rg')) : ∃ f x v u, ∃ k : Nat, args = [.ref 1, .ref (100000 + 14 * k)] ∧ w = cw f x v u ∧ k < rg.1 ∧ v0 = none ∧ w' = cw f x (cpyV v (rg.2 k)) u ∧ rg' = rg := by
  unfold F_cpLR at h
  split at h
  next p =>
    obtain ⟨f, x, v, u, hw, h2⟩ := unB_some h
    clear h
    by_cases hc : ((p : Nat) = 100000 + 14 * (((p : Nat) - 100000) / 14) ∧ ((p : Nat) - 100000) / 14 < rg.1)
    · have h2 := (pif_t hc).symm.trans h2
      cases h2
      refine ⟨f, x, v, u, ((p : Nat) - 100000) / 14, ?_, hw, hc.2, rfl, rfl, rfl⟩
      have e := hc.1
      rw [← e]
    · have h2 := (pif_f hc).symm.trans h2
      cases h2
  next => cases h
set_option maxHeartbeats 1000000 in
theorem ok_F_cpLR (l : Launch) : pFOK l yX5_copyFrom (pWs yX5_copyFrom cX5_copyFrom 2 none) rm_X5_copyFrom F_cpLR := by
  intro args w rg v0 w' rg' h
  obtain ⟨f, x, v, u, k, rfl, rfl, hk, rfl, rfl, rfl⟩ := cpLR_some h
  have hlw : (cw f x v u).length = 39 := rfl
  have hlw' : (cw f x (cpyV v (rg'.2 k)) u).length = 39 := rfl
  refine ⟨ρ2 1 (100000 + 14 * k), [.ref 0, .ref 14], loopCells 0 v ++ loopCells 14 (rg'.2 k), rg00, none, loopCells 0 (cpyV v (rg'.2 k)) ++ loopCells 14 (rg'.2 k), rg00, ct2_X5_copyFrom l rg00 v (rg'.2 k), ⟨fun j e hj => ?_, fun j j' hj hj' e => ?_, fun j hj => ?_, fun j h1 h2 => ?_, fun q e hq => ?_, ρ2_stat _ _, rfl, rfl⟩, rfl, rfl⟩
  · obtain ⟨hj28, h2⟩ := two_get (p := 1) (q := 100000 + 14 * k) (cellOf_00 hj)
    by_cases h14 : j < 14
    · rw [if_pos h14] at h2
      have e1 : ρ2 1 (100000 + 14 * k) j = 1 + j := by unfold ρ2; rw [if_pos h14]
      rw [e1, cellOf_lo (by rw [hlw]; omega), cw_loop f x v u h14]
      exact h2
    · rw [if_neg h14] at h2
      have e1 : ρ2 1 (100000 + 14 * k) j = 100000 + 14 * k + (j - 14) := by unfold ρ2; rw [if_neg h14, if_pos hj28]
      rw [e1, cellOf_hi (by rw [hlw]; omega), rg_at hk (by omega)]
      exact h2
  · exact ρ2_inj (Or.inl (by omega)) j j' (dm00 hj) (dm00 hj') e
  · have hj28 : j < 28 := dm00 hj
    by_cases h14 : j < 14
    · refine Or.inl ?_
      unfold ρ2
      rw [if_pos h14, hlw]
      omega
    · refine Or.inr ?_
      unfold ρ2
      rw [if_neg h14, if_pos hj28]
      omega
  · have h1 : 28 ≤ j := h1
    have h2 : j < 28 := h2
    omega
  · by_cases hA : ∃ t, t < 14 ∧ q = 100000 + 14 * k + t
    · obtain ⟨t, ht, rfl⟩ := hA
      rw [cellOf_hi (by rw [hlw']; omega), rg_at hk ht] at hq
      obtain ⟨e0, g1, g2⟩ := two_back (p := 1) (q := 100000 + 14 * k) (v := cpyV v (rg'.2 k)) (u := rg'.2 k) (j := 14 + t) (e := e) (by omega) (by rw [if_neg (by omega), show 14 + t - 14 = t by omega]; exact hq)
      exact Or.inl ⟨14 + t, e0, Or.inl (by show 14 + t < 28; omega), by unfold ρ2; rw [if_neg (by omega), if_pos (by omega)]; omega, cellOf_get g1, g2⟩
    · by_cases hB : ∃ t, t < 14 ∧ q = 1 + t
      · obtain ⟨t, ht, rfl⟩ := hB
        rw [cellOf_lo (by rw [hlw']; omega), cw_loop f x _ u ht] at hq
        obtain ⟨e0, g1, g2⟩ := two_back (p := 1) (q := 100000 + 14 * k) (v := cpyV v (rg'.2 k)) (u := rg'.2 k) (j := t) (e := e) (by omega) (by rw [if_pos ht]; exact hq)
        exact Or.inl ⟨t, e0, Or.inl (by show t < 28; omega), by unfold ρ2; rw [if_pos ht], cellOf_get g1, g2⟩
      · refine Or.inr ⟨?_, fun j hj ej => ?_⟩
        · unfold cellOf at hq ⊢
          rw [cw_other f x _ v u (fun t ht e => hB ⟨t, ht, e⟩)] at hq
          exact hq
        · have hj28 : j < 28 := dm00 hj
          unfold ρ2 at ej
          by_cases h14 : j < 14
          · rw [if_pos h14] at ej
            exact hB ⟨j, h14, ej.symm⟩
          · rw [if_neg h14, if_pos hj28] at ej
            exact hA ⟨j - 14, by omega, ej.symm⟩
theorem rc_F_cpLR : pRcv 5 F_cpLR := by
  intro as w rg o h
  obtain ⟨v0, w', rg'⟩ := o
  obtain ⟨f, x, v, u, k, rfl, rfl, hk, rfl, rfl, rfl⟩ := cpLR_some h
  exact ⟨_, _, _, rfl, rfl⟩
theorem cl_cpLR (f : Nat → Option Nat) (x v u : pLV) (rg : pRg) (k : Nat) (hk : k < rg.1) : F_cpLR [.ref 1, .ref (100000 + 14 * k)] (cw f x v u) rg = some (none, cw f x (cpyV v (rg.2 k)) u, rg) := by
  have e : (100000 + 14 * k - 100000) / 14 = k := by omega
  have hc : (100000 + 14 * k : Nat) = 100000 + 14 * ((100000 + 14 * k - 100000) / 14) ∧ (100000 + 14 * k - 100000) / 14 < rg.1 := ⟨by rw [e], by rw [e]; exact hk⟩
  refine (pif_t hc).trans ?_
  rw [e]
  rfl
end
