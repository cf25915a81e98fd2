noncomputable section
/-- a loop as it is made -/
def iniV : pLV := mkL [0, 0, 0, 0, 0, -9, 0, 0, 0, 0, 400, 9600, 0, 0, 0, 0, 0, 0, 0, 0, 0, 0, 0, 0, 0, 0, 0, 0, 0, 0, 20000, 30000, 10000, 10000] cFirst (zr 4 z0) z0 z0 z0 z0
theorem dX5_init_0 : decode cX5_init 0 = .ok (.aload_n 0, 1) := by decide +kernel
theorem dX5_init_1 : decode cX5_init 1 = .ok (.invokespecial 3, 3) := by decide +kernel
theorem dX5_init_4 : decode cX5_init 4 = .ok (.aload_n 0, 1) := by decide +kernel
theorem dX5_init_5 : decode cX5_init 5 = .ok (.iconst 0, 1) := by decide +kernel
theorem dX5_init_6 : decode cX5_init 6 = .ok (.putfield 9, 3) := by decide +kernel
theorem dX5_init_9 : decode cX5_init 9 = .ok (.aload_n 0, 1) := by decide +kernel
theorem dX5_init_10 : decode cX5_init 10 = .ok (.iconst 0, 1) := by decide +kernel
theorem dX5_init_11 : decode cX5_init 11 = .ok (.putfield 15, 3) := by decide +kernel
theorem dX5_init_14 : decode cX5_init 14 = .ok (.aload_n 0, 1) := by decide +kernel
theorem dX5_init_15 : decode cX5_init 15 = .ok (.iconst 0, 1) := by decide +kernel
theorem dX5_init_16 : decode cX5_init 16 = .ok (.putfield 18, 3) := by decide +kernel
theorem dX5_init_19 : decode cX5_init 19 = .ok (.aload_n 0, 1) := by decide +kernel
theorem dX5_init_20 : decode cX5_init 20 = .ok (.iconst 0, 1) := by decide +kernel
theorem dX5_init_21 : decode cX5_init 21 = .ok (.putfield 21, 3) := by decide +kernel
theorem dX5_init_24 : decode cX5_init 24 = .ok (.aload_n 0, 1) := by decide +kernel
theorem dX5_init_25 : decode cX5_init 25 = .ok (.iconst 0, 1) := by decide +kernel
theorem dX5_init_26 : decode cX5_init 26 = .ok (.putfield 24, 3) := by decide +kernel
theorem dX5_init_29 : decode cX5_init 29 = .ok (.aload_n 0, 1) := by decide +kernel
theorem dX5_init_30 : decode cX5_init 30 = .ok (.bipush (-9), 2) := by decide +kernel
theorem dX5_init_32 : decode cX5_init 32 = .ok (.putfield 27, 3) := by decide +kernel
theorem dX5_init_35 : decode cX5_init 35 = .ok (.aload_n 0, 1) := by decide +kernel
theorem dX5_init_36 : decode cX5_init 36 = .ok (.iconst 0, 1) := by decide +kernel
theorem dX5_init_37 : decode cX5_init 37 = .ok (.putfield 30, 3) := by decide +kernel
theorem dX5_init_40 : decode cX5_init 40 = .ok (.aload_n 0, 1) := by decide +kernel
theorem dX5_init_41 : decode cX5_init 41 = .ok (.new 33, 3) := by decide +kernel
theorem dX5_init_44 : decode cX5_init 44 = .ok (.dup, 1) := by decide +kernel
theorem dX5_init_45 : decode cX5_init 45 = .ok (.sipush 20000, 3) := by decide +kernel
theorem dX5_init_48 : decode cX5_init 48 = .ok (.invokespecial 35, 3) := by decide +kernel
theorem dX5_init_51 : decode cX5_init 51 = .ok (.putfield 38, 3) := by decide +kernel
theorem dX5_init_54 : decode cX5_init 54 = .ok (.aload_n 0, 1) := by decide +kernel
theorem dX5_init_55 : decode cX5_init 55 = .ok (.new 33, 3) := by decide +kernel
theorem dX5_init_58 : decode cX5_init 58 = .ok (.dup, 1) := by decide +kernel
theorem dX5_init_59 : decode cX5_init 59 = .ok (.sipush 30000, 3) := by decide +kernel
theorem dX5_init_62 : decode cX5_init 62 = .ok (.invokespecial 35, 3) := by decide +kernel
theorem dX5_init_65 : decode cX5_init 65 = .ok (.putfield 42, 3) := by decide +kernel
theorem dX5_init_68 : decode cX5_init 68 = .ok (.aload_n 0, 1) := by decide +kernel
theorem dX5_init_69 : decode cX5_init 69 = .ok (.new 33, 3) := by decide +kernel
theorem dX5_init_72 : decode cX5_init 72 = .ok (.dup, 1) := by decide +kernel
theorem dX5_init_73 : decode cX5_init 73 = .ok (.sipush 10000, 3) := by decide +kernel
theorem dX5_init_76 : decode cX5_init 76 = .ok (.invokespecial 35, 3) := by decide +kernel
theorem dX5_init_79 : decode cX5_init 79 = .ok (.putfield 45, 3) := by decide +kernel
theorem dX5_init_82 : decode cX5_init 82 = .ok (.aload_n 0, 1) := by decide +kernel
theorem dX5_init_83 : decode cX5_init 83 = .ok (.new 33, 3) := by decide +kernel
theorem dX5_init_86 : decode cX5_init 86 = .ok (.dup, 1) := by decide +kernel
theorem dX5_init_87 : decode cX5_init 87 = .ok (.sipush 10000, 3) := by decide +kernel
theorem dX5_init_90 : decode cX5_init 90 = .ok (.invokespecial 35, 3) := by decide +kernel
theorem dX5_init_93 : decode cX5_init 93 = .ok (.putfield 48, 3) := by decide +kernel
theorem dX5_init_96 : decode cX5_init 96 = .ok (.aload_n 0, 1) := by decide +kernel
theorem dX5_init_97 : decode cX5_init 97 = .ok (.new 51, 3) := by decide +kernel
theorem dX5_init_100 : decode cX5_init 100 = .ok (.dup, 1) := by decide +kernel
theorem dX5_init_101 : decode cX5_init 101 = .ok (.invokespecial 53, 3) := by decide +kernel
theorem dX5_init_104 : decode cX5_init 104 = .ok (.putfield 54, 3) := by decide +kernel
theorem dX5_init_107 : decode cX5_init 107 = .ok (.aload_n 0, 1) := by decide +kernel
theorem dX5_init_108 : decode cX5_init 108 = .ok (.new 58, 3) := by decide +kernel
theorem dX5_init_111 : decode cX5_init 111 = .ok (.dup, 1) := by decide +kernel
theorem dX5_init_112 : decode cX5_init 112 = .ok (.invokespecial 60, 3) := by decide +kernel
theorem dX5_init_115 : decode cX5_init 115 = .ok (.putfield 61, 3) := by decide +kernel
theorem dX5_init_118 : decode cX5_init 118 = .ok (.aload_n 0, 1) := by decide +kernel
theorem dX5_init_119 : decode cX5_init 119 = .ok (.new 65, 3) := by decide +kernel
theorem dX5_init_122 : decode cX5_init 122 = .ok (.dup, 1) := by decide +kernel
theorem dX5_init_123 : decode cX5_init 123 = .ok (.invokespecial 67, 3) := by decide +kernel
theorem dX5_init_126 : decode cX5_init 126 = .ok (.putfield 68, 3) := by decide +kernel
theorem dX5_init_129 : decode cX5_init 129 = .ok (.aload_n 0, 1) := by decide +kernel
theorem dX5_init_130 : decode cX5_init 130 = .ok (.bipush 9, 2) := by decide +kernel
theorem dX5_init_132 : decode cX5_init 132 = .ok (.newarray .int, 2) := by decide +kernel
theorem dX5_init_134 : decode cX5_init 134 = .ok (.putfield 72, 3) := by decide +kernel
theorem dX5_init_137 : decode cX5_init 137 = .ok (.getstatic 76, 3) := by decide +kernel
theorem dX5_init_140 : decode cX5_init 140 = .ok (.aload_n 0, 1) := by decide +kernel
theorem dX5_init_141 : decode cX5_init 141 = .ok (.getfield 72, 3) := by decide +kernel
theorem dX5_init_144 : decode cX5_init 144 = .ok (.invokestatic 79, 3) := by decide +kernel
theorem dX5_init_147 : decode cX5_init 147 = .ok (.aload_n 0, 1) := by decide +kernel
theorem dX5_init_148 : decode cX5_init 148 = .ok (.invokevirtual 83, 3) := by decide +kernel
theorem dX5_init_151 : decode cX5_init 151 = .ok (.return_, 1) := by decide +kernel
def k_X5_init : List pEn := [oAload 0, oObjInit, oAload 0, oConst (0), oPut 5 0, oAload 0, oConst (0), oPut 5 1, oAload 0, oConst (0), oPut 5 2, oAload 0, oConst (0), oPut 5 3, oAload 0, oConst (0), oPut 5 4, oAload 0, oConst (-9), oPut 5 5, oAload 0, oConst (0), oPut 5 6, oAload 0, oNew 1 [.int 0, .int 0, .int 0, .int 0] 1, oDup, oConst (20000), oCallA 2 14 F_X1_init, oPutFR 5 7, oAload 0, oNew 1 [.int 0, .int 0, .int 0, .int 0] 2, oDup, oConst (30000), oCallA 2 14 F_X1_init, oPutFR 5 8, oAload 0, oNew 1 [.int 0, .int 0, .int 0, .int 0] 3, oDup, oConst (10000), oCallA 2 14 F_X1_init, oPutFR 5 9, oAload 0, oNew 1 [.int 0, .int 0, .int 0, .int 0] 4, oDup, oConst (10000), oCallA 2 14 F_X1_init, oPutFR 5 10, oAload 0, oNew 0 [.int 0, .int 0, .int 0, .int 0, .int 0, .null] 5, oDup, oCallA 1 14 F_X0_init, oPutFR 5 11, oAload 0, oNew 2 [.int 0, .null, .int 0] 7, oDup, oCallA 1 14 F_X2_init, oPutFR 5 12, oAload 0, oNew 7 [.null, .null, .null, .int 0] 9, oDup, oCallA 1 14 F_X7_init, oPutFR 5 13, oAload 0, oConst (9), oNewa 9 13, oPutFR 5 14, oGets 1000000, oAload 0, oGet 5 14, oCall 2 F_X8_copyNumbers, oAload 0, oCall 1 Fb_X5_startAnew, oVret]
def pc_X5_init (i : Nat) : Nat := ([0, 1, 4, 5, 6, 9, 10, 11, 14, 15, 16, 19, 20, 21, 24, 25, 26, 29, 30, 32, 35, 36, 37, 40, 41, 44, 45, 48, 51, 54, 55, 58, 59, 62, 65, 68, 69, 72, 73, 76, 79, 82, 83, 86, 87, 90, 93, 96, 97, 100, 101, 104, 107, 108, 111, 112, 115, 118, 119, 122, 123, 126, 129, 130, 132, 134, 137, 140, 141, 144, 147, 148, 151] : List Nat).getD i 0
abbrev rm_X5_init : Room := { frames := 2, cells := 13, slots := 13000, locals := 42 }
theorem pl_X5_init : pPlain yX5_init 0 := by decide +kernel
set_option maxRecDepth 100000 in
set_option maxHeartbeats 4000000 in
theorem ok_k_X5_init (l : Launch) : ∀ (i : Nat) (en : pEn), k_X5_init[i]? = some en → EOKc l cX5_init yX5_init.cls 1 none rm_X5_init 14 pc_X5_init i en := by
  refine allOK_at ?_
  refine And.intro (EOK.c (okAload_n dX5_init_0 rfl rfl)) ?_
  refine And.intro (EOK.c (okObjInit dX5_init_1 rfl wm_1_25 wm_1_18 wm_1_19 (by decide) (by decide))) ?_
  refine And.intro (EOK.c (okAload_n dX5_init_4 rfl rfl)) ?_
  refine And.intro (EOK.c (okIconst dX5_init_5 rfl (by first | rfl | decide))) ?_
  refine And.intro (EOK.c (okPut (C := RX5) (T := TX5) (N := 15) dX5_init_6 rfl rfl (by decide) inX5 tyX5_ok nmX5 rfl rfl wm_1_152)) ?_
  refine And.intro (EOK.c (okAload_n dX5_init_9 rfl rfl)) ?_
  refine And.intro (EOK.c (okIconst dX5_init_10 rfl (by first | rfl | decide))) ?_
  refine And.intro (EOK.c (okPut (C := RX5) (T := TX5) (N := 15) dX5_init_11 rfl rfl (by decide) inX5 tyX5_ok nmX5 rfl rfl wm_1_154)) ?_
  refine And.intro (EOK.c (okAload_n dX5_init_14 rfl rfl)) ?_
  refine And.intro (EOK.c (okIconst dX5_init_15 rfl (by first | rfl | decide))) ?_
  refine And.intro (EOK.c (okPut (C := RX5) (T := TX5) (N := 15) dX5_init_16 rfl rfl (by decide) inX5 tyX5_ok nmX5 rfl rfl wm_1_156)) ?_
  refine And.intro (EOK.c (okAload_n dX5_init_19 rfl rfl)) ?_
  refine And.intro (EOK.c (okIconst dX5_init_20 rfl (by first | rfl | decide))) ?_
  refine And.intro (EOK.c (okPut (C := RX5) (T := TX5) (N := 15) dX5_init_21 rfl rfl (by decide) inX5 tyX5_ok nmX5 rfl rfl wm_1_158)) ?_
  refine And.intro (EOK.c (okAload_n dX5_init_24 rfl rfl)) ?_
  refine And.intro (EOK.c (okIconst dX5_init_25 rfl (by first | rfl | decide))) ?_
  refine And.intro (EOK.c (okPut (C := RX5) (T := TX5) (N := 15) dX5_init_26 rfl rfl (by decide) inX5 tyX5_ok nmX5 rfl rfl wm_1_160)) ?_
  refine And.intro (EOK.c (okAload_n dX5_init_29 rfl rfl)) ?_
  refine And.intro (EOK.c (okBipush dX5_init_30 rfl (by first | rfl | decide))) ?_
  refine And.intro (EOK.c (okPut (C := RX5) (T := TX5) (N := 15) dX5_init_32 rfl rfl (by decide) inX5 tyX5_ok nmX5 rfl rfl wm_1_162)) ?_
  refine And.intro (EOK.c (okAload_n dX5_init_35 rfl rfl)) ?_
  refine And.intro (EOK.c (okIconst dX5_init_36 rfl (by first | rfl | decide))) ?_
  refine And.intro (EOK.c (okPut (C := RX5) (T := TX5) (N := 15) dX5_init_37 rfl rfl (by decide) inX5 tyX5_ok nmX5 rfl rfl wm_1_164)) ?_
  refine And.intro (EOK.c (okAload_n dX5_init_40 rfl rfl)) ?_
  refine And.intro (EOK.c (okNew (C := RX1) (T := TX1) (N := 4) dX5_init_41 rfl rfl inX1 tyX1_ok wm_1_26 wm_1_27 wm_1_3 (by intro j hj; rcases (show j = 0 ∨ j = 1 ∨ j = 2 ∨ j = 3 by omega) with rfl | rfl | rfl | rfl <;> rfl) (fun _ => rfl) (by decide) (by decide))) ?_
  refine And.intro (EOK.c (okDup dX5_init_44 rfl)) ?_
  refine And.intro (EOK.c (okSipush dX5_init_45 rfl (by first | rfl | decide))) ?_
  refine And.intro (EOK.c (okCallI (y := yX1_init) (oCallA_is _ _ _) dX5_init_48 rfl (ok_F_X1_init l) (fun _ _ _ _ h => frC_args h) wm_1_28 wm_1_29 wm_1_3 wm_1_30 rfl pl_X1_init (by decide))) ?_
  refine And.intro (okPutFR (C := RX5) (T := TX5) (N := 15) dX5_init_51 rfl rfl (by decide) inX5 tyX5_ok nmX5 rfl (fun _ => rfl) (fun _ => rfl) rfl rfl wm_1_166) ?_
  refine And.intro (EOK.c (okAload_n dX5_init_54 rfl rfl)) ?_
  refine And.intro (EOK.c (okNew (C := RX1) (T := TX1) (N := 4) dX5_init_55 rfl rfl inX1 tyX1_ok wm_1_26 wm_1_27 wm_1_3 (by intro j hj; rcases (show j = 0 ∨ j = 1 ∨ j = 2 ∨ j = 3 by omega) with rfl | rfl | rfl | rfl <;> rfl) (fun _ => rfl) (by decide) (by decide))) ?_
  refine And.intro (EOK.c (okDup dX5_init_58 rfl)) ?_
  refine And.intro (EOK.c (okSipush dX5_init_59 rfl (by first | rfl | decide))) ?_
  refine And.intro (EOK.c (okCallI (y := yX1_init) (oCallA_is _ _ _) dX5_init_62 rfl (ok_F_X1_init l) (fun _ _ _ _ h => frC_args h) wm_1_28 wm_1_29 wm_1_3 wm_1_30 rfl pl_X1_init (by decide))) ?_
  refine And.intro (okPutFR (C := RX5) (T := TX5) (N := 15) dX5_init_65 rfl rfl (by decide) inX5 tyX5_ok nmX5 rfl (fun _ => rfl) (fun _ => rfl) rfl rfl wm_1_167) ?_
  refine And.intro (EOK.c (okAload_n dX5_init_68 rfl rfl)) ?_
  refine And.intro (EOK.c (okNew (C := RX1) (T := TX1) (N := 4) dX5_init_69 rfl rfl inX1 tyX1_ok wm_1_26 wm_1_27 wm_1_3 (by intro j hj; rcases (show j = 0 ∨ j = 1 ∨ j = 2 ∨ j = 3 by omega) with rfl | rfl | rfl | rfl <;> rfl) (fun _ => rfl) (by decide) (by decide))) ?_
  refine And.intro (EOK.c (okDup dX5_init_72 rfl)) ?_
  refine And.intro (EOK.c (okSipush dX5_init_73 rfl (by first | rfl | decide))) ?_
  refine And.intro (EOK.c (okCallI (y := yX1_init) (oCallA_is _ _ _) dX5_init_76 rfl (ok_F_X1_init l) (fun _ _ _ _ h => frC_args h) wm_1_28 wm_1_29 wm_1_3 wm_1_30 rfl pl_X1_init (by decide))) ?_
  refine And.intro (okPutFR (C := RX5) (T := TX5) (N := 15) dX5_init_79 rfl rfl (by decide) inX5 tyX5_ok nmX5 rfl (fun _ => rfl) (fun _ => rfl) rfl rfl wm_1_169) ?_
  refine And.intro (EOK.c (okAload_n dX5_init_82 rfl rfl)) ?_
  refine And.intro (EOK.c (okNew (C := RX1) (T := TX1) (N := 4) dX5_init_83 rfl rfl inX1 tyX1_ok wm_1_26 wm_1_27 wm_1_3 (by intro j hj; rcases (show j = 0 ∨ j = 1 ∨ j = 2 ∨ j = 3 by omega) with rfl | rfl | rfl | rfl <;> rfl) (fun _ => rfl) (by decide) (by decide))) ?_
  refine And.intro (EOK.c (okDup dX5_init_86 rfl)) ?_
  refine And.intro (EOK.c (okSipush dX5_init_87 rfl (by first | rfl | decide))) ?_
  refine And.intro (EOK.c (okCallI (y := yX1_init) (oCallA_is _ _ _) dX5_init_90 rfl (ok_F_X1_init l) (fun _ _ _ _ h => frC_args h) wm_1_28 wm_1_29 wm_1_3 wm_1_30 rfl pl_X1_init (by decide))) ?_
  refine And.intro (okPutFR (C := RX5) (T := TX5) (N := 15) dX5_init_93 rfl rfl (by decide) inX5 tyX5_ok nmX5 rfl (fun _ => rfl) (fun _ => rfl) rfl rfl wm_1_170) ?_
  refine And.intro (EOK.c (okAload_n dX5_init_96 rfl rfl)) ?_
  refine And.intro (EOK.c (okNew (C := RX0) (T := TX0) (N := 6) dX5_init_97 rfl rfl inX0 tyX0_ok wm_1_49 wm_1_50 wm_1_4 (by intro j hj; rcases (show j = 0 ∨ j = 1 ∨ j = 2 ∨ j = 3 ∨ j = 4 ∨ j = 5 by omega) with rfl | rfl | rfl | rfl | rfl | rfl <;> rfl) (fun _ => rfl) (by decide) (by decide))) ?_
  refine And.intro (EOK.c (okDup dX5_init_100 rfl)) ?_
  refine And.intro (EOK.c (okCallIN (y := yX0_init) (host := "BrokeLoop") (oCallA_is _ _ _) dX5_init_101 rfl (ok_F_X0_init l) (fun _ _ _ _ h => frC_args h) (by decide) wm_1_52 wm_1_4 wm_1_53 rfl pl_X0_init (by decide))) ?_
  refine And.intro (okPutFR (C := RX5) (T := TX5) (N := 15) dX5_init_104 rfl rfl (by decide) inX5 tyX5_ok nmX5 rfl (fun _ => rfl) (fun _ => rfl) rfl rfl wm_1_172) ?_
  refine And.intro (EOK.c (okAload_n dX5_init_107 rfl rfl)) ?_
  refine And.intro (EOK.c (okNew (C := RX2) (T := TX2) (N := 3) dX5_init_108 rfl rfl inX2 tyX2_ok wm_1_85 wm_1_86 wm_1_5 (by intro j hj; rcases (show j = 0 ∨ j = 1 ∨ j = 2 by omega) with rfl | rfl | rfl <;> rfl) (fun _ => rfl) (by decide) (by decide))) ?_
  refine And.intro (EOK.c (okDup dX5_init_111 rfl)) ?_
  refine And.intro (EOK.c (okCallIN (y := yX2_init) (host := "BrokeLoop") (oCallA_is _ _ _) dX5_init_112 rfl (ok_F_X2_init l) (fun _ _ _ _ h => frC_args h) (by decide) wm_1_88 wm_1_5 wm_1_89 rfl pl_X2_init (by decide))) ?_
  refine And.intro (okPutFR (C := RX5) (T := TX5) (N := 15) dX5_init_115 rfl rfl (by decide) inX5 tyX5_ok nmX5 rfl (fun _ => rfl) (fun _ => rfl) rfl rfl wm_1_174) ?_
  refine And.intro (EOK.c (okAload_n dX5_init_118 rfl rfl)) ?_
  refine And.intro (EOK.c (okNew (C := RX7) (T := TX7) (N := 4) dX5_init_119 rfl rfl inX7 tyX7_ok wm_1_103 wm_1_104 wm_1_6 (by intro j hj; rcases (show j = 0 ∨ j = 1 ∨ j = 2 ∨ j = 3 by omega) with rfl | rfl | rfl | rfl <;> rfl) (fun _ => rfl) (by decide) (by decide))) ?_
  refine And.intro (EOK.c (okDup dX5_init_122 rfl)) ?_
  refine And.intro (EOK.c (okCallIN (y := yX7_init) (host := "BrokeLoop") (oCallA_is _ _ _) dX5_init_123 rfl (ok_F_X7_init l) (fun _ _ _ _ h => frC_args h) (by decide) wm_1_106 wm_1_6 wm_1_107 rfl pl_X7_init (by decide))) ?_
  refine And.intro (okPutFR (C := RX5) (T := TX5) (N := 15) dX5_init_126 rfl rfl (by decide) inX5 tyX5_ok nmX5 rfl (fun _ => rfl) (fun _ => rfl) rfl rfl wm_1_176) ?_
  refine And.intro (EOK.c (okAload_n dX5_init_129 rfl rfl)) ?_
  refine And.intro (EOK.c (okBipush dX5_init_130 rfl (by first | rfl | decide))) ?_
  refine And.intro (EOK.c (okNewa dX5_init_132 rfl wm_1_84 (by decide) (by decide))) ?_
  refine And.intro (okPutFR (C := RX5) (T := TX5) (N := 15) dX5_init_134 rfl rfl (by decide) inX5 tyX5_ok nmX5 rfl (fun _ => rfl) (fun _ => rfl) rfl rfl wm_1_178) ?_
  refine And.intro (EOK.c (okGetsN (n := "FIRST_VALUE") dX5_init_137 rfl (by decide) (by decide))) ?_
  refine And.intro (EOK.c (okAload_n dX5_init_140 rfl rfl)) ?_
  refine And.intro (EOK.c (okGet (C := RX5) (T := TX5) (N := 15) dX5_init_141 rfl rfl (by decide) inX5 wm_1_178)) ?_
  refine And.intro (EOK.c (okCallSN (y := yX8_copyNumbers) (host := "BrokeLoop") (oCall_is _ _ _) dX5_init_144 rfl (ok_F_X8_copyNumbers l) (by decide) wm_1_134 wm_1_1 wm_1_135 pl_X8_copyNumbers (by decide))) ?_
  refine And.intro (EOK.c (okAload_n dX5_init_147 rfl rfl)) ?_
  refine And.intro (EOK.c (okCallV (y := yX5_startAnew) (T := TX5) (oCall_is _ _ _) dX5_init_148 rfl (ok_Fb_X5_startAnew l) rc_Fb_X5_startAnew rfl wm_1_136 wm_1_137 wm_1_138 wm_1_2 wm_1_139 pl_X5_startAnew (by decide))) ?_
  refine And.intro (EOK.c (okVret dX5_init_151 rfl)) ?_
  exact trivial
def w0_X5_init : pWd := [.inr (5, [.int 0, .int 0, .int 0, .int 0, .int 0, .int 0, .int 0, .null, .null, .null, .null, .null, .null, .null, .null])]
def w1_X5_init  : pWd := loopCells 0 iniV
set_option maxHeartbeats 1000000 in
set_option maxRecDepth 100000 in
theorem run_X5_init (rg : pRg)  : ∃ fu, ex k_X5_init fu 0 [(0, .ref 0)] [] w0_X5_init rg = some (none, w1_X5_init , rg) := by
  refine ⟨3, ?_⟩
  rfl
def G_X5_init : pG := fun args w => match args, w with
  | [.ref 0], [.inr (c, [.int z0, .int z1, .int z2, .int z3, .int z4, .int z5, .int z6, .null, .null, .null, .null, .null, .null, .null, .null])] => (match Nat.beq c 5 with
    | true => (match zeroB [z0, z1, z2, z3, z4, z5, z6] with
      | true => some (none, w1_X5_init )
      | false => none)
    | false => none)
  | _, _ => none
set_option maxRecDepth 100000 in
set_option maxHeartbeats 4000000 in
theorem ct_X5_init (l : Launch) : ∀ args0 w0 v0 w1 rg, G_X5_init args0 w0 = some (v0, w1) → pCT l yX5_init (pWs yX5_init cX5_init 1 none) rm_X5_init args0 w0 rg (v0, w1, rg) := by
  intro args0 w0 v0 w1 rg h
  unfold G_X5_init at h
  split at h
  next =>
    split at h
    next hb =>
      split at h
      next hz =>
        have hb := Nat.eq_of_beq_eq_true hb
        subst hb
        have hz := zeroB_eq hz
        simp only [List.forall_mem_cons] at hz
        obtain ⟨rfl, rfl, rfl, rfl, rfl, rfl, rfl, -⟩ := hz
        cases h
        exact met_of_exc (by decide) rfl (ok_k_X5_init l) rfl (run_X5_init rg ) (Nat.le_of_ble_eq_true rfl) rfl (Nat.le_of_ble_eq_true rfl) (Nat.le_of_ble_eq_true rfl) (Nat.le_of_ble_eq_true rfl) rfl rfl
      next => cases h
    next => cases h
  next => cases h
def F_X5_init : pF := frC G_X5_init
theorem ok_F_X5_init (l : Launch) : pFOK l yX5_init (pWs yX5_init cX5_init 1 none) rm_X5_init F_X5_init := pFOK_frC (fun a b c d h => ct_X5_init l a b c d rg00 h)
end
