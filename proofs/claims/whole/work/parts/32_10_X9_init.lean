noncomputable section
def iniW : Nat → Int32 := upd (upd (upd (upd (upd (upd (upd (upd (upd z0 0 40) 1 960) 2 500) 3 300) 4 30) 5 3) 6 10) 7 500) 8 5
def iniM : pLV := mkL [0, 0, 0, 0, 0, 0, 0, -9, -9, 0, 0, 0, 0, 0, 0, 0, 0, 0, 0, 0, 0] iniW z0 z0 z0 z0 z0
theorem dX9_init_0 : decode cX9_init 0 = .ok (.aload_n 0, 1) := by decide +kernel
theorem dX9_init_1 : decode cX9_init 1 = .ok (.invokespecial 1, 3) := by decide +kernel
theorem dX9_init_4 : decode cX9_init 4 = .ok (.aload_n 0, 1) := by decide +kernel
theorem dX9_init_5 : decode cX9_init 5 = .ok (.bipush 110, 2) := by decide +kernel
theorem dX9_init_7 : decode cX9_init 7 = .ok (.newarray .int, 2) := by decide +kernel
theorem dX9_init_9 : decode cX9_init 9 = .ok (.putfield 7, 3) := by decide +kernel
theorem dX9_init_12 : decode cX9_init 12 = .ok (.aload_n 0, 1) := by decide +kernel
theorem dX9_init_13 : decode cX9_init 13 = .ok (.sipush 880, 3) := by decide +kernel
theorem dX9_init_16 : decode cX9_init 16 = .ok (.newarray .int, 2) := by decide +kernel
theorem dX9_init_18 : decode cX9_init 18 = .ok (.putfield 13, 3) := by decide +kernel
theorem dX9_init_21 : decode cX9_init 21 = .ok (.aload_n 0, 1) := by decide +kernel
theorem dX9_init_22 : decode cX9_init 22 = .ok (.sipush 220, 3) := by decide +kernel
theorem dX9_init_25 : decode cX9_init 25 = .ok (.newarray .int, 2) := by decide +kernel
theorem dX9_init_27 : decode cX9_init 27 = .ok (.putfield 16, 3) := by decide +kernel
theorem dX9_init_30 : decode cX9_init 30 = .ok (.aload_n 0, 1) := by decide +kernel
theorem dX9_init_31 : decode cX9_init 31 = .ok (.bipush 120, 2) := by decide +kernel
theorem dX9_init_33 : decode cX9_init 33 = .ok (.newarray .int, 2) := by decide +kernel
theorem dX9_init_35 : decode cX9_init 35 = .ok (.putfield 19, 3) := by decide +kernel
theorem dX9_init_38 : decode cX9_init 38 = .ok (.aload_n 0, 1) := by decide +kernel
theorem dX9_init_39 : decode cX9_init 39 = .ok (.bipush (-9), 2) := by decide +kernel
theorem dX9_init_41 : decode cX9_init 41 = .ok (.putfield 22, 3) := by decide +kernel
theorem dX9_init_44 : decode cX9_init 44 = .ok (.aload_n 0, 1) := by decide +kernel
theorem dX9_init_45 : decode cX9_init 45 = .ok (.bipush (-9), 2) := by decide +kernel
theorem dX9_init_47 : decode cX9_init 47 = .ok (.putfield 26, 3) := by decide +kernel
theorem dX9_init_50 : decode cX9_init 50 = .ok (.aload_n 0, 1) := by decide +kernel
theorem dX9_init_51 : decode cX9_init 51 = .ok (.bipush 60, 2) := by decide +kernel
theorem dX9_init_53 : decode cX9_init 53 = .ok (.newarray .int, 2) := by decide +kernel
theorem dX9_init_55 : decode cX9_init 55 = .ok (.putfield 29, 3) := by decide +kernel
theorem dX9_init_58 : decode cX9_init 58 = .ok (.aload_n 0, 1) := by decide +kernel
theorem dX9_init_59 : decode cX9_init 59 = .ok (.bipush 110, 2) := by decide +kernel
theorem dX9_init_61 : decode cX9_init 61 = .ok (.newarray .int, 2) := by decide +kernel
theorem dX9_init_63 : decode cX9_init 63 = .ok (.putfield 32, 3) := by decide +kernel
theorem dX9_init_66 : decode cX9_init 66 = .ok (.aload_n 0, 1) := by decide +kernel
theorem dX9_init_67 : decode cX9_init 67 = .ok (.getfield 7, 3) := by decide +kernel
theorem dX9_init_70 : decode cX9_init 70 = .ok (.iconst 0, 1) := by decide +kernel
theorem dX9_init_71 : decode cX9_init 71 = .ok (.bipush 40, 2) := by decide +kernel
theorem dX9_init_73 : decode cX9_init 73 = .ok (.iastore, 1) := by decide +kernel
theorem dX9_init_74 : decode cX9_init 74 = .ok (.aload_n 0, 1) := by decide +kernel
theorem dX9_init_75 : decode cX9_init 75 = .ok (.getfield 7, 3) := by decide +kernel
theorem dX9_init_78 : decode cX9_init 78 = .ok (.iconst 1, 1) := by decide +kernel
theorem dX9_init_79 : decode cX9_init 79 = .ok (.sipush 960, 3) := by decide +kernel
theorem dX9_init_82 : decode cX9_init 82 = .ok (.iastore, 1) := by decide +kernel
theorem dX9_init_83 : decode cX9_init 83 = .ok (.aload_n 0, 1) := by decide +kernel
theorem dX9_init_84 : decode cX9_init 84 = .ok (.getfield 7, 3) := by decide +kernel
theorem dX9_init_87 : decode cX9_init 87 = .ok (.iconst 2, 1) := by decide +kernel
theorem dX9_init_88 : decode cX9_init 88 = .ok (.sipush 500, 3) := by decide +kernel
theorem dX9_init_91 : decode cX9_init 91 = .ok (.iastore, 1) := by decide +kernel
theorem dX9_init_92 : decode cX9_init 92 = .ok (.aload_n 0, 1) := by decide +kernel
theorem dX9_init_93 : decode cX9_init 93 = .ok (.getfield 7, 3) := by decide +kernel
theorem dX9_init_96 : decode cX9_init 96 = .ok (.iconst 3, 1) := by decide +kernel
theorem dX9_init_97 : decode cX9_init 97 = .ok (.sipush 300, 3) := by decide +kernel
theorem dX9_init_100 : decode cX9_init 100 = .ok (.iastore, 1) := by decide +kernel
theorem dX9_init_101 : decode cX9_init 101 = .ok (.aload_n 0, 1) := by decide +kernel
theorem dX9_init_102 : decode cX9_init 102 = .ok (.getfield 7, 3) := by decide +kernel
theorem dX9_init_105 : decode cX9_init 105 = .ok (.iconst 4, 1) := by decide +kernel
theorem dX9_init_106 : decode cX9_init 106 = .ok (.bipush 30, 2) := by decide +kernel
theorem dX9_init_108 : decode cX9_init 108 = .ok (.iastore, 1) := by decide +kernel
theorem dX9_init_109 : decode cX9_init 109 = .ok (.aload_n 0, 1) := by decide +kernel
theorem dX9_init_110 : decode cX9_init 110 = .ok (.getfield 7, 3) := by decide +kernel
theorem dX9_init_113 : decode cX9_init 113 = .ok (.iconst 5, 1) := by decide +kernel
theorem dX9_init_114 : decode cX9_init 114 = .ok (.iconst 3, 1) := by decide +kernel
theorem dX9_init_115 : decode cX9_init 115 = .ok (.iastore, 1) := by decide +kernel
theorem dX9_init_116 : decode cX9_init 116 = .ok (.aload_n 0, 1) := by decide +kernel
theorem dX9_init_117 : decode cX9_init 117 = .ok (.getfield 7, 3) := by decide +kernel
theorem dX9_init_120 : decode cX9_init 120 = .ok (.bipush 6, 2) := by decide +kernel
theorem dX9_init_122 : decode cX9_init 122 = .ok (.bipush 10, 2) := by decide +kernel
theorem dX9_init_124 : decode cX9_init 124 = .ok (.iastore, 1) := by decide +kernel
theorem dX9_init_125 : decode cX9_init 125 = .ok (.aload_n 0, 1) := by decide +kernel
theorem dX9_init_126 : decode cX9_init 126 = .ok (.getfield 7, 3) := by decide +kernel
theorem dX9_init_129 : decode cX9_init 129 = .ok (.bipush 7, 2) := by decide +kernel
theorem dX9_init_131 : decode cX9_init 131 = .ok (.sipush 500, 3) := by decide +kernel
theorem dX9_init_134 : decode cX9_init 134 = .ok (.iastore, 1) := by decide +kernel
theorem dX9_init_135 : decode cX9_init 135 = .ok (.aload_n 0, 1) := by decide +kernel
theorem dX9_init_136 : decode cX9_init 136 = .ok (.getfield 7, 3) := by decide +kernel
theorem dX9_init_139 : decode cX9_init 139 = .ok (.bipush 8, 2) := by decide +kernel
theorem dX9_init_141 : decode cX9_init 141 = .ok (.iconst 5, 1) := by decide +kernel
theorem dX9_init_142 : decode cX9_init 142 = .ok (.iastore, 1) := by decide +kernel
theorem dX9_init_143 : decode cX9_init 143 = .ok (.aload_n 0, 1) := by decide +kernel
theorem dX9_init_144 : decode cX9_init 144 = .ok (.invokevirtual 35, 3) := by decide +kernel
theorem dX9_init_147 : decode cX9_init 147 = .ok (.return_, 1) := by decide +kernel
def k_X9_init : List pEn := [oAload 0, oObjInit, oAload 0, oConst (110), oNewa 110 1, oPutFR 9 0, oAload 0, oConst (880), oNewa 880 2, oPutFR 9 1, oAload 0, oConst (220), oNewa 220 3, oPutFR 9 3, oAload 0, oConst (120), oNewa 120 4, oPutFR 9 5, oAload 0, oConst (-9), oPut 9 7, oAload 0, oConst (-9), oPut 9 8, oAload 0, oConst (60), oNewa 60 5, oPutFR 9 14, oAload 0, oConst (110), oNewa 110 6, oPutFR 9 21, oAload 0, oGet 9 0, oConst (0), oConst (40), oIastN 0, oAload 0, oGet 9 0, oConst (1), oConst (960), oIastN 1, oAload 0, oGet 9 0, oConst (2), oConst (500), oIastN 2, oAload 0, oGet 9 0, oConst (3), oConst (300), oIastN 3, oAload 0, oGet 9 0, oConst (4), oConst (30), oIastN 4, oAload 0, oGet 9 0, oConst (5), oConst (3), oIastN 5, oAload 0, oGet 9 0, oConst (6), oConst (10), oIastN 6, oAload 0, oGet 9 0, oConst (7), oConst (500), oIastN 7, oAload 0, oGet 9 0, oConst (8), oConst (5), oIastN 8, oAload 0, oCallZ 1 F_X9_lay, oVret]
def pc_X9_init (i : Nat) : Nat := ([0, 1, 4, 5, 7, 9, 12, 13, 16, 18, 21, 22, 25, 27, 30, 31, 33, 35, 38, 39, 41, 44, 45, 47, 50, 51, 53, 55, 58, 59, 61, 63, 66, 67, 70, 71, 73, 74, 75, 78, 79, 82, 83, 84, 87, 88, 91, 92, 93, 96, 97, 100, 101, 102, 105, 106, 108, 109, 110, 113, 114, 115, 116, 117, 120, 122, 124, 125, 126, 129, 131, 134, 135, 136, 139, 141, 142, 143, 144, 147] : List Nat).getD i 0
abbrev rm_X9_init : Room := { frames := 1, cells := 6, slots := 6000, locals := 21 }
theorem pl_X9_init : pPlain yX9_init 0 := by decide +kernel
set_option maxRecDepth 100000 in
set_option maxHeartbeats 4000000 in
theorem ok_k_X9_init (l : Launch) : ∀ (i : Nat) (en : pEn), k_X9_init[i]? = some en → EOKc l cX9_init yX9_init.cls 1 none rm_X9_init 7 pc_X9_init i en := by
  refine allOK_at ?_
  refine And.intro (EOK.c (okAload_n dX9_init_0 rfl rfl)) ?_
  refine And.intro (EOK.c (okObjInit dX9_init_1 rfl wm_3_136 wm_1_18 wm_1_19 (by decide) (by decide))) ?_
  refine And.intro (EOK.c (okAload_n dX9_init_4 rfl rfl)) ?_
  refine And.intro (EOK.c (okBipush dX9_init_5 rfl (by first | rfl | decide))) ?_
  refine And.intro (EOK.c (okNewa dX9_init_7 rfl wm_1_84 (by decide) (by decide))) ?_
  refine And.intro (okPutFR (C := RX9) (T := TX9) (N := 22) dX9_init_9 rfl rfl (by decide) inX9 tyX9_ok nmX9 rfl (fun _ => rfl) (fun _ => rfl) rfl rfl wm_3_141) ?_
  refine And.intro (EOK.c (okAload_n dX9_init_12 rfl rfl)) ?_
  refine And.intro (EOK.c (okSipush dX9_init_13 rfl (by first | rfl | decide))) ?_
  refine And.intro (EOK.c (okNewa dX9_init_16 rfl wm_1_84 (by decide) (by decide))) ?_
  refine And.intro (okPutFR (C := RX9) (T := TX9) (N := 22) dX9_init_18 rfl rfl (by decide) inX9 tyX9_ok nmX9 rfl (fun _ => rfl) (fun _ => rfl) rfl rfl wm_3_142) ?_
  refine And.intro (EOK.c (okAload_n dX9_init_21 rfl rfl)) ?_
  refine And.intro (EOK.c (okSipush dX9_init_22 rfl (by first | rfl | decide))) ?_
  refine And.intro (EOK.c (okNewa dX9_init_25 rfl wm_1_84 (by decide) (by decide))) ?_
  refine And.intro (okPutFR (C := RX9) (T := TX9) (N := 22) dX9_init_27 rfl rfl (by decide) inX9 tyX9_ok nmX9 rfl (fun _ => rfl) (fun _ => rfl) rfl rfl wm_3_144) ?_
  refine And.intro (EOK.c (okAload_n dX9_init_30 rfl rfl)) ?_
  refine And.intro (EOK.c (okBipush dX9_init_31 rfl (by first | rfl | decide))) ?_
  refine And.intro (EOK.c (okNewa dX9_init_33 rfl wm_1_84 (by decide) (by decide))) ?_
  refine And.intro (okPutFR (C := RX9) (T := TX9) (N := 22) dX9_init_35 rfl rfl (by decide) inX9 tyX9_ok nmX9 rfl (fun _ => rfl) (fun _ => rfl) rfl rfl wm_3_146) ?_
  refine And.intro (EOK.c (okAload_n dX9_init_38 rfl rfl)) ?_
  refine And.intro (EOK.c (okBipush dX9_init_39 rfl (by first | rfl | decide))) ?_
  refine And.intro (EOK.c (okPut (C := RX9) (T := TX9) (N := 22) dX9_init_41 rfl rfl (by decide) inX9 tyX9_ok nmX9 rfl rfl wm_3_148)) ?_
  refine And.intro (EOK.c (okAload_n dX9_init_44 rfl rfl)) ?_
  refine And.intro (EOK.c (okBipush dX9_init_45 rfl (by first | rfl | decide))) ?_
  refine And.intro (EOK.c (okPut (C := RX9) (T := TX9) (N := 22) dX9_init_47 rfl rfl (by decide) inX9 tyX9_ok nmX9 rfl rfl wm_3_149)) ?_
  refine And.intro (EOK.c (okAload_n dX9_init_50 rfl rfl)) ?_
  refine And.intro (EOK.c (okBipush dX9_init_51 rfl (by first | rfl | decide))) ?_
  refine And.intro (EOK.c (okNewa dX9_init_53 rfl wm_1_84 (by decide) (by decide))) ?_
  refine And.intro (okPutFR (C := RX9) (T := TX9) (N := 22) dX9_init_55 rfl rfl (by decide) inX9 tyX9_ok nmX9 rfl (fun _ => rfl) (fun _ => rfl) rfl rfl wm_3_155) ?_
  refine And.intro (EOK.c (okAload_n dX9_init_58 rfl rfl)) ?_
  refine And.intro (EOK.c (okBipush dX9_init_59 rfl (by first | rfl | decide))) ?_
  refine And.intro (EOK.c (okNewa dX9_init_61 rfl wm_1_84 (by decide) (by decide))) ?_
  refine And.intro (okPutFR (C := RX9) (T := TX9) (N := 22) dX9_init_63 rfl rfl (by decide) inX9 tyX9_ok nmX9 rfl (fun _ => rfl) (fun _ => rfl) rfl rfl wm_3_162) ?_
  refine And.intro (EOK.c (okAload_n dX9_init_66 rfl rfl)) ?_
  refine And.intro (EOK.c (okGet (C := RX9) (T := TX9) (N := 22) dX9_init_67 rfl rfl (by decide) inX9 wm_3_141)) ?_
  refine And.intro (EOK.c (okIconst dX9_init_70 rfl (by first | rfl | decide))) ?_
  refine And.intro (EOK.c (okBipush dX9_init_71 rfl (by first | rfl | decide))) ?_
  refine And.intro (EOK.c (okIastN dX9_init_73 rfl)) ?_
  refine And.intro (EOK.c (okAload_n dX9_init_74 rfl rfl)) ?_
  refine And.intro (EOK.c (okGet (C := RX9) (T := TX9) (N := 22) dX9_init_75 rfl rfl (by decide) inX9 wm_3_141)) ?_
  refine And.intro (EOK.c (okIconst dX9_init_78 rfl (by first | rfl | decide))) ?_
  refine And.intro (EOK.c (okSipush dX9_init_79 rfl (by first | rfl | decide))) ?_
  refine And.intro (EOK.c (okIastN dX9_init_82 rfl)) ?_
  refine And.intro (EOK.c (okAload_n dX9_init_83 rfl rfl)) ?_
  refine And.intro (EOK.c (okGet (C := RX9) (T := TX9) (N := 22) dX9_init_84 rfl rfl (by decide) inX9 wm_3_141)) ?_
  refine And.intro (EOK.c (okIconst dX9_init_87 rfl (by first | rfl | decide))) ?_
  refine And.intro (EOK.c (okSipush dX9_init_88 rfl (by first | rfl | decide))) ?_
  refine And.intro (EOK.c (okIastN dX9_init_91 rfl)) ?_
  refine And.intro (EOK.c (okAload_n dX9_init_92 rfl rfl)) ?_
  refine And.intro (EOK.c (okGet (C := RX9) (T := TX9) (N := 22) dX9_init_93 rfl rfl (by decide) inX9 wm_3_141)) ?_
  refine And.intro (EOK.c (okIconst dX9_init_96 rfl (by first | rfl | decide))) ?_
  refine And.intro (EOK.c (okSipush dX9_init_97 rfl (by first | rfl | decide))) ?_
  refine And.intro (EOK.c (okIastN dX9_init_100 rfl)) ?_
  refine And.intro (EOK.c (okAload_n dX9_init_101 rfl rfl)) ?_
  refine And.intro (EOK.c (okGet (C := RX9) (T := TX9) (N := 22) dX9_init_102 rfl rfl (by decide) inX9 wm_3_141)) ?_
  refine And.intro (EOK.c (okIconst dX9_init_105 rfl (by first | rfl | decide))) ?_
  refine And.intro (EOK.c (okBipush dX9_init_106 rfl (by first | rfl | decide))) ?_
  refine And.intro (EOK.c (okIastN dX9_init_108 rfl)) ?_
  refine And.intro (EOK.c (okAload_n dX9_init_109 rfl rfl)) ?_
  refine And.intro (EOK.c (okGet (C := RX9) (T := TX9) (N := 22) dX9_init_110 rfl rfl (by decide) inX9 wm_3_141)) ?_
  refine And.intro (EOK.c (okIconst dX9_init_113 rfl (by first | rfl | decide))) ?_
  refine And.intro (EOK.c (okIconst dX9_init_114 rfl (by first | rfl | decide))) ?_
  refine And.intro (EOK.c (okIastN dX9_init_115 rfl)) ?_
  refine And.intro (EOK.c (okAload_n dX9_init_116 rfl rfl)) ?_
  refine And.intro (EOK.c (okGet (C := RX9) (T := TX9) (N := 22) dX9_init_117 rfl rfl (by decide) inX9 wm_3_141)) ?_
  refine And.intro (EOK.c (okBipush dX9_init_120 rfl (by first | rfl | decide))) ?_
  refine And.intro (EOK.c (okBipush dX9_init_122 rfl (by first | rfl | decide))) ?_
  refine And.intro (EOK.c (okIastN dX9_init_124 rfl)) ?_
  refine And.intro (EOK.c (okAload_n dX9_init_125 rfl rfl)) ?_
  refine And.intro (EOK.c (okGet (C := RX9) (T := TX9) (N := 22) dX9_init_126 rfl rfl (by decide) inX9 wm_3_141)) ?_
  refine And.intro (EOK.c (okBipush dX9_init_129 rfl (by first | rfl | decide))) ?_
  refine And.intro (EOK.c (okSipush dX9_init_131 rfl (by first | rfl | decide))) ?_
  refine And.intro (EOK.c (okIastN dX9_init_134 rfl)) ?_
  refine And.intro (EOK.c (okAload_n dX9_init_135 rfl rfl)) ?_
  refine And.intro (EOK.c (okGet (C := RX9) (T := TX9) (N := 22) dX9_init_136 rfl rfl (by decide) inX9 wm_3_141)) ?_
  refine And.intro (EOK.c (okBipush dX9_init_139 rfl (by first | rfl | decide))) ?_
  refine And.intro (EOK.c (okIconst dX9_init_141 rfl (by first | rfl | decide))) ?_
  refine And.intro (EOK.c (okIastN dX9_init_142 rfl)) ?_
  refine And.intro (EOK.c (okAload_n dX9_init_143 rfl rfl)) ?_
  refine And.intro (EOK.c (okCallV (y := yX9_lay) (T := TX9) (oCallZ_is _ _ _) dX9_init_144 rfl (ok_F_X9_lay l) rc_F_X9_lay rfl wm_3_137 wm_3_139 wp_15 wm_1_10 wm_3_140 pl_X9_lay (by decide))) ?_
  refine And.intro (EOK.c (okVret dX9_init_147 rfl)) ?_
  exact trivial
def w0_X9_init : pWd := [.inr (9, [.null, .null, .int 0, .null, .int 0, .null, .int 0, .int 0, .int 0, .int 0, .int 0, .int 0, .int 0, .int 0, .null, .int 0, .int 0, .int 0, .int 0, .int 0, .int 0, .null])]
def w1_X9_init  : pWd := mdl (layM (NM iniM))
set_option maxHeartbeats 1000000 in
set_option maxRecDepth 100000 in
theorem run_X9_init (rg : pRg)  : ∃ fu, ex k_X9_init fu 0 [(0, .ref 0)] [] w0_X9_init rg = some (none, w1_X9_init , rg) := by
  refine ⟨3, ?_⟩
  conv => lhs; whnf
  refine (callK_v (cl_X9_lay iniM rg) rfl).trans ?_
  rfl
def G_X9_init : pG := fun args w => match args, w with
  | [.ref 0], [.inr (c, [.null, .null, .int z2, .null, .int z4, .null, .int z6, .int z7, .int z8, .int z9, .int z10, .int z11, .int z12, .int z13, .null, .int z15, .int z16, .int z17, .int z18, .int z19, .int z20, .null])] => (match Nat.beq c 9 with
    | true => (match zeroB [z2, z4, z6, z7, z8, z9, z10, z11, z12, z13, z15, z16, z17, z18, z19, z20] with
      | true => some (none, w1_X9_init )
      | false => none)
    | false => none)
  | _, _ => none
set_option maxRecDepth 100000 in
set_option maxHeartbeats 4000000 in
theorem ct_X9_init (l : Launch) : ∀ args0 w0 v0 w1 rg, G_X9_init args0 w0 = some (v0, w1) → pCT l yX9_init (pWs yX9_init cX9_init 1 none) rm_X9_init args0 w0 rg (v0, w1, rg) := by
  intro args0 w0 v0 w1 rg h
  unfold G_X9_init at h
  split at h
  next =>
    split at h
    next hb =>
      split at h
      next hz =>
        have hb := Nat.eq_of_beq_eq_true hb
        subst hb
        have hz := zeroB_eq hz
        simp only [List.forall_mem_cons] at hz
        obtain ⟨rfl, rfl, rfl, rfl, rfl, rfl, rfl, rfl, rfl, rfl, rfl, rfl, rfl, rfl, rfl, rfl, -⟩ := hz
        cases h
        exact met_of_exc (by decide) rfl (ok_k_X9_init l) rfl (run_X9_init rg ) (Nat.le_of_ble_eq_true rfl) rfl (Nat.le_of_ble_eq_true rfl) (Nat.le_of_ble_eq_true rfl) (Nat.le_of_ble_eq_true rfl) rfl rfl
      next => cases h
    next => cases h
  next => cases h
def F_X9_init : pF := frC G_X9_init
theorem ok_F_X9_init (l : Launch) : pFOK l yX9_init (pWs yX9_init cX9_init 1 none) rm_X9_init F_X9_init := pFOK_frC (fun a b c d h => ct_X9_init l a b c d rg00 h)
end
