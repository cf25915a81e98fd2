noncomputable section
def mdM (m : pLV) : Int32 := if rmI 2 - sumM 2 m ≤ m 1 2 then rmI 2 - sumM 2 m else m 1 2
def moM (m : pLV) : Int32 := if m 1 14 = m 1 10 then 0 else 1
def myM (m : pLV) : Int32 := if m 1 14 = m 1 10 then mdM m * m 1 3 / 1000 else 0
def rsM (x : pLV) (d o y t : Int32) : Int32 := if d = 0 then 0 else if o = 0 then (if x 1 3 = 0 then 1 else if y ≤ t then 0 else 2) else 3
def m3M (x : pLV) (d o y t : Int32) : pLV := vA x 1 (upd (x 1) 15 (rsM x d o y t))
def m2M (x1 x2 : pLV) (d o y : Int32) : pLV := m3M (fillM 2 (NM x2) (x1 0 9 + x2 0 9) (x1 0 10 + x2 0 10)) d o y (x1 0 9 + x1 0 10)
def m1M (x1 : pLV) (d o y : Int32) : pLV := m2M x1 (takeM 0 (NM x1) (d - (x1 0 9 + x1 0 10))) d o y
def m0M (x : pLV) (d o y : Int32) : pLV := m1M (takeM 1 (NM x) y) d o y
def mixM (m : pLV) : pLV := m0M (NM m) (mdM (NM m)) (moM (NM m)) (myM (NM m))
theorem dX9_mix_0 : decode cX9_mix 0 = .ok (.iconst 2, 1) := by decide +kernel
theorem dX9_mix_1 : decode cX9_mix 1 = .ok (.invokestatic 55, 3) := by decide +kernel
theorem dX9_mix_4 : decode cX9_mix 4 = .ok (.aload_n 0, 1) := by decide +kernel
theorem dX9_mix_5 : decode cX9_mix 5 = .ok (.iconst 2, 1) := by decide +kernel
theorem dX9_mix_6 : decode cX9_mix 6 = .ok (.invokevirtual 45, 3) := by decide +kernel
theorem dX9_mix_9 : decode cX9_mix 9 = .ok (.isub, 1) := by decide +kernel
theorem dX9_mix_10 : decode cX9_mix 10 = .ok (.istore_n 1, 1) := by decide +kernel
theorem dX9_mix_11 : decode cX9_mix 11 = .ok (.aload_n 0, 1) := by decide +kernel
theorem dX9_mix_12 : decode cX9_mix 12 = .ok (.getfield 7, 3) := by decide +kernel
theorem dX9_mix_15 : decode cX9_mix 15 = .ok (.iconst 2, 1) := by decide +kernel
theorem dX9_mix_16 : decode cX9_mix 16 = .ok (.iaload, 1) := by decide +kernel
theorem dX9_mix_17 : decode cX9_mix 17 = .ok (.iload_n 1, 1) := by decide +kernel
theorem dX9_mix_18 : decode cX9_mix 18 = .ok (.if_icmp .ge 12, 3) := by decide +kernel
theorem dX9_mix_21 : decode cX9_mix 21 = .ok (.aload_n 0, 1) := by decide +kernel
theorem dX9_mix_22 : decode cX9_mix 22 = .ok (.getfield 7, 3) := by decide +kernel
theorem dX9_mix_25 : decode cX9_mix 25 = .ok (.iconst 2, 1) := by decide +kernel
theorem dX9_mix_26 : decode cX9_mix 26 = .ok (.iaload, 1) := by decide +kernel
theorem dX9_mix_27 : decode cX9_mix 27 = .ok (.goto 4, 3) := by decide +kernel
theorem dX9_mix_30 : decode cX9_mix 30 = .ok (.iload_n 1, 1) := by decide +kernel
theorem dX9_mix_31 : decode cX9_mix 31 = .ok (.istore_n 2, 1) := by decide +kernel
theorem dX9_mix_32 : decode cX9_mix 32 = .ok (.aload_n 0, 1) := by decide +kernel
theorem dX9_mix_33 : decode cX9_mix 33 = .ok (.getfield 7, 3) := by decide +kernel
theorem dX9_mix_36 : decode cX9_mix 36 = .ok (.bipush 14, 2) := by decide +kernel
theorem dX9_mix_38 : decode cX9_mix 38 = .ok (.iaload, 1) := by decide +kernel
theorem dX9_mix_39 : decode cX9_mix 39 = .ok (.aload_n 0, 1) := by decide +kernel
theorem dX9_mix_40 : decode cX9_mix 40 = .ok (.getfield 7, 3) := by decide +kernel
theorem dX9_mix_43 : decode cX9_mix 43 = .ok (.bipush 10, 2) := by decide +kernel
theorem dX9_mix_45 : decode cX9_mix 45 = .ok (.iaload, 1) := by decide +kernel
theorem dX9_mix_46 : decode cX9_mix 46 = .ok (.if_icmp .eq 7, 3) := by decide +kernel
theorem dX9_mix_49 : decode cX9_mix 49 = .ok (.iconst 1, 1) := by decide +kernel
theorem dX9_mix_50 : decode cX9_mix 50 = .ok (.goto 4, 3) := by decide +kernel
theorem dX9_mix_53 : decode cX9_mix 53 = .ok (.iconst 0, 1) := by decide +kernel
theorem dX9_mix_54 : decode cX9_mix 54 = .ok (.istore_n 3, 1) := by decide +kernel
theorem dX9_mix_55 : decode cX9_mix 55 = .ok (.iload_n 3, 1) := by decide +kernel
theorem dX9_mix_56 : decode cX9_mix 56 = .ok (.ifCond .eq 7, 3) := by decide +kernel
theorem dX9_mix_59 : decode cX9_mix 59 = .ok (.iconst 0, 1) := by decide +kernel
theorem dX9_mix_60 : decode cX9_mix 60 = .ok (.goto 15, 3) := by decide +kernel
theorem dX9_mix_63 : decode cX9_mix 63 = .ok (.iload_n 2, 1) := by decide +kernel
theorem dX9_mix_64 : decode cX9_mix 64 = .ok (.aload_n 0, 1) := by decide +kernel
theorem dX9_mix_65 : decode cX9_mix 65 = .ok (.getfield 7, 3) := by decide +kernel
theorem dX9_mix_68 : decode cX9_mix 68 = .ok (.iconst 3, 1) := by decide +kernel
theorem dX9_mix_69 : decode cX9_mix 69 = .ok (.iaload, 1) := by decide +kernel
theorem dX9_mix_70 : decode cX9_mix 70 = .ok (.imul, 1) := by decide +kernel
theorem dX9_mix_71 : decode cX9_mix 71 = .ok (.sipush 1000, 3) := by decide +kernel
theorem dX9_mix_74 : decode cX9_mix 74 = .ok (.idiv, 1) := by decide +kernel
theorem dX9_mix_75 : decode cX9_mix 75 = .ok (.istore 4, 2) := by decide +kernel
theorem dX9_mix_77 : decode cX9_mix 77 = .ok (.aload_n 0, 1) := by decide +kernel
theorem dX9_mix_78 : decode cX9_mix 78 = .ok (.iconst 1, 1) := by decide +kernel
theorem dX9_mix_79 : decode cX9_mix 79 = .ok (.iload 4, 2) := by decide +kernel
theorem dX9_mix_81 : decode cX9_mix 81 = .ok (.invokevirtual 62, 3) := by decide +kernel
theorem dX9_mix_84 : decode cX9_mix 84 = .ok (.aload_n 0, 1) := by decide +kernel
theorem dX9_mix_85 : decode cX9_mix 85 = .ok (.getfield 49, 3) := by decide +kernel
theorem dX9_mix_88 : decode cX9_mix 88 = .ok (.aload_n 0, 1) := by decide +kernel
theorem dX9_mix_89 : decode cX9_mix 89 = .ok (.getfield 52, 3) := by decide +kernel
theorem dX9_mix_92 : decode cX9_mix 92 = .ok (.iadd, 1) := by decide +kernel
theorem dX9_mix_93 : decode cX9_mix 93 = .ok (.istore 5, 2) := by decide +kernel
theorem dX9_mix_95 : decode cX9_mix 95 = .ok (.aload_n 0, 1) := by decide +kernel
theorem dX9_mix_96 : decode cX9_mix 96 = .ok (.getfield 49, 3) := by decide +kernel
theorem dX9_mix_99 : decode cX9_mix 99 = .ok (.istore 6, 2) := by decide +kernel
theorem dX9_mix_101 : decode cX9_mix 101 = .ok (.aload_n 0, 1) := by decide +kernel
theorem dX9_mix_102 : decode cX9_mix 102 = .ok (.getfield 52, 3) := by decide +kernel
theorem dX9_mix_105 : decode cX9_mix 105 = .ok (.istore 7, 2) := by decide +kernel
theorem dX9_mix_107 : decode cX9_mix 107 = .ok (.aload_n 0, 1) := by decide +kernel
theorem dX9_mix_108 : decode cX9_mix 108 = .ok (.iconst 0, 1) := by decide +kernel
theorem dX9_mix_109 : decode cX9_mix 109 = .ok (.iload_n 2, 1) := by decide +kernel
theorem dX9_mix_110 : decode cX9_mix 110 = .ok (.iload 5, 2) := by decide +kernel
theorem dX9_mix_112 : decode cX9_mix 112 = .ok (.isub, 1) := by decide +kernel
theorem dX9_mix_113 : decode cX9_mix 113 = .ok (.invokevirtual 62, 3) := by decide +kernel
theorem dX9_mix_116 : decode cX9_mix 116 = .ok (.aload_n 0, 1) := by decide +kernel
theorem dX9_mix_117 : decode cX9_mix 117 = .ok (.iconst 2, 1) := by decide +kernel
theorem dX9_mix_118 : decode cX9_mix 118 = .ok (.iload 6, 2) := by decide +kernel
theorem dX9_mix_120 : decode cX9_mix 120 = .ok (.aload_n 0, 1) := by decide +kernel
theorem dX9_mix_121 : decode cX9_mix 121 = .ok (.getfield 49, 3) := by decide +kernel
theorem dX9_mix_124 : decode cX9_mix 124 = .ok (.iadd, 1) := by decide +kernel
theorem dX9_mix_125 : decode cX9_mix 125 = .ok (.iload 7, 2) := by decide +kernel
theorem dX9_mix_127 : decode cX9_mix 127 = .ok (.aload_n 0, 1) := by decide +kernel
theorem dX9_mix_128 : decode cX9_mix 128 = .ok (.getfield 52, 3) := by decide +kernel
theorem dX9_mix_131 : decode cX9_mix 131 = .ok (.iadd, 1) := by decide +kernel
theorem dX9_mix_132 : decode cX9_mix 132 = .ok (.invokevirtual 73, 3) := by decide +kernel
theorem dX9_mix_135 : decode cX9_mix 135 = .ok (.istore 8, 2) := by decide +kernel
theorem dX9_mix_137 : decode cX9_mix 137 = .ok (.aload_n 0, 1) := by decide +kernel
theorem dX9_mix_138 : decode cX9_mix 138 = .ok (.getfield 7, 3) := by decide +kernel
theorem dX9_mix_141 : decode cX9_mix 141 = .ok (.bipush 15, 2) := by decide +kernel
theorem dX9_mix_143 : decode cX9_mix 143 = .ok (.iload_n 2, 1) := by decide +kernel
theorem dX9_mix_144 : decode cX9_mix 144 = .ok (.ifCond .ne 7, 3) := by decide +kernel
theorem dX9_mix_147 : decode cX9_mix 147 = .ok (.iconst 0, 1) := by decide +kernel
theorem dX9_mix_148 : decode cX9_mix 148 = .ok (.goto 36, 3) := by decide +kernel
theorem dX9_mix_151 : decode cX9_mix 151 = .ok (.iload_n 3, 1) := by decide +kernel
theorem dX9_mix_152 : decode cX9_mix 152 = .ok (.ifCond .eq 7, 3) := by decide +kernel
theorem dX9_mix_155 : decode cX9_mix 155 = .ok (.iconst 3, 1) := by decide +kernel
theorem dX9_mix_156 : decode cX9_mix 156 = .ok (.goto 28, 3) := by decide +kernel
theorem dX9_mix_159 : decode cX9_mix 159 = .ok (.aload_n 0, 1) := by decide +kernel
theorem dX9_mix_160 : decode cX9_mix 160 = .ok (.getfield 7, 3) := by decide +kernel
theorem dX9_mix_163 : decode cX9_mix 163 = .ok (.iconst 3, 1) := by decide +kernel
theorem dX9_mix_164 : decode cX9_mix 164 = .ok (.iaload, 1) := by decide +kernel
theorem dX9_mix_165 : decode cX9_mix 165 = .ok (.ifCond .ne 7, 3) := by decide +kernel
theorem dX9_mix_168 : decode cX9_mix 168 = .ok (.iconst 1, 1) := by decide +kernel
theorem dX9_mix_169 : decode cX9_mix 169 = .ok (.goto 15, 3) := by decide +kernel
theorem dX9_mix_172 : decode cX9_mix 172 = .ok (.iload 5, 2) := by decide +kernel
theorem dX9_mix_174 : decode cX9_mix 174 = .ok (.iload 4, 2) := by decide +kernel
theorem dX9_mix_176 : decode cX9_mix 176 = .ok (.if_icmp .ge 7, 3) := by decide +kernel
theorem dX9_mix_179 : decode cX9_mix 179 = .ok (.iconst 2, 1) := by decide +kernel
theorem dX9_mix_180 : decode cX9_mix 180 = .ok (.goto 4, 3) := by decide +kernel
theorem dX9_mix_183 : decode cX9_mix 183 = .ok (.iconst 0, 1) := by decide +kernel
theorem dX9_mix_184 : decode cX9_mix 184 = .ok (.iastore, 1) := by decide +kernel
theorem dX9_mix_185 : decode cX9_mix 185 = .ok (.return_, 1) := by decide +kernel
def k_X9_mix : List pEn := [oConst (2), oCall 1 F_X9_roomOf, oAload 0, oConst (2), oCallZ 2 F_X9_sum, oSub, oIstore 1, oAload 0, oGet 9 0, oConst (2), oIaldN 2, oIload 1, oCge 18, oAload 0, oGet 9 0, oConst (2), oIaldN 2, oGoto 19, oIload 1, oIstore 2, oAload 0, oGet 9 0, oConst (14), oIaldN 14, oAload 0, oGet 9 0, oConst (10), oIaldN 10, oCeq 31, oConst (1), oGoto 32, oConst (0), oIstore 3, oIload 3, oIfeq 37, oConst (0), oGoto 45, oIload 2, oAload 0, oGet 9 0, oConst (3), oIaldN 3, oMul, oConst (1000), oDivL, oIstore 4, oAload 0, oConst (1), oIload 4, oCallZ 3 F_X9_takeFrom, oAload 0, oGet 9 9, oAload 0, oGet 9 10, oAdd, oIstore 5, oAload 0, oGet 9 9, oIstore 6, oAload 0, oGet 9 10, oIstore 7, oAload 0, oConst (0), oIload 2, oIload 5, oSub, oCallZ 3 F_X9_takeFrom, oAload 0, oConst (2), oIload 6, oAload 0, oGet 9 9, oAdd, oIload 7, oAload 0, oGet 9 10, oAdd, oCallZ 4 F_X9_fillInto, oIstore 8, oAload 0, oGet 9 0, oConst (15), oIload 2, oIfne 87, oConst (0), oGoto 104, oIload 3, oIfeq 91, oConst (3), oGoto 104, oAload 0, oGet 9 0, oConst (3), oIaldN 3, oIfne 98, oConst (1), oGoto 104, oIload 5, oIload 4, oCge 103, oConst (2), oGoto 104, oConst (0), oIastN 15, oVret]
def pc_X9_mix (i : Nat) : Nat := ([0, 1, 4, 5, 6, 9, 10, 11, 12, 15, 16, 17, 18, 21, 22, 25, 26, 27, 30, 31, 32, 33, 36, 38, 39, 40, 43, 45, 46, 49, 50, 53, 54, 55, 56, 59, 60, 63, 64, 65, 68, 69, 70, 71, 74, 75, 77, 78, 79, 81, 84, 85, 88, 89, 92, 93, 95, 96, 99, 101, 102, 105, 107, 108, 109, 110, 112, 113, 116, 117, 118, 120, 121, 124, 125, 127, 128, 131, 132, 135, 137, 138, 141, 143, 144, 147, 148, 151, 152, 155, 156, 159, 160, 163, 164, 165, 168, 169, 172, 174, 176, 179, 180, 183, 184, 185] : List Nat).getD i 0
abbrev rm_X9_mix : Room := { frames := 3, cells := 0, slots := 0, locals := 69 }
theorem pl_X9_mix : pPlain yX9_mix 0 := by decide +kernel
set_option maxRecDepth 100000 in
set_option maxHeartbeats 4000000 in
theorem ok_k_X9_mix (l : Launch) : ∀ (i : Nat) (en : pEn), k_X9_mix[i]? = some en → EOK l cX9_mix yX9_mix.cls 9 (none) rm_X9_mix 0 pc_X9_mix i en := by
  refine allOK_at ?_
  refine And.intro (okIconst dX9_mix_0 rfl (by first | rfl | decide)) ?_
  refine And.intro (okCallS (y := yX9_roomOf) (oCall_is _ _ _) dX9_mix_1 rfl (ok_F_X9_roomOf l) wm_4_18 wm_4_19 wm_1_10 wm_4_20 pl_X9_roomOf (by decide)) ?_
  refine And.intro (okAload_n dX9_mix_4 rfl rfl) ?_
  refine And.intro (okIconst dX9_mix_5 rfl (by first | rfl | decide)) ?_
  refine And.intro (okCallV (y := yX9_sum) (T := TX9) (oCallZ_is _ _ _) dX9_mix_6 rfl (ok_F_X9_sum l) rc_F_X9_sum rfl wm_4_14 wm_4_16 wp_20 wm_1_10 wm_4_17 pl_X9_sum (by decide)) ?_
  refine And.intro (okSub dX9_mix_9 rfl) ?_
  refine And.intro (okIstore_n dX9_mix_10 rfl rfl (by decide)) ?_
  refine And.intro (okAload_n dX9_mix_11 rfl rfl) ?_
  refine And.intro (okGet (C := RX9) (T := TX9) (N := 22) dX9_mix_12 rfl rfl (by decide) inX9 wm_3_141) ?_
  refine And.intro (okIconst dX9_mix_15 rfl (by first | rfl | decide)) ?_
  refine And.intro (okIaldN dX9_mix_16 rfl) ?_
  refine And.intro (okIload_n dX9_mix_17 rfl rfl) ?_
  refine And.intro (okCge dX9_mix_18 rfl (by rfl)) ?_
  refine And.intro (okAload_n dX9_mix_21 rfl rfl) ?_
  refine And.intro (okGet (C := RX9) (T := TX9) (N := 22) dX9_mix_22 rfl rfl (by decide) inX9 wm_3_141) ?_
  refine And.intro (okIconst dX9_mix_25 rfl (by first | rfl | decide)) ?_
  refine And.intro (okIaldN dX9_mix_26 rfl) ?_
  refine And.intro (okGoto dX9_mix_27 (by rfl)) ?_
  refine And.intro (okIload_n dX9_mix_30 rfl rfl) ?_
  refine And.intro (okIstore_n dX9_mix_31 rfl rfl (by decide)) ?_
  refine And.intro (okAload_n dX9_mix_32 rfl rfl) ?_
  refine And.intro (okGet (C := RX9) (T := TX9) (N := 22) dX9_mix_33 rfl rfl (by decide) inX9 wm_3_141) ?_
  refine And.intro (okBipush dX9_mix_36 rfl (by first | rfl | decide)) ?_
  refine And.intro (okIaldN dX9_mix_38 rfl) ?_
  refine And.intro (okAload_n dX9_mix_39 rfl rfl) ?_
  refine And.intro (okGet (C := RX9) (T := TX9) (N := 22) dX9_mix_40 rfl rfl (by decide) inX9 wm_3_141) ?_
  refine And.intro (okBipush dX9_mix_43 rfl (by first | rfl | decide)) ?_
  refine And.intro (okIaldN dX9_mix_45 rfl) ?_
  refine And.intro (okCeq dX9_mix_46 rfl (by rfl)) ?_
  refine And.intro (okIconst dX9_mix_49 rfl (by first | rfl | decide)) ?_
  refine And.intro (okGoto dX9_mix_50 (by rfl)) ?_
  refine And.intro (okIconst dX9_mix_53 rfl (by first | rfl | decide)) ?_
  refine And.intro (okIstore_n dX9_mix_54 rfl rfl (by decide)) ?_
  refine And.intro (okIload_n dX9_mix_55 rfl rfl) ?_
  refine And.intro (okIfeq dX9_mix_56 rfl (by rfl)) ?_
  refine And.intro (okIconst dX9_mix_59 rfl (by first | rfl | decide)) ?_
  refine And.intro (okGoto dX9_mix_60 (by rfl)) ?_
  refine And.intro (okIload_n dX9_mix_63 rfl rfl) ?_
  refine And.intro (okAload_n dX9_mix_64 rfl rfl) ?_
  refine And.intro (okGet (C := RX9) (T := TX9) (N := 22) dX9_mix_65 rfl rfl (by decide) inX9 wm_3_141) ?_
  refine And.intro (okIconst dX9_mix_68 rfl (by first | rfl | decide)) ?_
  refine And.intro (okIaldN dX9_mix_69 rfl) ?_
  refine And.intro (okMul dX9_mix_70 rfl) ?_
  refine And.intro (okSipush dX9_mix_71 rfl (by first | rfl | decide)) ?_
  refine And.intro (okDivL dX9_mix_74 rfl) ?_
  refine And.intro (okIstore dX9_mix_75 rfl (by decide)) ?_
  refine And.intro (okAload_n dX9_mix_77 rfl rfl) ?_
  refine And.intro (okIconst dX9_mix_78 rfl (by first | rfl | decide)) ?_
  refine And.intro (okIload dX9_mix_79 rfl) ?_
  refine And.intro (okCallV (y := yX9_takeFrom) (T := TX9) (oCallZ_is _ _ _) dX9_mix_81 rfl (ok_F_X9_takeFrom l) rc_F_X9_takeFrom rfl wm_4_21 wm_4_23 wp_21 wm_1_10 wm_4_24 pl_X9_takeFrom (by decide)) ?_
  refine And.intro (okAload_n dX9_mix_84 rfl rfl) ?_
  refine And.intro (okGet (C := RX9) (T := TX9) (N := 22) dX9_mix_85 rfl rfl (by decide) inX9 wm_3_150) ?_
  refine And.intro (okAload_n dX9_mix_88 rfl rfl) ?_
  refine And.intro (okGet (C := RX9) (T := TX9) (N := 22) dX9_mix_89 rfl rfl (by decide) inX9 wm_3_151) ?_
  refine And.intro (okAdd dX9_mix_92 rfl) ?_
  refine And.intro (okIstore dX9_mix_93 rfl (by decide)) ?_
  refine And.intro (okAload_n dX9_mix_95 rfl rfl) ?_
  refine And.intro (okGet (C := RX9) (T := TX9) (N := 22) dX9_mix_96 rfl rfl (by decide) inX9 wm_3_150) ?_
  refine And.intro (okIstore dX9_mix_99 rfl (by decide)) ?_
  refine And.intro (okAload_n dX9_mix_101 rfl rfl) ?_
  refine And.intro (okGet (C := RX9) (T := TX9) (N := 22) dX9_mix_102 rfl rfl (by decide) inX9 wm_3_151) ?_
  refine And.intro (okIstore dX9_mix_105 rfl (by decide)) ?_
  refine And.intro (okAload_n dX9_mix_107 rfl rfl) ?_
  refine And.intro (okIconst dX9_mix_108 rfl (by first | rfl | decide)) ?_
  refine And.intro (okIload_n dX9_mix_109 rfl rfl) ?_
  refine And.intro (okIload dX9_mix_110 rfl) ?_
  refine And.intro (okSub dX9_mix_112 rfl) ?_
  refine And.intro (okCallV (y := yX9_takeFrom) (T := TX9) (oCallZ_is _ _ _) dX9_mix_113 rfl (ok_F_X9_takeFrom l) rc_F_X9_takeFrom rfl wm_4_21 wm_4_23 wp_21 wm_1_10 wm_4_24 pl_X9_takeFrom (by decide)) ?_
  refine And.intro (okAload_n dX9_mix_116 rfl rfl) ?_
  refine And.intro (okIconst dX9_mix_117 rfl (by first | rfl | decide)) ?_
  refine And.intro (okIload dX9_mix_118 rfl) ?_
  refine And.intro (okAload_n dX9_mix_120 rfl rfl) ?_
  refine And.intro (okGet (C := RX9) (T := TX9) (N := 22) dX9_mix_121 rfl rfl (by decide) inX9 wm_3_150) ?_
  refine And.intro (okAdd dX9_mix_124 rfl) ?_
  refine And.intro (okIload dX9_mix_125 rfl) ?_
  refine And.intro (okAload_n dX9_mix_127 rfl rfl) ?_
  refine And.intro (okGet (C := RX9) (T := TX9) (N := 22) dX9_mix_128 rfl rfl (by decide) inX9 wm_3_151) ?_
  refine And.intro (okAdd dX9_mix_131 rfl) ?_
  refine And.intro (okCallV (y := yX9_fillInto) (T := TX9) (oCallZ_is _ _ _) dX9_mix_132 rfl (ok_F_X9_fillInto l) rc_F_X9_fillInto rfl wm_4_10 wm_4_12 wp_19 wm_1_10 wm_4_13 pl_X9_fillInto (by decide)) ?_
  refine And.intro (okIstore dX9_mix_135 rfl (by decide)) ?_
  refine And.intro (okAload_n dX9_mix_137 rfl rfl) ?_
  refine And.intro (okGet (C := RX9) (T := TX9) (N := 22) dX9_mix_138 rfl rfl (by decide) inX9 wm_3_141) ?_
  refine And.intro (okBipush dX9_mix_141 rfl (by first | rfl | decide)) ?_
  refine And.intro (okIload_n dX9_mix_143 rfl rfl) ?_
  refine And.intro (okIfne dX9_mix_144 rfl (by rfl)) ?_
  refine And.intro (okIconst dX9_mix_147 rfl (by first | rfl | decide)) ?_
  refine And.intro (okGoto dX9_mix_148 (by rfl)) ?_
  refine And.intro (okIload_n dX9_mix_151 rfl rfl) ?_
  refine And.intro (okIfeq dX9_mix_152 rfl (by rfl)) ?_
  refine And.intro (okIconst dX9_mix_155 rfl (by first | rfl | decide)) ?_
  refine And.intro (okGoto dX9_mix_156 (by rfl)) ?_
  refine And.intro (okAload_n dX9_mix_159 rfl rfl) ?_
  refine And.intro (okGet (C := RX9) (T := TX9) (N := 22) dX9_mix_160 rfl rfl (by decide) inX9 wm_3_141) ?_
  refine And.intro (okIconst dX9_mix_163 rfl (by first | rfl | decide)) ?_
  refine And.intro (okIaldN dX9_mix_164 rfl) ?_
  refine And.intro (okIfne dX9_mix_165 rfl (by rfl)) ?_
  refine And.intro (okIconst dX9_mix_168 rfl (by first | rfl | decide)) ?_
  refine And.intro (okGoto dX9_mix_169 (by rfl)) ?_
  refine And.intro (okIload dX9_mix_172 rfl) ?_
  refine And.intro (okIload dX9_mix_174 rfl) ?_
  refine And.intro (okCge dX9_mix_176 rfl (by rfl)) ?_
  refine And.intro (okIconst dX9_mix_179 rfl (by first | rfl | decide)) ?_
  refine And.intro (okGoto dX9_mix_180 (by rfl)) ?_
  refine And.intro (okIconst dX9_mix_183 rfl (by first | rfl | decide)) ?_
  refine And.intro (okIastN dX9_mix_184 rfl) ?_
  refine And.intro (okVret dX9_mix_185 rfl) ?_
  exact trivial
def G_X9_mix : pG := fun args w => match args with
  | [.ref 0] => unM w (fun m => some (none, mdl (mixM m)))
  | _ => none
set_option maxHeartbeats 400000 in
set_option maxRecDepth 100000 in
theorem run_X9_mix (rg : pRg) (m : pLV)   : ∃ fu, ex k_X9_mix fu 0 [(0, .ref 0)] [] (mdl m) rg = some (none, mdl (mixM m), rg) := by
  refine ⟨60, ?_⟩
  conv => lhs; whnf
  refine (callK_r (cl_X9_sum2 m rg) rfl).trans ?_
  conv => lhs; whnf
  refine pif_c (fun h => ?_) (fun h => ?_)
  · conv => lhs; whnf
    refine pif_c (fun h2 => ?_) (fun h2 => ?_)
    · have e1 : mdM (NM m) = rmI 2 - sumM 2 (NM m) := if_pos h
      have e2 : moM (NM m) = 0 := if_pos h2
      have e3 : myM (NM m) = mdM (NM m) * m 1 3 / 1000 := if_pos h2
      conv => lhs; whnf
      refine (pif_t (by decide)).trans ?_
      unfold mixM
      rw [e3, e2, e1]
      conv => lhs; whnf
      refine (callK_v (cl_X9_takeFrom1 (NM m) ((rmI 2 - sumM 2 (NM m)) * m 1 3 / 1000) rg) rfl).trans ?_
      unfold m0M
      generalize takeM 1 (NM (NM m)) ((rmI 2 - sumM 2 (NM m)) * m 1 3 / 1000) = x1
      revert x1; refine id ?_; intro x1
      conv => lhs; whnf
      refine (callK_v (cl_X9_takeFrom0 x1 (rmI 2 - sumM 2 (NM m) - (x1 0 9 + x1 0 10)) rg) rfl).trans ?_
      unfold m1M
      generalize takeM 0 (NM x1) (rmI 2 - sumM 2 (NM m) - (x1 0 9 + x1 0 10)) = x2
      revert x2; refine id ?_; intro x2
      conv => lhs; whnf
      refine (callK_r (cl_X9_fillInto2 x2 (x1 0 9 + x2 0 9) (x1 0 10 + x2 0 10) rg) rfl).trans ?_
      unfold m2M
      generalize fillM 2 (NM x2) (x1 0 9 + x2 0 9) (x1 0 10 + x2 0 10) = x3
      revert x3; refine id ?_; intro x3
      conv => lhs; whnf
      unfold m3M
      refine pif_c (fun g1 => ?_) (fun g1 => ?_)
      · rw [show rsM x3 (rmI 2 - sumM 2 (NM m)) (0) ((rmI 2 - sumM 2 (NM m)) * m 1 3 / 1000) (x1 0 9 + x1 0 10) = 0 from by unfold rsM; rw [if_pos (show rmI 2 - sumM 2 (NM m) = 0 from g1)]]
        rfl
      · conv => lhs; whnf
        refine (pif_t (by decide)).trans ?_
        conv => lhs; whnf
        refine pif_c (fun g2 => ?_) (fun g2 => ?_)
        · rw [show rsM x3 (rmI 2 - sumM 2 (NM m)) (0) ((rmI 2 - sumM 2 (NM m)) * m 1 3 / 1000) (x1 0 9 + x1 0 10) = 1 from by unfold rsM; rw [if_neg (show ¬ rmI 2 - sumM 2 (NM m) = 0 from g1), if_pos (show (0 : Int32) = 0 from rfl), if_pos g2]]
          rfl
        · conv => lhs; whnf
          refine pif_c (fun g3 => ?_) (fun g3 => ?_)
          · rw [show rsM x3 (rmI 2 - sumM 2 (NM m)) (0) ((rmI 2 - sumM 2 (NM m)) * m 1 3 / 1000) (x1 0 9 + x1 0 10) = 0 from by unfold rsM; rw [if_neg (show ¬ rmI 2 - sumM 2 (NM m) = 0 from g1), if_pos (show (0 : Int32) = 0 from rfl), if_neg g2, if_pos (show (rmI 2 - sumM 2 (NM m)) * m 1 3 / 1000 ≤ x1 0 9 + x1 0 10 from g3)]]
            rfl
          · rw [show rsM x3 (rmI 2 - sumM 2 (NM m)) (0) ((rmI 2 - sumM 2 (NM m)) * m 1 3 / 1000) (x1 0 9 + x1 0 10) = 2 from by unfold rsM; rw [if_neg (show ¬ rmI 2 - sumM 2 (NM m) = 0 from g1), if_pos (show (0 : Int32) = 0 from rfl), if_neg g2, if_neg (show ¬ (rmI 2 - sumM 2 (NM m)) * m 1 3 / 1000 ≤ x1 0 9 + x1 0 10 from g3)]]
            rfl
    · have e1 : mdM (NM m) = rmI 2 - sumM 2 (NM m) := if_pos h
      have e2 : moM (NM m) = 1 := if_neg h2
      have e3 : myM (NM m) = 0 := if_neg h2
      conv => lhs; whnf
      refine (pif_f (by decide)).trans ?_
      unfold mixM
      rw [e3, e2, e1]
      conv => lhs; whnf
      refine (callK_v (cl_X9_takeFrom1 (NM m) (0) rg) rfl).trans ?_
      unfold m0M
      generalize takeM 1 (NM (NM m)) (0) = x1
      revert x1; refine id ?_; intro x1
      conv => lhs; whnf
      refine (callK_v (cl_X9_takeFrom0 x1 (rmI 2 - sumM 2 (NM m) - (x1 0 9 + x1 0 10)) rg) rfl).trans ?_
      unfold m1M
      generalize takeM 0 (NM x1) (rmI 2 - sumM 2 (NM m) - (x1 0 9 + x1 0 10)) = x2
      revert x2; refine id ?_; intro x2
      conv => lhs; whnf
      refine (callK_r (cl_X9_fillInto2 x2 (x1 0 9 + x2 0 9) (x1 0 10 + x2 0 10) rg) rfl).trans ?_
      unfold m2M
      generalize fillM 2 (NM x2) (x1 0 9 + x2 0 9) (x1 0 10 + x2 0 10) = x3
      revert x3; refine id ?_; intro x3
      conv => lhs; whnf
      unfold m3M
      refine pif_c (fun g1 => ?_) (fun g1 => ?_)
      · rw [show rsM x3 (rmI 2 - sumM 2 (NM m)) (1) (0) (x1 0 9 + x1 0 10) = 0 from by unfold rsM; rw [if_pos (show rmI 2 - sumM 2 (NM m) = 0 from g1)]]
        rfl
      · conv => lhs; whnf
        refine (pif_f (by decide)).trans ?_
        rw [show rsM x3 (rmI 2 - sumM 2 (NM m)) (1) (0) (x1 0 9 + x1 0 10) = 3 from by unfold rsM; rw [if_neg (show ¬ rmI 2 - sumM 2 (NM m) = 0 from g1), if_neg (show ¬ (1 : Int32) = 0 by decide)]]
        rfl
  · conv => lhs; whnf
    refine pif_c (fun h2 => ?_) (fun h2 => ?_)
    · have e1 : mdM (NM m) = m 1 2 := if_neg h
      have e2 : moM (NM m) = 0 := if_pos h2
      have e3 : myM (NM m) = mdM (NM m) * m 1 3 / 1000 := if_pos h2
      conv => lhs; whnf
      refine (pif_t (by decide)).trans ?_
      unfold mixM
      rw [e3, e2, e1]
      conv => lhs; whnf
      refine (callK_v (cl_X9_takeFrom1 (NM m) ((m 1 2) * m 1 3 / 1000) rg) rfl).trans ?_
      unfold m0M
      generalize takeM 1 (NM (NM m)) ((m 1 2) * m 1 3 / 1000) = x1
      revert x1; refine id ?_; intro x1
      conv => lhs; whnf
      refine (callK_v (cl_X9_takeFrom0 x1 (m 1 2 - (x1 0 9 + x1 0 10)) rg) rfl).trans ?_
      unfold m1M
      generalize takeM 0 (NM x1) (m 1 2 - (x1 0 9 + x1 0 10)) = x2
      revert x2; refine id ?_; intro x2
      conv => lhs; whnf
      refine (callK_r (cl_X9_fillInto2 x2 (x1 0 9 + x2 0 9) (x1 0 10 + x2 0 10) rg) rfl).trans ?_
      unfold m2M
      generalize fillM 2 (NM x2) (x1 0 9 + x2 0 9) (x1 0 10 + x2 0 10) = x3
      revert x3; refine id ?_; intro x3
      conv => lhs; whnf
      unfold m3M
      refine pif_c (fun g1 => ?_) (fun g1 => ?_)
      · rw [show rsM x3 (m 1 2) (0) ((m 1 2) * m 1 3 / 1000) (x1 0 9 + x1 0 10) = 0 from by unfold rsM; rw [if_pos (show m 1 2 = 0 from g1)]]
        rfl
      · conv => lhs; whnf
        refine (pif_t (by decide)).trans ?_
        conv => lhs; whnf
        refine pif_c (fun g2 => ?_) (fun g2 => ?_)
        · rw [show rsM x3 (m 1 2) (0) ((m 1 2) * m 1 3 / 1000) (x1 0 9 + x1 0 10) = 1 from by unfold rsM; rw [if_neg (show ¬ m 1 2 = 0 from g1), if_pos (show (0 : Int32) = 0 from rfl), if_pos g2]]
          rfl
        · conv => lhs; whnf
          refine pif_c (fun g3 => ?_) (fun g3 => ?_)
          · rw [show rsM x3 (m 1 2) (0) ((m 1 2) * m 1 3 / 1000) (x1 0 9 + x1 0 10) = 0 from by unfold rsM; rw [if_neg (show ¬ m 1 2 = 0 from g1), if_pos (show (0 : Int32) = 0 from rfl), if_neg g2, if_pos (show (m 1 2) * m 1 3 / 1000 ≤ x1 0 9 + x1 0 10 from g3)]]
            rfl
          · rw [show rsM x3 (m 1 2) (0) ((m 1 2) * m 1 3 / 1000) (x1 0 9 + x1 0 10) = 2 from by unfold rsM; rw [if_neg (show ¬ m 1 2 = 0 from g1), if_pos (show (0 : Int32) = 0 from rfl), if_neg g2, if_neg (show ¬ (m 1 2) * m 1 3 / 1000 ≤ x1 0 9 + x1 0 10 from g3)]]
            rfl
    · have e1 : mdM (NM m) = m 1 2 := if_neg h
      have e2 : moM (NM m) = 1 := if_neg h2
      have e3 : myM (NM m) = 0 := if_neg h2
      conv => lhs; whnf
      refine (pif_f (by decide)).trans ?_
      unfold mixM
      rw [e3, e2, e1]
      conv => lhs; whnf
      refine (callK_v (cl_X9_takeFrom1 (NM m) (0) rg) rfl).trans ?_
      unfold m0M
      generalize takeM 1 (NM (NM m)) (0) = x1
      revert x1; refine id ?_; intro x1
      conv => lhs; whnf
      refine (callK_v (cl_X9_takeFrom0 x1 (m 1 2 - (x1 0 9 + x1 0 10)) rg) rfl).trans ?_
      unfold m1M
      generalize takeM 0 (NM x1) (m 1 2 - (x1 0 9 + x1 0 10)) = x2
      revert x2; refine id ?_; intro x2
      conv => lhs; whnf
      refine (callK_r (cl_X9_fillInto2 x2 (x1 0 9 + x2 0 9) (x1 0 10 + x2 0 10) rg) rfl).trans ?_
      unfold m2M
      generalize fillM 2 (NM x2) (x1 0 9 + x2 0 9) (x1 0 10 + x2 0 10) = x3
      revert x3; refine id ?_; intro x3
      conv => lhs; whnf
      unfold m3M
      refine pif_c (fun g1 => ?_) (fun g1 => ?_)
      · rw [show rsM x3 (m 1 2) (1) (0) (x1 0 9 + x1 0 10) = 0 from by unfold rsM; rw [if_pos (show m 1 2 = 0 from g1)]]
        rfl
      · conv => lhs; whnf
        refine (pif_f (by decide)).trans ?_
        rw [show rsM x3 (m 1 2) (1) (0) (x1 0 9 + x1 0 10) = 3 from by unfold rsM; rw [if_neg (show ¬ m 1 2 = 0 from g1), if_neg (show ¬ (1 : Int32) = 0 by decide)]]
        rfl
theorem ct_X9_mix (l : Launch) : ∀ args0 w0 v0 w1 rg, G_X9_mix args0 w0 = some (v0, w1) → pCT l yX9_mix (pWs yX9_mix cX9_mix 9 (none)) rm_X9_mix args0 w0 rg (v0, w1, rg) := by
  intro args0 w0 v0 w1 rg h
  unfold G_X9_mix at h
  split at h
  next  =>
    obtain ⟨m, hw, h2⟩ := unM_some h
    clear h
    subst hw
    cases h2
    exact met_of_exM (by decide) (ok_k_X9_mix l) rfl (run_X9_mix rg m  ) (Nat.le_of_ble_eq_true rfl) rfl rfl
  next => cases h
def F_X9_mix : pF := faN G_X9_mix
theorem ok_F_X9_mix (l : Launch) : pFOK l yX9_mix (pWs yX9_mix cX9_mix 9 (none)) rm_X9_mix F_X9_mix := pFOK_fa (fun a b c d rg h => ct_X9_mix l a b c d rg h)
theorem rc_F_X9_mix : pRcv 9 F_X9_mix := pRcv_fa (fun a b c d h => by
  unfold G_X9_mix at h
  split at h
  next =>
    obtain ⟨m, rfl, h⟩ := unM_some h
    exact ⟨_, _, _, rfl, rfl⟩
  next => cases h)
theorem cl_X9_mix (m : pLV)  (rg : pRg) : F_X9_mix [.ref 0] (mdl m) rg = some (none, mdl (mixM (NM m)), rg) := rfl
end
