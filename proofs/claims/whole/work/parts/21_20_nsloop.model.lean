noncomputable section
def t0M (m : pLV) : pLV := vS (vA m 1 (upd (m 1) 9 (m 1 9 + 1))) 12 0
def t1M (m : pLV) : pLV := cryM (NM (t0M m))
def t2M (x : pLV) : pLV := fillM 0 (NM (vA x 1 (upd (x 1) 30 (x 1 30 + x 1 0)))) (x 1 0) (x 1 1)
def tA (m : pLV) : pLV := thinM (NM (mixM (NM (t2M (t1M m)))))
def tOK (m : pLV) : Prop := (m 1 49).toNatClampNeg ≤ 20 ∧ (0 ≤ tA m 1 5 ∧ tA m 1 5 ≤ 8) ∧ (0 ≤ ctlM (NM (tA m)) 1 10 ∧ ctlM (NM (tA m)) 1 10 ≤ 3)
def dcI (x : Int32) : Int32 := if x ≤ 0 then x - 0 else x - 1
def t8M (y : pLV) : pLV := vA y 1 (upd (upd (y 1) 11 (dcI (y 1 11))) 12 (dcI (y 1 12)))
def nsM (q : Nat) (x : pLV) : pLV := vA x 1 (upd (x 1) (20 + 3 * q) (if sumM q x ≤ x 1 (20 + 3 * q) then x 1 (20 + 3 * q) else sumM q x))
def ns4 (x : pLV) : pLV := nsM 3 (nsM 2 (nsM 1 (nsM 0 x)))
def tickM (m : pLV) : pLV := ns4 (t8M (mkpM (NM (ctlM (NM (tA m))))))
theorem dX9_tick_0 : decode cX9_tick 0 = .ok (.aload_n 0, 1) := by decide +kernel
theorem dX9_tick_1 : decode cX9_tick 1 = .ok (.getfield 7, 3) := by decide +kernel
theorem dX9_tick_4 : decode cX9_tick 4 = .ok (.bipush 9, 2) := by decide +kernel
theorem dX9_tick_6 : decode cX9_tick 6 = .ok (.dup2, 1) := by decide +kernel
theorem dX9_tick_7 : decode cX9_tick 7 = .ok (.iaload, 1) := by decide +kernel
theorem dX9_tick_8 : decode cX9_tick 8 = .ok (.iconst 1, 1) := by decide +kernel
theorem dX9_tick_9 : decode cX9_tick 9 = .ok (.iadd, 1) := by decide +kernel
theorem dX9_tick_10 : decode cX9_tick 10 = .ok (.iastore, 1) := by decide +kernel
theorem dX9_tick_11 : decode cX9_tick 11 = .ok (.aload_n 0, 1) := by decide +kernel
theorem dX9_tick_12 : decode cX9_tick 12 = .ok (.iconst 0, 1) := by decide +kernel
theorem dX9_tick_13 : decode cX9_tick 13 = .ok (.putfield 80, 3) := by decide +kernel
theorem dX9_tick_16 : decode cX9_tick 16 = .ok (.aload_n 0, 1) := by decide +kernel
theorem dX9_tick_17 : decode cX9_tick 17 = .ok (.invokevirtual 83, 3) := by decide +kernel
theorem dX9_tick_20 : decode cX9_tick 20 = .ok (.aload_n 0, 1) := by decide +kernel
theorem dX9_tick_21 : decode cX9_tick 21 = .ok (.getfield 7, 3) := by decide +kernel
theorem dX9_tick_24 : decode cX9_tick 24 = .ok (.bipush 30, 2) := by decide +kernel
theorem dX9_tick_26 : decode cX9_tick 26 = .ok (.dup2, 1) := by decide +kernel
theorem dX9_tick_27 : decode cX9_tick 27 = .ok (.iaload, 1) := by decide +kernel
theorem dX9_tick_28 : decode cX9_tick 28 = .ok (.aload_n 0, 1) := by decide +kernel
theorem dX9_tick_29 : decode cX9_tick 29 = .ok (.getfield 7, 3) := by decide +kernel
theorem dX9_tick_32 : decode cX9_tick 32 = .ok (.iconst 0, 1) := by decide +kernel
theorem dX9_tick_33 : decode cX9_tick 33 = .ok (.iaload, 1) := by decide +kernel
theorem dX9_tick_34 : decode cX9_tick 34 = .ok (.iadd, 1) := by decide +kernel
theorem dX9_tick_35 : decode cX9_tick 35 = .ok (.iastore, 1) := by decide +kernel
theorem dX9_tick_36 : decode cX9_tick 36 = .ok (.aload_n 0, 1) := by decide +kernel
theorem dX9_tick_37 : decode cX9_tick 37 = .ok (.iconst 0, 1) := by decide +kernel
theorem dX9_tick_38 : decode cX9_tick 38 = .ok (.aload_n 0, 1) := by decide +kernel
theorem dX9_tick_39 : decode cX9_tick 39 = .ok (.getfield 7, 3) := by decide +kernel
theorem dX9_tick_42 : decode cX9_tick 42 = .ok (.iconst 0, 1) := by decide +kernel
theorem dX9_tick_43 : decode cX9_tick 43 = .ok (.iaload, 1) := by decide +kernel
theorem dX9_tick_44 : decode cX9_tick 44 = .ok (.aload_n 0, 1) := by decide +kernel
theorem dX9_tick_45 : decode cX9_tick 45 = .ok (.getfield 7, 3) := by decide +kernel
theorem dX9_tick_48 : decode cX9_tick 48 = .ok (.iconst 1, 1) := by decide +kernel
theorem dX9_tick_49 : decode cX9_tick 49 = .ok (.iaload, 1) := by decide +kernel
theorem dX9_tick_50 : decode cX9_tick 50 = .ok (.invokevirtual 73, 3) := by decide +kernel
theorem dX9_tick_53 : decode cX9_tick 53 = .ok (.istore_n 1, 1) := by decide +kernel
theorem dX9_tick_54 : decode cX9_tick 54 = .ok (.aload_n 0, 1) := by decide +kernel
theorem dX9_tick_55 : decode cX9_tick 55 = .ok (.invokevirtual 86, 3) := by decide +kernel
theorem dX9_tick_58 : decode cX9_tick 58 = .ok (.aload_n 0, 1) := by decide +kernel
theorem dX9_tick_59 : decode cX9_tick 59 = .ok (.invokevirtual 89, 3) := by decide +kernel
theorem dX9_tick_62 : decode cX9_tick 62 = .ok (.aload_n 0, 1) := by decide +kernel
theorem dX9_tick_63 : decode cX9_tick 63 = .ok (.invokevirtual 92, 3) := by decide +kernel
theorem dX9_tick_66 : decode cX9_tick 66 = .ok (.aload_n 0, 1) := by decide +kernel
theorem dX9_tick_67 : decode cX9_tick 67 = .ok (.invokevirtual 95, 3) := by decide +kernel
theorem dX9_tick_70 : decode cX9_tick 70 = .ok (.aload_n 0, 1) := by decide +kernel
theorem dX9_tick_71 : decode cX9_tick 71 = .ok (.getfield 7, 3) := by decide +kernel
theorem dX9_tick_74 : decode cX9_tick 74 = .ok (.bipush 11, 2) := by decide +kernel
theorem dX9_tick_76 : decode cX9_tick 76 = .ok (.dup2, 1) := by decide +kernel
theorem dX9_tick_77 : decode cX9_tick 77 = .ok (.iaload, 1) := by decide +kernel
theorem dX9_tick_78 : decode cX9_tick 78 = .ok (.aload_n 0, 1) := by decide +kernel
theorem dX9_tick_79 : decode cX9_tick 79 = .ok (.getfield 7, 3) := by decide +kernel
theorem dX9_tick_82 : decode cX9_tick 82 = .ok (.bipush 11, 2) := by decide +kernel
theorem dX9_tick_84 : decode cX9_tick 84 = .ok (.iaload, 1) := by decide +kernel
theorem dX9_tick_85 : decode cX9_tick 85 = .ok (.ifCond .le 7, 3) := by decide +kernel
theorem dX9_tick_88 : decode cX9_tick 88 = .ok (.iconst 1, 1) := by decide +kernel
theorem dX9_tick_89 : decode cX9_tick 89 = .ok (.goto 4, 3) := by decide +kernel
theorem dX9_tick_92 : decode cX9_tick 92 = .ok (.iconst 0, 1) := by decide +kernel
theorem dX9_tick_93 : decode cX9_tick 93 = .ok (.isub, 1) := by decide +kernel
theorem dX9_tick_94 : decode cX9_tick 94 = .ok (.iastore, 1) := by decide +kernel
theorem dX9_tick_95 : decode cX9_tick 95 = .ok (.aload_n 0, 1) := by decide +kernel
theorem dX9_tick_96 : decode cX9_tick 96 = .ok (.getfield 7, 3) := by decide +kernel
theorem dX9_tick_99 : decode cX9_tick 99 = .ok (.bipush 12, 2) := by decide +kernel
theorem dX9_tick_101 : decode cX9_tick 101 = .ok (.dup2, 1) := by decide +kernel
theorem dX9_tick_102 : decode cX9_tick 102 = .ok (.iaload, 1) := by decide +kernel
theorem dX9_tick_103 : decode cX9_tick 103 = .ok (.aload_n 0, 1) := by decide +kernel
theorem dX9_tick_104 : decode cX9_tick 104 = .ok (.getfield 7, 3) := by decide +kernel
theorem dX9_tick_107 : decode cX9_tick 107 = .ok (.bipush 12, 2) := by decide +kernel
theorem dX9_tick_109 : decode cX9_tick 109 = .ok (.iaload, 1) := by decide +kernel
theorem dX9_tick_110 : decode cX9_tick 110 = .ok (.ifCond .le 7, 3) := by decide +kernel
theorem dX9_tick_113 : decode cX9_tick 113 = .ok (.iconst 1, 1) := by decide +kernel
theorem dX9_tick_114 : decode cX9_tick 114 = .ok (.goto 4, 3) := by decide +kernel
theorem dX9_tick_117 : decode cX9_tick 117 = .ok (.iconst 0, 1) := by decide +kernel
theorem dX9_tick_118 : decode cX9_tick 118 = .ok (.isub, 1) := by decide +kernel
theorem dX9_tick_119 : decode cX9_tick 119 = .ok (.iastore, 1) := by decide +kernel
theorem dX9_tick_120 : decode cX9_tick 120 = .ok (.iconst 0, 1) := by decide +kernel
theorem dX9_tick_121 : decode cX9_tick 121 = .ok (.istore_n 2, 1) := by decide +kernel
theorem dX9_tick_122 : decode cX9_tick 122 = .ok (.iload_n 2, 1) := by decide +kernel
theorem dX9_tick_123 : decode cX9_tick 123 = .ok (.iconst 4, 1) := by decide +kernel
theorem dX9_tick_124 : decode cX9_tick 124 = .ok (.if_icmp .ge 52, 3) := by decide +kernel
theorem dX9_tick_127 : decode cX9_tick 127 = .ok (.bipush 18, 2) := by decide +kernel
theorem dX9_tick_129 : decode cX9_tick 129 = .ok (.iconst 3, 1) := by decide +kernel
theorem dX9_tick_130 : decode cX9_tick 130 = .ok (.iload_n 2, 1) := by decide +kernel
theorem dX9_tick_131 : decode cX9_tick 131 = .ok (.imul, 1) := by decide +kernel
theorem dX9_tick_132 : decode cX9_tick 132 = .ok (.iadd, 1) := by decide +kernel
theorem dX9_tick_133 : decode cX9_tick 133 = .ok (.iconst 2, 1) := by decide +kernel
theorem dX9_tick_134 : decode cX9_tick 134 = .ok (.iadd, 1) := by decide +kernel
theorem dX9_tick_135 : decode cX9_tick 135 = .ok (.istore_n 3, 1) := by decide +kernel
theorem dX9_tick_136 : decode cX9_tick 136 = .ok (.aload_n 0, 1) := by decide +kernel
theorem dX9_tick_137 : decode cX9_tick 137 = .ok (.getfield 7, 3) := by decide +kernel
theorem dX9_tick_140 : decode cX9_tick 140 = .ok (.iload_n 3, 1) := by decide +kernel
theorem dX9_tick_141 : decode cX9_tick 141 = .ok (.aload_n 0, 1) := by decide +kernel
theorem dX9_tick_142 : decode cX9_tick 142 = .ok (.iload_n 2, 1) := by decide +kernel
theorem dX9_tick_143 : decode cX9_tick 143 = .ok (.invokevirtual 45, 3) := by decide +kernel
theorem dX9_tick_146 : decode cX9_tick 146 = .ok (.aload_n 0, 1) := by decide +kernel
theorem dX9_tick_147 : decode cX9_tick 147 = .ok (.getfield 7, 3) := by decide +kernel
theorem dX9_tick_150 : decode cX9_tick 150 = .ok (.iload_n 3, 1) := by decide +kernel
theorem dX9_tick_151 : decode cX9_tick 151 = .ok (.iaload, 1) := by decide +kernel
theorem dX9_tick_152 : decode cX9_tick 152 = .ok (.if_icmp .le 11, 3) := by decide +kernel
theorem dX9_tick_155 : decode cX9_tick 155 = .ok (.aload_n 0, 1) := by decide +kernel
theorem dX9_tick_156 : decode cX9_tick 156 = .ok (.iload_n 2, 1) := by decide +kernel
theorem dX9_tick_157 : decode cX9_tick 157 = .ok (.invokevirtual 45, 3) := by decide +kernel
theorem dX9_tick_160 : decode cX9_tick 160 = .ok (.goto 9, 3) := by decide +kernel
theorem dX9_tick_163 : decode cX9_tick 163 = .ok (.aload_n 0, 1) := by decide +kernel
theorem dX9_tick_164 : decode cX9_tick 164 = .ok (.getfield 7, 3) := by decide +kernel
theorem dX9_tick_167 : decode cX9_tick 167 = .ok (.iload_n 3, 1) := by decide +kernel
theorem dX9_tick_168 : decode cX9_tick 168 = .ok (.iaload, 1) := by decide +kernel
theorem dX9_tick_169 : decode cX9_tick 169 = .ok (.iastore, 1) := by decide +kernel
theorem dX9_tick_170 : decode cX9_tick 170 = .ok (.iinc 2 1, 3) := by decide +kernel
theorem dX9_tick_173 : decode cX9_tick 173 = .ok (.goto (-51), 3) := by decide +kernel
theorem dX9_tick_176 : decode cX9_tick 176 = .ok (.return_, 1) := by decide +kernel
def k_X9_tick : List pEn := [oAload 0, oGet 9 0, oConst (9), oDup2, oIaldN 9, oConst (1), oAdd, oIastN 9, oAload 0, oConst (0), oPutB 9 12, oAload 0, oCallZ 1 F_X9_carryOut, oAload 0, oGet 9 0, oConst (30), oDup2, oIaldN 30, oAload 0, oGet 9 0, oConst (0), oIaldN 0, oAdd, oIastN 30, oAload 0, oConst (0), oAload 0, oGet 9 0, oConst (0), oIaldN 0, oAload 0, oGet 9 0, oConst (1), oIaldN 1, oCallZ 4 F_X9_fillInto, oIstore 1, oAload 0, oCallZ 1 F_X9_mix, oAload 0, oCallZ 1 F_X9_thin, oAload 0, oCallZ 1 F_X9_control, oAload 0, oCallZ 1 F_X9_makePaper, oAload 0, oGet 9 0, oConst (11), oDup2, oIaldN 11, oAload 0, oGet 9 0, oConst (11), oIaldN 11, oIfle 56, oConst (1), oGoto 57, oConst (0), oSub, oIastN 11, oAload 0, oGet 9 0, oConst (12), oDup2, oIaldN 12, oAload 0, oGet 9 0, oConst (12), oIaldN 12, oIfle 71, oConst (1), oGoto 72, oConst (0), oSub, oIastN 12, oConst (0), oIstore 2, oIload 2, oConst (4), oCge 109, oConst (18), oConst (3), oIload 2, oMul, oAdd, oConst (2), oAdd, oIstore 3, oAload 0, oGet 9 0, oIload 3, oAload 0, oIload 2, oCallZ 2 F_X9_sum, oAload 0, oGet 9 0, oIload 3, oIaldP [20, 23, 26, 29], oCle 102, oAload 0, oIload 2, oCallZ 2 F_X9_sum, oGoto 106, oAload 0, oGet 9 0, oIload 3, oIaldP [20, 23, 26, 29], oIastP [20, 23, 26, 29], oIinc 2 (1), oGoto 76, oVret]
def pc_X9_tick (i : Nat) : Nat := ([0, 1, 4, 6, 7, 8, 9, 10, 11, 12, 13, 16, 17, 20, 21, 24, 26, 27, 28, 29, 32, 33, 34, 35, 36, 37, 38, 39, 42, 43, 44, 45, 48, 49, 50, 53, 54, 55, 58, 59, 62, 63, 66, 67, 70, 71, 74, 76, 77, 78, 79, 82, 84, 85, 88, 89, 92, 93, 94, 95, 96, 99, 101, 102, 103, 104, 107, 109, 110, 113, 114, 117, 118, 119, 120, 121, 122, 123, 124, 127, 129, 130, 131, 132, 133, 134, 135, 136, 137, 140, 141, 142, 143, 146, 147, 150, 151, 152, 155, 156, 157, 160, 163, 164, 167, 168, 169, 170, 173, 176] : List Nat).getD i 0
abbrev rm_X9_tick : Room := { frames := 4, cells := 0, slots := 0, locals := 97 }
theorem pl_X9_tick : pPlain yX9_tick 0 := by decide +kernel
set_option maxRecDepth 100000 in
set_option maxHeartbeats 4000000 in
theorem ok_k_X9_tick (l : Launch) : ∀ (i : Nat) (en : pEn), k_X9_tick[i]? = some en → EOK l cX9_tick yX9_tick.cls 4 (none) rm_X9_tick 0 pc_X9_tick i en := by
  refine allOK_at ?_
  refine And.intro (okAload_n dX9_tick_0 rfl rfl) ?_
  refine And.intro (okGet (C := RX9) (T := TX9) (N := 22) dX9_tick_1 rfl rfl (by decide) inX9 wm_3_141) ?_
  refine And.intro (okBipush dX9_tick_4 rfl (by first | rfl | decide)) ?_
  refine And.intro (okDup2 dX9_tick_6 rfl) ?_
  refine And.intro (okIaldN dX9_tick_7 rfl) ?_
  refine And.intro (okIconst dX9_tick_8 rfl (by first | rfl | decide)) ?_
  refine And.intro (okAdd dX9_tick_9 rfl) ?_
  refine And.intro (okIastN dX9_tick_10 rfl) ?_
  refine And.intro (okAload_n dX9_tick_11 rfl rfl) ?_
  refine And.intro (okIconst dX9_tick_12 rfl (by first | rfl | decide)) ?_
  refine And.intro (okPutB (C := RX9) (T := TX9) (N := 22) dX9_tick_13 rfl rfl (by decide) inX9 tyX9_ok nmX9 rfl rfl wm_3_153) ?_
  refine And.intro (okAload_n dX9_tick_16 rfl rfl) ?_
  refine And.intro (okCallV (y := yX9_carryOut) (T := TX9) (oCallZ_is _ _ _) dX9_tick_17 rfl (ok_F_X9_carryOut l) rc_F_X9_carryOut rfl wm_4_72 wm_4_74 wp_30 wm_1_10 wm_4_75 pl_X9_carryOut (by decide)) ?_
  refine And.intro (okAload_n dX9_tick_20 rfl rfl) ?_
  refine And.intro (okGet (C := RX9) (T := TX9) (N := 22) dX9_tick_21 rfl rfl (by decide) inX9 wm_3_141) ?_
  refine And.intro (okBipush dX9_tick_24 rfl (by first | rfl | decide)) ?_
  refine And.intro (okDup2 dX9_tick_26 rfl) ?_
  refine And.intro (okIaldN dX9_tick_27 rfl) ?_
  refine And.intro (okAload_n dX9_tick_28 rfl rfl) ?_
  refine And.intro (okGet (C := RX9) (T := TX9) (N := 22) dX9_tick_29 rfl rfl (by decide) inX9 wm_3_141) ?_
  refine And.intro (okIconst dX9_tick_32 rfl (by first | rfl | decide)) ?_
  refine And.intro (okIaldN dX9_tick_33 rfl) ?_
  refine And.intro (okAdd dX9_tick_34 rfl) ?_
  refine And.intro (okIastN dX9_tick_35 rfl) ?_
  refine And.intro (okAload_n dX9_tick_36 rfl rfl) ?_
  refine And.intro (okIconst dX9_tick_37 rfl (by first | rfl | decide)) ?_
  refine And.intro (okAload_n dX9_tick_38 rfl rfl) ?_
  refine And.intro (okGet (C := RX9) (T := TX9) (N := 22) dX9_tick_39 rfl rfl (by decide) inX9 wm_3_141) ?_
  refine And.intro (okIconst dX9_tick_42 rfl (by first | rfl | decide)) ?_
  refine And.intro (okIaldN dX9_tick_43 rfl) ?_
  refine And.intro (okAload_n dX9_tick_44 rfl rfl) ?_
  refine And.intro (okGet (C := RX9) (T := TX9) (N := 22) dX9_tick_45 rfl rfl (by decide) inX9 wm_3_141) ?_
  refine And.intro (okIconst dX9_tick_48 rfl (by first | rfl | decide)) ?_
  refine And.intro (okIaldN dX9_tick_49 rfl) ?_
  refine And.intro (okCallV (y := yX9_fillInto) (T := TX9) (oCallZ_is _ _ _) dX9_tick_50 rfl (ok_F_X9_fillInto l) rc_F_X9_fillInto rfl wm_4_10 wm_4_12 wp_19 wm_1_10 wm_4_13 pl_X9_fillInto (by decide)) ?_
  refine And.intro (okIstore_n dX9_tick_53 rfl rfl (by decide)) ?_
  refine And.intro (okAload_n dX9_tick_54 rfl rfl) ?_
  refine And.intro (okCallV (y := yX9_mix) (T := TX9) (oCallZ_is _ _ _) dX9_tick_55 rfl (ok_F_X9_mix l) rc_F_X9_mix rfl wm_4_76 wm_4_78 wp_31 wm_1_10 wm_4_79 pl_X9_mix (by decide)) ?_
  refine And.intro (okAload_n dX9_tick_58 rfl rfl) ?_
  refine And.intro (okCallV (y := yX9_thin) (T := TX9) (oCallZ_is _ _ _) dX9_tick_59 rfl (ok_F_X9_thin l) rc_F_X9_thin rfl wm_4_80 wm_4_82 wp_32 wm_1_10 wm_4_83 pl_X9_thin (by decide)) ?_
  refine And.intro (okAload_n dX9_tick_62 rfl rfl) ?_
  refine And.intro (okCallV (y := yX9_control) (T := TX9) (oCallZ_is _ _ _) dX9_tick_63 rfl (ok_F_X9_control l) rc_F_X9_control rfl wm_4_84 wm_4_86 wp_33 wm_1_10 wm_4_87 pl_X9_control (by decide)) ?_
  refine And.intro (okAload_n dX9_tick_66 rfl rfl) ?_
  refine And.intro (okCallV (y := yX9_makePaper) (T := TX9) (oCallZ_is _ _ _) dX9_tick_67 rfl (ok_F_X9_makePaper l) rc_F_X9_makePaper rfl wm_4_92 wm_4_94 wp_35 wm_1_10 wm_4_95 pl_X9_makePaper (by decide)) ?_
  refine And.intro (okAload_n dX9_tick_70 rfl rfl) ?_
  refine And.intro (okGet (C := RX9) (T := TX9) (N := 22) dX9_tick_71 rfl rfl (by decide) inX9 wm_3_141) ?_
  refine And.intro (okBipush dX9_tick_74 rfl (by first | rfl | decide)) ?_
  refine And.intro (okDup2 dX9_tick_76 rfl) ?_
  refine And.intro (okIaldN dX9_tick_77 rfl) ?_
  refine And.intro (okAload_n dX9_tick_78 rfl rfl) ?_
  refine And.intro (okGet (C := RX9) (T := TX9) (N := 22) dX9_tick_79 rfl rfl (by decide) inX9 wm_3_141) ?_
  refine And.intro (okBipush dX9_tick_82 rfl (by first | rfl | decide)) ?_
  refine And.intro (okIaldN dX9_tick_84 rfl) ?_
  refine And.intro (okIfle dX9_tick_85 rfl (by rfl)) ?_
  refine And.intro (okIconst dX9_tick_88 rfl (by first | rfl | decide)) ?_
  refine And.intro (okGoto dX9_tick_89 (by rfl)) ?_
  refine And.intro (okIconst dX9_tick_92 rfl (by first | rfl | decide)) ?_
  refine And.intro (okSub dX9_tick_93 rfl) ?_
  refine And.intro (okIastN dX9_tick_94 rfl) ?_
  refine And.intro (okAload_n dX9_tick_95 rfl rfl) ?_
  refine And.intro (okGet (C := RX9) (T := TX9) (N := 22) dX9_tick_96 rfl rfl (by decide) inX9 wm_3_141) ?_
  refine And.intro (okBipush dX9_tick_99 rfl (by first | rfl | decide)) ?_
  refine And.intro (okDup2 dX9_tick_101 rfl) ?_
  refine And.intro (okIaldN dX9_tick_102 rfl) ?_
  refine And.intro (okAload_n dX9_tick_103 rfl rfl) ?_
  refine And.intro (okGet (C := RX9) (T := TX9) (N := 22) dX9_tick_104 rfl rfl (by decide) inX9 wm_3_141) ?_
  refine And.intro (okBipush dX9_tick_107 rfl (by first | rfl | decide)) ?_
  refine And.intro (okIaldN dX9_tick_109 rfl) ?_
  refine And.intro (okIfle dX9_tick_110 rfl (by rfl)) ?_
  refine And.intro (okIconst dX9_tick_113 rfl (by first | rfl | decide)) ?_
  refine And.intro (okGoto dX9_tick_114 (by rfl)) ?_
  refine And.intro (okIconst dX9_tick_117 rfl (by first | rfl | decide)) ?_
  refine And.intro (okSub dX9_tick_118 rfl) ?_
  refine And.intro (okIastN dX9_tick_119 rfl) ?_
  refine And.intro (okIconst dX9_tick_120 rfl (by first | rfl | decide)) ?_
  refine And.intro (okIstore_n dX9_tick_121 rfl rfl (by decide)) ?_
  refine And.intro (okIload_n dX9_tick_122 rfl rfl) ?_
  refine And.intro (okIconst dX9_tick_123 rfl (by first | rfl | decide)) ?_
  refine And.intro (okCge dX9_tick_124 rfl (by rfl)) ?_
  refine And.intro (okBipush dX9_tick_127 rfl (by first | rfl | decide)) ?_
  refine And.intro (okIconst dX9_tick_129 rfl (by first | rfl | decide)) ?_
  refine And.intro (okIload_n dX9_tick_130 rfl rfl) ?_
  refine And.intro (okMul dX9_tick_131 rfl) ?_
  refine And.intro (okAdd dX9_tick_132 rfl) ?_
  refine And.intro (okIconst dX9_tick_133 rfl (by first | rfl | decide)) ?_
  refine And.intro (okAdd dX9_tick_134 rfl) ?_
  refine And.intro (okIstore_n dX9_tick_135 rfl rfl (by decide)) ?_
  refine And.intro (okAload_n dX9_tick_136 rfl rfl) ?_
  refine And.intro (okGet (C := RX9) (T := TX9) (N := 22) dX9_tick_137 rfl rfl (by decide) inX9 wm_3_141) ?_
  refine And.intro (okIload_n dX9_tick_140 rfl rfl) ?_
  refine And.intro (okAload_n dX9_tick_141 rfl rfl) ?_
  refine And.intro (okIload_n dX9_tick_142 rfl rfl) ?_
  refine And.intro (okCallV (y := yX9_sum) (T := TX9) (oCallZ_is _ _ _) dX9_tick_143 rfl (ok_F_X9_sum l) rc_F_X9_sum rfl wm_4_14 wm_4_16 wp_20 wm_1_10 wm_4_17 pl_X9_sum (by decide)) ?_
  refine And.intro (okAload_n dX9_tick_146 rfl rfl) ?_
  refine And.intro (okGet (C := RX9) (T := TX9) (N := 22) dX9_tick_147 rfl rfl (by decide) inX9 wm_3_141) ?_
  refine And.intro (okIload_n dX9_tick_150 rfl rfl) ?_
  refine And.intro (okIaldP dX9_tick_151 rfl) ?_
  refine And.intro (okCle dX9_tick_152 rfl (by rfl)) ?_
  refine And.intro (okAload_n dX9_tick_155 rfl rfl) ?_
  refine And.intro (okIload_n dX9_tick_156 rfl rfl) ?_
  refine And.intro (okCallV (y := yX9_sum) (T := TX9) (oCallZ_is _ _ _) dX9_tick_157 rfl (ok_F_X9_sum l) rc_F_X9_sum rfl wm_4_14 wm_4_16 wp_20 wm_1_10 wm_4_17 pl_X9_sum (by decide)) ?_
  refine And.intro (okGoto dX9_tick_160 (by rfl)) ?_
  refine And.intro (okAload_n dX9_tick_163 rfl rfl) ?_
  refine And.intro (okGet (C := RX9) (T := TX9) (N := 22) dX9_tick_164 rfl rfl (by decide) inX9 wm_3_141) ?_
  refine And.intro (okIload_n dX9_tick_167 rfl rfl) ?_
  refine And.intro (okIaldP dX9_tick_168 rfl) ?_
  refine And.intro (okIastP dX9_tick_169 rfl) ?_
  refine And.intro (okIinc dX9_tick_170 rfl (by first | rfl | decide) (by decide)) ?_
  refine And.intro (okGoto dX9_tick_173 (by rfl)) ?_
  refine And.intro (okVret dX9_tick_176 rfl) ?_
  exact trivial
theorem lp_ns4 (rg : pRg) (x : pLV) (z : Int32) : ex k_X9_tick 5 76 [(2, .int 4), (3, .int (18 + 3 * 3 + 2)), (1, .int z), (0, .ref 0)] [] (mdl x) rg = some (none, mdl x, rg) := by
  conv => lhs; whnf
  refine (pif_t (by decide)).trans ?_
  rfl
set_option maxHeartbeats 400000 in
theorem lp_ns3 (rg : pRg) (x : pLV) (z : Int32) : ex k_X9_tick 7 76 [(2, .int 3), (3, .int (18 + 3 * 2 + 2)), (1, .int z), (0, .ref 0)] [] (mdl x) rg = some (none, mdl (nsM 3 x), rg) := by
  have hn := lp_ns4 rg (nsM 3 x) z
  conv => lhs; whnf
  refine (pif_f (by decide)).trans ?_
  conv => lhs; whnf
  refine (callK_r (cl_X9_sum3 x rg) (by rfl)).trans ?_
  conv => lhs; whnf
  refine pif_c (fun h => ?_) (fun h => ?_)
  · have e : nsM 3 x = vA x 1 (upd (x 1) (20 + 3 * 3) (x 1 (20 + 3 * 3))) := congrArg (fun y => vA x 1 (upd (x 1) (20 + 3 * 3) y)) (if_pos h)
    rw [e] at hn ⊢
    exact hn
  · conv => lhs; whnf
    refine (callK_r (cl_X9_sum3 x rg) (by rfl)).trans ?_
    have e : nsM 3 x = vA x 1 (upd (x 1) (20 + 3 * 3) (sumM 3 x)) := congrArg (fun y => vA x 1 (upd (x 1) (20 + 3 * 3) y)) (if_neg h)
    rw [e] at hn ⊢
    exact hn
set_option maxHeartbeats 400000 in
theorem lp_ns2 (rg : pRg) (x : pLV) (z : Int32) : ex k_X9_tick 9 76 [(2, .int 2), (3, .int (18 + 3 * 1 + 2)), (1, .int z), (0, .ref 0)] [] (mdl x) rg = some (none, mdl (nsM 3 (nsM 2 x)), rg) := by
  have hn := lp_ns3 rg (nsM 2 x) z
  conv => lhs; whnf
  refine (pif_f (by decide)).trans ?_
  conv => lhs; whnf
  refine (callK_r (cl_X9_sum2 x rg) (by rfl)).trans ?_
  conv => lhs; whnf
  refine pif_c (fun h => ?_) (fun h => ?_)
  · have e : nsM 2 x = vA x 1 (upd (x 1) (20 + 3 * 2) (x 1 (20 + 3 * 2))) := congrArg (fun y => vA x 1 (upd (x 1) (20 + 3 * 2) y)) (if_pos h)
    rw [e] at hn ⊢
    exact hn
  · conv => lhs; whnf
    refine (callK_r (cl_X9_sum2 x rg) (by rfl)).trans ?_
    have e : nsM 2 x = vA x 1 (upd (x 1) (20 + 3 * 2) (sumM 2 x)) := congrArg (fun y => vA x 1 (upd (x 1) (20 + 3 * 2) y)) (if_neg h)
    rw [e] at hn ⊢
    exact hn
set_option maxHeartbeats 400000 in
theorem lp_ns1 (rg : pRg) (x : pLV) (z : Int32) : ex k_X9_tick 11 76 [(2, .int 1), (3, .int (18 + 3 * 0 + 2)), (1, .int z), (0, .ref 0)] [] (mdl x) rg = some (none, mdl (nsM 3 (nsM 2 (nsM 1 x))), rg) := by
  have hn := lp_ns2 rg (nsM 1 x) z
  conv => lhs; whnf
  refine (pif_f (by decide)).trans ?_
  conv => lhs; whnf
  refine (callK_r (cl_X9_sum1 x rg) (by rfl)).trans ?_
  conv => lhs; whnf
  refine pif_c (fun h => ?_) (fun h => ?_)
  · have e : nsM 1 x = vA x 1 (upd (x 1) (20 + 3 * 1) (x 1 (20 + 3 * 1))) := congrArg (fun y => vA x 1 (upd (x 1) (20 + 3 * 1) y)) (if_pos h)
    rw [e] at hn ⊢
    exact hn
  · conv => lhs; whnf
    refine (callK_r (cl_X9_sum1 x rg) (by rfl)).trans ?_
    have e : nsM 1 x = vA x 1 (upd (x 1) (20 + 3 * 1) (sumM 1 x)) := congrArg (fun y => vA x 1 (upd (x 1) (20 + 3 * 1) y)) (if_neg h)
    rw [e] at hn ⊢
    exact hn
set_option maxHeartbeats 400000 in
theorem lp_ns0 (rg : pRg) (x : pLV) (z : Int32) : ex k_X9_tick 13 76 [(2, .int 0), (1, .int z), (0, .ref 0)] [] (mdl x) rg = some (none, mdl (nsM 3 (nsM 2 (nsM 1 (nsM 0 x)))), rg) := by
  have hn := lp_ns1 rg (nsM 0 x) z
  conv => lhs; whnf
  refine (pif_f (by decide)).trans ?_
  conv => lhs; whnf
  refine (callK_r (cl_X9_sum0 x rg) (by rfl)).trans ?_
  conv => lhs; whnf
  refine pif_c (fun h => ?_) (fun h => ?_)
  · have e : nsM 0 x = vA x 1 (upd (x 1) (20 + 3 * 0) (x 1 (20 + 3 * 0))) := congrArg (fun y => vA x 1 (upd (x 1) (20 + 3 * 0) y)) (if_pos h)
    rw [e] at hn ⊢
    exact hn
  · conv => lhs; whnf
    refine (callK_r (cl_X9_sum0 x rg) (by rfl)).trans ?_
    have e : nsM 0 x = vA x 1 (upd (x 1) (20 + 3 * 0) (sumM 0 x)) := congrArg (fun y => vA x 1 (upd (x 1) (20 + 3 * 0) y)) (if_neg h)
    rw [e] at hn ⊢
    exact hn
set_option maxHeartbeats 1000000 in
theorem lp_tail (rg : pRg) (y : pLV) (z : Int32) : ex k_X9_tick 15 44 [(1, .int z), (0, .ref 0)] [] (mdl y) rg = some (none, mdl (ns4 (t8M y)), rg) := by
  conv => lhs; whnf
  refine pif_c (fun g1 => ?_) (fun g1 => ?_)
  · conv => lhs; whnf
    refine pif_c (fun g2 => ?_) (fun g2 => ?_)
    · have e : t8M y = vA y 1 (upd (upd (y 1) 11 (y 1 11 - 0)) 12 (y 1 12 - 0)) := by
        unfold t8M; rw [show dcI (y 1 11) = _ from if_pos g1, show dcI (y 1 12) = _ from if_pos g2]
      rw [e]
      have hn := lp_ns0 rg (vA y 1 (upd (upd (y 1) 11 (y 1 11 - 0)) 12 (y 1 12 - 0))) z
      conv at hn => lhs; whnf
      conv => lhs; whnf
      exact hn
    · have e : t8M y = vA y 1 (upd (upd (y 1) 11 (y 1 11 - 0)) 12 (y 1 12 - 1)) := by
        unfold t8M; rw [show dcI (y 1 11) = _ from if_pos g1, show dcI (y 1 12) = _ from if_neg g2]
      rw [e]
      have hn := lp_ns0 rg (vA y 1 (upd (upd (y 1) 11 (y 1 11 - 0)) 12 (y 1 12 - 1))) z
      conv at hn => lhs; whnf
      conv => lhs; whnf
      exact hn
  · conv => lhs; whnf
    refine pif_c (fun g2 => ?_) (fun g2 => ?_)
    · have e : t8M y = vA y 1 (upd (upd (y 1) 11 (y 1 11 - 1)) 12 (y 1 12 - 0)) := by
        unfold t8M; rw [show dcI (y 1 11) = _ from if_neg g1, show dcI (y 1 12) = _ from if_pos g2]
      rw [e]
      have hn := lp_ns0 rg (vA y 1 (upd (upd (y 1) 11 (y 1 11 - 1)) 12 (y 1 12 - 0))) z
      conv at hn => lhs; whnf
      conv => lhs; whnf
      exact hn
    · have e : t8M y = vA y 1 (upd (upd (y 1) 11 (y 1 11 - 1)) 12 (y 1 12 - 1)) := by
        unfold t8M; rw [show dcI (y 1 11) = _ from if_neg g1, show dcI (y 1 12) = _ from if_neg g2]
      rw [e]
      have hn := lp_ns0 rg (vA y 1 (upd (upd (y 1) 11 (y 1 11 - 1)) 12 (y 1 12 - 1))) z
      conv at hn => lhs; whnf
      conv => lhs; whnf
      exact hn
def G_X9_tick : pG := fun args w => match args with
  | [.ref 0] => unM w (fun m => pif (tOK m) (some (none, mdl (tickM m))) none)
  | _ => none
set_option maxHeartbeats 400000 in
set_option maxRecDepth 100000 in
theorem run_X9_tick (rg : pRg) (m : pLV)  (hc : tOK m) : ∃ fu, ex k_X9_tick fu 0 [(0, .ref 0)] [] (mdl m) rg = some (none, mdl (tickM m), rg) := by
  refine ⟨15, ?_⟩
  obtain ⟨h1, h2, h3⟩ := hc
  unfold tickM
  unfold tA at h2 h3 ⊢
  unfold t1M at h2 h3 ⊢
  conv => lhs; whnf
  refine (pif_t (by decide)).trans ?_
  conv => lhs; whnf
  refine (callK_v (cl_X9_carryOut (t0M m) rg h1) (by rfl)).trans ?_
  revert h2 h3
  generalize cryM (NM (t0M m)) = x1
  revert x1; refine id ?_; intro x1 h2 h3
  conv => lhs; whnf
  refine (callK_r (cl_X9_fillInto0 (vA x1 1 (upd (x1 1) 30 (x1 1 30 + x1 1 0))) (x1 1 0) (x1 1 1) rg) (by rfl)).trans ?_
  unfold t2M at h2 h3 ⊢
  revert h2 h3
  generalize fillM 0 (NM (vA x1 1 (upd (x1 1) 30 (x1 1 30 + x1 1 0)))) (x1 1 0) (x1 1 1) = x2
  revert x2; refine id ?_; intro x2 h2 h3
  generalize fillR 0 (NM (vA x1 1 (upd (x1 1) 30 (x1 1 30 + x1 1 0)))) (x1 1 0) (x1 1 1) = z
  revert z; refine id ?_; intro z
  conv => lhs; whnf
  refine (callK_v (cl_X9_mix x2 rg) (by rfl)).trans ?_
  revert h2 h3
  generalize mixM (NM x2) = x3
  revert x3; refine id ?_; intro x3 h2 h3
  conv => lhs; whnf
  refine (callK_v (cl_X9_thin x3 rg) (by rfl)).trans ?_
  revert h2 h3
  generalize thinM (NM x3) = x4
  revert x4; refine id ?_; intro x4 h2 h3
  conv => lhs; whnf
  refine (callK_v (cl_X9_control x4 rg h2) (by rfl)).trans ?_
  clear h2
  revert h3
  generalize ctlM (NM x4) = x5
  revert x5; refine id ?_; intro x5 h3
  conv => lhs; whnf
  refine (callK_v (cl_X9_makePaper x5 rg h3) (by rfl)).trans ?_
  clear h3
  generalize mkpM (NM x5) = y
  revert y; refine id ?_; intro y
  exact lp_tail rg y z
theorem ct_X9_tick (l : Launch) : ∀ args0 w0 v0 w1 rg, G_X9_tick args0 w0 = some (v0, w1) → pCT l yX9_tick (pWs yX9_tick cX9_tick 4 (none)) rm_X9_tick args0 w0 rg (v0, w1, rg) := by
  intro args0 w0 v0 w1 rg h
  unfold G_X9_tick at h
  split at h
  next  =>
    obtain ⟨m, hw, h2⟩ := unM_some h
    clear h
    subst hw
    by_cases hc : tOK m
    · have h2 := (pif_t hc).symm.trans h2
      cases h2
      exact met_of_exM (by decide) (ok_k_X9_tick l) rfl (run_X9_tick rg m  hc) (Nat.le_of_ble_eq_true rfl) rfl rfl
    · have h2 := (pif_f hc).symm.trans h2
      cases h2
  next => cases h
def F_X9_tick : pF := faN G_X9_tick
theorem ok_F_X9_tick (l : Launch) : pFOK l yX9_tick (pWs yX9_tick cX9_tick 4 (none)) rm_X9_tick F_X9_tick := pFOK_fa (fun a b c d rg h => ct_X9_tick l a b c d rg h)
theorem rc_F_X9_tick : pRcv 9 F_X9_tick := pRcv_fa (fun a b c d h => by
  unfold G_X9_tick at h
  split at h
  next =>
    obtain ⟨m, rfl, h⟩ := unM_some h
    exact ⟨_, _, _, rfl, rfl⟩
  next => cases h)
theorem cl_X9_tick (m : pLV)  (rg : pRg) (hc : tOK (NM m)) : F_X9_tick [.ref 0] (mdl m) rg = some (none, mdl (tickM (NM m)), rg) := by
  have h : G_X9_tick [.ref 0] (mdl m) = some (none, mdl (tickM (NM m))) := pif_t hc
  unfold F_X9_tick faN
  rw [h]
end
