noncomputable section
def tk1 (v : pLV) : pLV := cryV (NL (vS v 0 (v 0 0 + 1)))
def tk2 (v : pLV) : pLV := pourV 0 (NL (vS v 22 (v 0 22 + v 1 0))) (v 1 0) (v 1 1)
def tk5 (v : pLV) : pLV := vA (vS v 28 (mnI (v 0 28 + 1) 9)) 3 (shM (v 3) (csC (v 0 19) (v 0 20)))
def tk6 (v : pLV) : pLV := vS v 27 (ctV (v 0 27) (v 0 28) (v 3) (v 1 5) (v 1 4) (v 1 6))
def tk8 (v : pLV) : pLV := vS (vS v 2 (mxI 0 (v 0 2 - 1))) 3 (mxI 0 (v 0 3 - 1))
def tickV (v : pLV) : pLV := smV (NL (tk8 (shtV (NL (tk6 (tk5 (mchV (NL (mixV (NL (tk2 (tk1 v))))))))))))
def tickZ (v : pLV) : Int32 := shtZ (NL (tk6 (tk5 (mchV (NL (mixV (NL (tk2 (tk1 v)))))))))
theorem shtZ_01 (v : pLV) : shtZ v = 0 ∨ shtZ v = 1 := by
  unfold shtZ
  split
  · split
    · exact Or.inl rfl
    · unfold shS; split
      · exact Or.inl rfl
      · exact Or.inr rfl
  · unfold shS; split
    · exact Or.inl rfl
    · exact Or.inr rfl
theorem dX5_tick_0 : decode cX5_tick 0 = .ok (.aload_n 0, 1) := by decide +kernel
theorem dX5_tick_1 : decode cX5_tick 1 = .ok (.dup, 1) := by decide +kernel
theorem dX5_tick_2 : decode cX5_tick 2 = .ok (.getfield 9, 3) := by decide +kernel
theorem dX5_tick_5 : decode cX5_tick 5 = .ok (.iconst 1, 1) := by decide +kernel
theorem dX5_tick_6 : decode cX5_tick 6 = .ok (.iadd, 1) := by decide +kernel
theorem dX5_tick_7 : decode cX5_tick 7 = .ok (.putfield 9, 3) := by decide +kernel
theorem dX5_tick_10 : decode cX5_tick 10 = .ok (.aload_n 0, 1) := by decide +kernel
theorem dX5_tick_11 : decode cX5_tick 11 = .ok (.invokevirtual 130, 3) := by decide +kernel
theorem dX5_tick_14 : decode cX5_tick 14 = .ok (.aload_n 0, 1) := by decide +kernel
theorem dX5_tick_15 : decode cX5_tick 15 = .ok (.getfield 54, 3) := by decide +kernel
theorem dX5_tick_18 : decode cX5_tick 18 = .ok (.dup, 1) := by decide +kernel
theorem dX5_tick_19 : decode cX5_tick 19 = .ok (.getfield 133, 3) := by decide +kernel
theorem dX5_tick_22 : decode cX5_tick 22 = .ok (.aload_n 0, 1) := by decide +kernel
theorem dX5_tick_23 : decode cX5_tick 23 = .ok (.getfield 72, 3) := by decide +kernel
theorem dX5_tick_26 : decode cX5_tick 26 = .ok (.iconst 0, 1) := by decide +kernel
theorem dX5_tick_27 : decode cX5_tick 27 = .ok (.iaload, 1) := by decide +kernel
theorem dX5_tick_28 : decode cX5_tick 28 = .ok (.iadd, 1) := by decide +kernel
theorem dX5_tick_29 : decode cX5_tick 29 = .ok (.putfield 133, 3) := by decide +kernel
theorem dX5_tick_32 : decode cX5_tick 32 = .ok (.aload_n 0, 1) := by decide +kernel
theorem dX5_tick_33 : decode cX5_tick 33 = .ok (.aload_n 0, 1) := by decide +kernel
theorem dX5_tick_34 : decode cX5_tick 34 = .ok (.getfield 38, 3) := by decide +kernel
theorem dX5_tick_37 : decode cX5_tick 37 = .ok (.aload_n 0, 1) := by decide +kernel
theorem dX5_tick_38 : decode cX5_tick 38 = .ok (.getfield 72, 3) := by decide +kernel
theorem dX5_tick_41 : decode cX5_tick 41 = .ok (.iconst 0, 1) := by decide +kernel
theorem dX5_tick_42 : decode cX5_tick 42 = .ok (.iaload, 1) := by decide +kernel
theorem dX5_tick_43 : decode cX5_tick 43 = .ok (.aload_n 0, 1) := by decide +kernel
theorem dX5_tick_44 : decode cX5_tick 44 = .ok (.getfield 72, 3) := by decide +kernel
theorem dX5_tick_47 : decode cX5_tick 47 = .ok (.iconst 1, 1) := by decide +kernel
theorem dX5_tick_48 : decode cX5_tick 48 = .ok (.iaload, 1) := by decide +kernel
theorem dX5_tick_49 : decode cX5_tick 49 = .ok (.invokevirtual 136, 3) := by decide +kernel
theorem dX5_tick_52 : decode cX5_tick 52 = .ok (.pop, 1) := by decide +kernel
theorem dX5_tick_53 : decode cX5_tick 53 = .ok (.aload_n 0, 1) := by decide +kernel
theorem dX5_tick_54 : decode cX5_tick 54 = .ok (.invokevirtual 140, 3) := by decide +kernel
theorem dX5_tick_57 : decode cX5_tick 57 = .ok (.aload_n 0, 1) := by decide +kernel
theorem dX5_tick_58 : decode cX5_tick 58 = .ok (.invokevirtual 143, 3) := by decide +kernel
theorem dX5_tick_61 : decode cX5_tick 61 = .ok (.aload_n 0, 1) := by decide +kernel
theorem dX5_tick_62 : decode cX5_tick 62 = .ok (.getfield 61, 3) := by decide +kernel
theorem dX5_tick_65 : decode cX5_tick 65 = .ok (.aload_n 0, 1) := by decide +kernel
theorem dX5_tick_66 : decode cX5_tick 66 = .ok (.getfield 48, 3) := by decide +kernel
theorem dX5_tick_69 : decode cX5_tick 69 = .ok (.invokevirtual 146, 3) := by decide +kernel
theorem dX5_tick_72 : decode cX5_tick 72 = .ok (.invokevirtual 149, 3) := by decide +kernel
theorem dX5_tick_75 : decode cX5_tick 75 = .ok (.aload_n 0, 1) := by decide +kernel
theorem dX5_tick_76 : decode cX5_tick 76 = .ok (.getfield 61, 3) := by decide +kernel
theorem dX5_tick_79 : decode cX5_tick 79 = .ok (.aload_n 0, 1) := by decide +kernel
theorem dX5_tick_80 : decode cX5_tick 80 = .ok (.getfield 72, 3) := by decide +kernel
theorem dX5_tick_83 : decode cX5_tick 83 = .ok (.iconst 5, 1) := by decide +kernel
theorem dX5_tick_84 : decode cX5_tick 84 = .ok (.iaload, 1) := by decide +kernel
theorem dX5_tick_85 : decode cX5_tick 85 = .ok (.aload_n 0, 1) := by decide +kernel
theorem dX5_tick_86 : decode cX5_tick 86 = .ok (.getfield 72, 3) := by decide +kernel
theorem dX5_tick_89 : decode cX5_tick 89 = .ok (.iconst 4, 1) := by decide +kernel
theorem dX5_tick_90 : decode cX5_tick 90 = .ok (.iaload, 1) := by decide +kernel
theorem dX5_tick_91 : decode cX5_tick 91 = .ok (.aload_n 0, 1) := by decide +kernel
theorem dX5_tick_92 : decode cX5_tick 92 = .ok (.getfield 72, 3) := by decide +kernel
theorem dX5_tick_95 : decode cX5_tick 95 = .ok (.bipush 6, 2) := by decide +kernel
theorem dX5_tick_97 : decode cX5_tick 97 = .ok (.iaload, 1) := by decide +kernel
theorem dX5_tick_98 : decode cX5_tick 98 = .ok (.invokevirtual 152, 3) := by decide +kernel
theorem dX5_tick_101 : decode cX5_tick 101 = .ok (.aload_n 0, 1) := by decide +kernel
theorem dX5_tick_102 : decode cX5_tick 102 = .ok (.invokevirtual 156, 3) := by decide +kernel
theorem dX5_tick_105 : decode cX5_tick 105 = .ok (.istore_n 1, 1) := by decide +kernel
theorem dX5_tick_106 : decode cX5_tick 106 = .ok (.aload_n 0, 1) := by decide +kernel
theorem dX5_tick_107 : decode cX5_tick 107 = .ok (.iconst 0, 1) := by decide +kernel
theorem dX5_tick_108 : decode cX5_tick 108 = .ok (.aload_n 0, 1) := by decide +kernel
theorem dX5_tick_109 : decode cX5_tick 109 = .ok (.getfield 18, 3) := by decide +kernel
theorem dX5_tick_112 : decode cX5_tick 112 = .ok (.iconst 1, 1) := by decide +kernel
theorem dX5_tick_113 : decode cX5_tick 113 = .ok (.isub, 1) := by decide +kernel
theorem dX5_tick_114 : decode cX5_tick 114 = .ok (.invokestatic 110, 3) := by decide +kernel
theorem dX5_tick_117 : decode cX5_tick 117 = .ok (.putfield 18, 3) := by decide +kernel
theorem dX5_tick_120 : decode cX5_tick 120 = .ok (.aload_n 0, 1) := by decide +kernel
theorem dX5_tick_121 : decode cX5_tick 121 = .ok (.iconst 0, 1) := by decide +kernel
theorem dX5_tick_122 : decode cX5_tick 122 = .ok (.aload_n 0, 1) := by decide +kernel
theorem dX5_tick_123 : decode cX5_tick 123 = .ok (.getfield 21, 3) := by decide +kernel
theorem dX5_tick_126 : decode cX5_tick 126 = .ok (.iconst 1, 1) := by decide +kernel
theorem dX5_tick_127 : decode cX5_tick 127 = .ok (.isub, 1) := by decide +kernel
theorem dX5_tick_128 : decode cX5_tick 128 = .ok (.invokestatic 110, 3) := by decide +kernel
theorem dX5_tick_131 : decode cX5_tick 131 = .ok (.putfield 21, 3) := by decide +kernel
theorem dX5_tick_134 : decode cX5_tick 134 = .ok (.aload_n 0, 1) := by decide +kernel
theorem dX5_tick_135 : decode cX5_tick 135 = .ok (.invokevirtual 159, 3) := by decide +kernel
theorem dX5_tick_138 : decode cX5_tick 138 = .ok (.iload_n 1, 1) := by decide +kernel
theorem dX5_tick_139 : decode cX5_tick 139 = .ok (.ireturn, 1) := by decide +kernel
def k_X5_tick : List pEn := [oAload 0, oDup, oGet 5 0, oConst (1), oAdd, oPut 5 0, oAload 0, oCallZ 1 F_X5_carryOutSchedule, oAload 0, oGet 5 11, oDup, oGet 0 0, oAload 0, oGet 5 14, oConst (0), oIaldN 0, oAdd, oPut 0 0, oAload 0, oAload 0, oGet 5 7, oAload 0, oGet 5 14, oConst (0), oIaldN 0, oAload 0, oGet 5 14, oConst (1), oIaldN 1, oCallZ 4 F_X5_pour, oPop, oAload 0, oCallZ 1 F_X5_feedMixing, oAload 0, oCallZ 1 F_X5_feedMachine, oAload 0, oGet 5 12, oAload 0, oGet 5 10, oCall 1 F_X1_consistency, oCall 2 F_X2_measure, oAload 0, oGet 5 12, oAload 0, oGet 5 14, oConst (5), oIaldN 5, oAload 0, oGet 5 14, oConst (4), oIaldN 4, oAload 0, oGet 5 14, oConst (6), oIaldN 6, oCall 4 F_X2_control, oAload 0, oCallZ 1 F_X5_makeSheet, oIstore 1, oAload 0, oConst (0), oAload 0, oGet 5 2, oConst (1), oSub, oMax, oPut 5 2, oAload 0, oConst (0), oAload 0, oGet 5 3, oConst (1), oSub, oMax, oPut 5 3, oAload 0, oCallZ 1 F_X5_noteSums, oIload 1, oZret]
def pc_X5_tick (i : Nat) : Nat := ([0, 1, 2, 5, 6, 7, 10, 11, 14, 15, 18, 19, 22, 23, 26, 27, 28, 29, 32, 33, 34, 37, 38, 41, 42, 43, 44, 47, 48, 49, 52, 53, 54, 57, 58, 61, 62, 65, 66, 69, 72, 75, 76, 79, 80, 83, 84, 85, 86, 89, 90, 91, 92, 95, 97, 98, 101, 102, 105, 106, 107, 108, 109, 112, 113, 114, 117, 120, 121, 122, 123, 126, 127, 128, 131, 134, 135, 138, 139] : List Nat).getD i 0
abbrev rm_X5_tick : Room := { frames := 4, cells := 0, slots := 0, locals := 95 }
theorem pl_X5_tick : pPlain yX5_tick 0 := by decide +kernel
set_option maxRecDepth 100000 in
set_option maxHeartbeats 4000000 in
theorem ok_k_X5_tick (l : Launch) : ∀ (i : Nat) (en : pEn), k_X5_tick[i]? = some en → EOK l cX5_tick yX5_tick.cls 2 ((some FieldType.boolean)) rm_X5_tick 0 pc_X5_tick i en := by
  refine allOK_at ?_
  refine And.intro (okAload_n dX5_tick_0 rfl rfl) ?_
  refine And.intro (okDup dX5_tick_1 rfl) ?_
  refine And.intro (okGet (C := RX5) (T := TX5) (N := 15) dX5_tick_2 rfl rfl (by decide) inX5 wm_1_152) ?_
  refine And.intro (okIconst dX5_tick_5 rfl (by first | rfl | decide)) ?_
  refine And.intro (okAdd dX5_tick_6 rfl) ?_
  refine And.intro (okPut (C := RX5) (T := TX5) (N := 15) dX5_tick_7 rfl rfl (by decide) inX5 tyX5_ok nmX5 rfl rfl wm_1_152) ?_
  refine And.intro (okAload_n dX5_tick_10 rfl rfl) ?_
  refine And.intro (okCallV (y := yX5_carryOutSchedule) (T := TX5) (oCallZ_is _ _ _) dX5_tick_11 rfl (ok_F_X5_carryOutSchedule l) rc_F_X5_carryOutSchedule rfl wm_2_221 wm_2_223 wp_6 wm_1_2 wm_2_224 pl_X5_carryOutSchedule (by decide)) ?_
  refine And.intro (okAload_n dX5_tick_14 rfl rfl) ?_
  refine And.intro (okGet (C := RX5) (T := TX5) (N := 15) dX5_tick_15 rfl rfl (by decide) inX5 wm_1_172) ?_
  refine And.intro (okDup dX5_tick_18 rfl) ?_
  refine And.intro (okGet (C := RX0) (T := TX0) (N := 6) dX5_tick_19 rfl rfl (by decide) inX0 wm_1_56) ?_
  refine And.intro (okAload_n dX5_tick_22 rfl rfl) ?_
  refine And.intro (okGet (C := RX5) (T := TX5) (N := 15) dX5_tick_23 rfl rfl (by decide) inX5 wm_1_178) ?_
  refine And.intro (okIconst dX5_tick_26 rfl (by first | rfl | decide)) ?_
  refine And.intro (okIaldN dX5_tick_27 rfl) ?_
  refine And.intro (okAdd dX5_tick_28 rfl) ?_
  refine And.intro (okPut (C := RX0) (T := TX0) (N := 6) dX5_tick_29 rfl rfl (by decide) inX0 tyX0_ok nmX0 rfl rfl wm_1_56) ?_
  refine And.intro (okAload_n dX5_tick_32 rfl rfl) ?_
  refine And.intro (okAload_n dX5_tick_33 rfl rfl) ?_
  refine And.intro (okGet (C := RX5) (T := TX5) (N := 15) dX5_tick_34 rfl rfl (by decide) inX5 wm_1_166) ?_
  refine And.intro (okAload_n dX5_tick_37 rfl rfl) ?_
  refine And.intro (okGet (C := RX5) (T := TX5) (N := 15) dX5_tick_38 rfl rfl (by decide) inX5 wm_1_178) ?_
  refine And.intro (okIconst dX5_tick_41 rfl (by first | rfl | decide)) ?_
  refine And.intro (okIaldN dX5_tick_42 rfl) ?_
  refine And.intro (okAload_n dX5_tick_43 rfl rfl) ?_
  refine And.intro (okGet (C := RX5) (T := TX5) (N := 15) dX5_tick_44 rfl rfl (by decide) inX5 wm_1_178) ?_
  refine And.intro (okIconst dX5_tick_47 rfl (by first | rfl | decide)) ?_
  refine And.intro (okIaldN dX5_tick_48 rfl) ?_
  refine And.intro (okCallV (y := yX5_pour) (T := TX5) (oCallZ_is _ _ _) dX5_tick_49 rfl (ok_F_X5_pour l) rc_F_X5_pour rfl wm_2_231 wm_2_135 wm_2_136 wm_1_2 wm_2_137 pl_X5_pour (by decide)) ?_
  refine And.intro (okPop dX5_tick_52 rfl) ?_
  refine And.intro (okAload_n dX5_tick_53 rfl rfl) ?_
  refine And.intro (okCallV (y := yX5_feedMixing) (T := TX5) (oCallZ_is _ _ _) dX5_tick_54 rfl (ok_F_X5_feedMixing l) rc_F_X5_feedMixing rfl wm_2_232 wm_2_234 wp_8 wm_1_2 wm_2_235 pl_X5_feedMixing (by decide)) ?_
  refine And.intro (okAload_n dX5_tick_57 rfl rfl) ?_
  refine And.intro (okCallV (y := yX5_feedMachine) (T := TX5) (oCallZ_is _ _ _) dX5_tick_58 rfl (ok_F_X5_feedMachine l) rc_F_X5_feedMachine rfl wm_3_7 wm_3_9 wp_10 wm_1_2 wm_3_10 pl_X5_feedMachine (by decide)) ?_
  refine And.intro (okAload_n dX5_tick_61 rfl rfl) ?_
  refine And.intro (okGet (C := RX5) (T := TX5) (N := 15) dX5_tick_62 rfl rfl (by decide) inX5 wm_1_174) ?_
  refine And.intro (okAload_n dX5_tick_65 rfl rfl) ?_
  refine And.intro (okGet (C := RX5) (T := TX5) (N := 15) dX5_tick_66 rfl rfl (by decide) inX5 wm_1_170) ?_
  refine And.intro (okCallV (y := yX1_consistency) (T := TX1) (oCall_is _ _ _) dX5_tick_69 rfl (ok_F_X1_consistency l) rc_F_X1_consistency rfl wm_3_11 wm_3_12 wm_3_13 wm_1_3 wm_3_14 pl_X1_consistency (by decide)) ?_
  refine And.intro (okCallV (y := yX2_measure) (T := TX2) (oCall_is _ _ _) dX5_tick_72 rfl (ok_F_X2_measure l) rc_F_X2_measure rfl wm_3_15 wm_3_16 wm_3_17 wm_1_5 wm_3_18 pl_X2_measure (by decide)) ?_
  refine And.intro (okAload_n dX5_tick_75 rfl rfl) ?_
  refine And.intro (okGet (C := RX5) (T := TX5) (N := 15) dX5_tick_76 rfl rfl (by decide) inX5 wm_1_174) ?_
  refine And.intro (okAload_n dX5_tick_79 rfl rfl) ?_
  refine And.intro (okGet (C := RX5) (T := TX5) (N := 15) dX5_tick_80 rfl rfl (by decide) inX5 wm_1_178) ?_
  refine And.intro (okIconst dX5_tick_83 rfl (by first | rfl | decide)) ?_
  refine And.intro (okIaldN dX5_tick_84 rfl) ?_
  refine And.intro (okAload_n dX5_tick_85 rfl rfl) ?_
  refine And.intro (okGet (C := RX5) (T := TX5) (N := 15) dX5_tick_86 rfl rfl (by decide) inX5 wm_1_178) ?_
  refine And.intro (okIconst dX5_tick_89 rfl (by first | rfl | decide)) ?_
  refine And.intro (okIaldN dX5_tick_90 rfl) ?_
  refine And.intro (okAload_n dX5_tick_91 rfl rfl) ?_
  refine And.intro (okGet (C := RX5) (T := TX5) (N := 15) dX5_tick_92 rfl rfl (by decide) inX5 wm_1_178) ?_
  refine And.intro (okBipush dX5_tick_95 rfl (by first | rfl | decide)) ?_
  refine And.intro (okIaldN dX5_tick_97 rfl) ?_
  refine And.intro (okCallV (y := yX2_control) (T := TX2) (oCall_is _ _ _) dX5_tick_98 rfl (ok_F_X2_control l) rc_F_X2_control rfl wm_3_20 wm_3_21 wm_3_22 wm_1_5 wm_3_23 pl_X2_control (by decide)) ?_
  refine And.intro (okAload_n dX5_tick_101 rfl rfl) ?_
  refine And.intro (okCallV (y := yX5_makeSheet) (T := TX5) (oCallZ_is _ _ _) dX5_tick_102 rfl (ok_F_X5_makeSheet l) rc_F_X5_makeSheet rfl wm_3_25 wm_3_27 wp_11 wm_1_2 wm_3_28 pl_X5_makeSheet (by decide)) ?_
  refine And.intro (okIstore_n dX5_tick_105 rfl rfl (by decide)) ?_
  refine And.intro (okAload_n dX5_tick_106 rfl rfl) ?_
  refine And.intro (okIconst dX5_tick_107 rfl (by first | rfl | decide)) ?_
  refine And.intro (okAload_n dX5_tick_108 rfl rfl) ?_
  refine And.intro (okGet (C := RX5) (T := TX5) (N := 15) dX5_tick_109 rfl rfl (by decide) inX5 wm_1_156) ?_
  refine And.intro (okIconst dX5_tick_112 rfl (by first | rfl | decide)) ?_
  refine And.intro (okSub dX5_tick_113 rfl) ?_
  refine And.intro (okMax dX5_tick_114 rfl wm_2_114 wm_2_115 wm_1_11 wm_2_116 (by decide) (by decide)) ?_
  refine And.intro (okPut (C := RX5) (T := TX5) (N := 15) dX5_tick_117 rfl rfl (by decide) inX5 tyX5_ok nmX5 rfl rfl wm_1_156) ?_
  refine And.intro (okAload_n dX5_tick_120 rfl rfl) ?_
  refine And.intro (okIconst dX5_tick_121 rfl (by first | rfl | decide)) ?_
  refine And.intro (okAload_n dX5_tick_122 rfl rfl) ?_
  refine And.intro (okGet (C := RX5) (T := TX5) (N := 15) dX5_tick_123 rfl rfl (by decide) inX5 wm_1_158) ?_
  refine And.intro (okIconst dX5_tick_126 rfl (by first | rfl | decide)) ?_
  refine And.intro (okSub dX5_tick_127 rfl) ?_
  refine And.intro (okMax dX5_tick_128 rfl wm_2_114 wm_2_115 wm_1_11 wm_2_116 (by decide) (by decide)) ?_
  refine And.intro (okPut (C := RX5) (T := TX5) (N := 15) dX5_tick_131 rfl rfl (by decide) inX5 tyX5_ok nmX5 rfl rfl wm_1_158) ?_
  refine And.intro (okAload_n dX5_tick_134 rfl rfl) ?_
  refine And.intro (okCallV (y := yX5_noteSums) (T := TX5) (oCallZ_is _ _ _) dX5_tick_135 rfl (ok_F_X5_noteSums l) rc_F_X5_noteSums rfl wm_3_33 wm_3_35 wp_13 wm_1_2 wm_3_36 pl_X5_noteSums (by decide)) ?_
  refine And.intro (okIload_n dX5_tick_138 rfl rfl) ?_
  refine And.intro (okZret dX5_tick_139 rfl) ?_
  exact trivial
def G_X5_tick : pG := fun args w => match args with
  | [.ref 0] => unL 0 w (fun v => some (some (.int (tickZ v)), loopCells 0 (tickV v)))
  | _ => none
set_option maxHeartbeats 400000 in
set_option maxRecDepth 100000 in
theorem run_X5_tick (rg : pRg) (v : pLV)  : ∃ fu, ex k_X5_tick fu 0 [(0, .ref 0)] [] (loopCells 0 v) rg = some (some (.int (tickZ v)), loopCells 0 (tickV v), rg) := by
  refine ⟨60, ?_⟩
  conv => lhs; whnf
  refine (callK_v (cl_X5_carryOutSchedule (vS v 0 (v 0 0 + 1)) rg) rfl).trans ?_
  unfold tickV tickZ tk1
  generalize cryV (NL (vS v 0 (v 0 0 + 1))) = x1
  revert x1; refine id ?_; intro x1
  conv => lhs; whnf
  refine (callK_r (cl_X5_pour0 (vS x1 22 (x1 0 22 + x1 1 0)) (x1 1 0) (x1 1 1) rg) rfl).trans ?_
  unfold tk2
  generalize pourV 0 (NL (vS x1 22 (x1 0 22 + x1 1 0))) (x1 1 0) (x1 1 1) = x2
  revert x2; refine id ?_; intro x2
  conv => lhs; whnf
  refine (callK_v (cl_X5_feedMixing x2 rg) rfl).trans ?_
  generalize mixV (NL x2) = x3
  revert x3; refine id ?_; intro x3
  conv => lhs; whnf
  refine (callK_v (cl_X5_feedMachine x3 rg) rfl).trans ?_
  generalize mchV (NL x3) = x4
  revert x4; refine id ?_; intro x4
  conv => lhs; whnf
  refine (callK_r (cl_X5_makeSheet (tk6 (tk5 x4)) rg) rfl).trans ?_
  have hz := shtZ_01 (NL (tk6 (tk5 x4)))
  revert hz
  generalize shtZ (NL (tk6 (tk5 x4))) = z
  generalize shtV (NL (tk6 (tk5 x4))) = x7
  revert x7 z; refine id ?_; intro z x7 hz
  conv => lhs; whnf
  refine (callK_v (cl_X5_noteSums (tk8 x7) rg) rfl).trans ?_
  generalize smV (NL (tk8 x7)) = x9
  revert x9; refine id ?_; intro x9
  conv => lhs; whnf
  refine (pif_t hz).trans ?_
  rfl
theorem ct_X5_tick (l : Launch) : ∀ args0 w0 v0 w1 rg, G_X5_tick args0 w0 = some (v0, w1) → pCT l yX5_tick (pWs yX5_tick cX5_tick 2 ((some FieldType.boolean))) rm_X5_tick args0 w0 rg (v0, w1, rg) := by
  intro args0 w0 v0 w1 rg h
  unfold G_X5_tick at h
  split at h
  next  =>
    obtain ⟨v, hw, h2⟩ := unL_some h
    clear h
    subst hw
    cases h2
    exact met_of_exL (by decide) (ok_k_X5_tick l) rfl (run_X5_tick rg v ) (Nat.le_of_ble_eq_true rfl) rfl rfl
  next => cases h
def F_X5_tick : pF := fz (faN G_X5_tick)
theorem ok_F_X5_tick (l : Launch) : pFOK l yX5_tick (pWs yX5_tick cX5_tick 2 ((some FieldType.boolean))) rm_X5_tick F_X5_tick := pFOK_fz (pFOK_fa (fun a b c d rg h => ct_X5_tick l a b c d rg h))
theorem rc_F_X5_tick : pRcv 5 F_X5_tick := pRcv_fz (pRcv_fa (fun a b c d h => by
  unfold G_X5_tick at h
  split at h
  next =>
    obtain ⟨v, rfl, h⟩ := unL_some h
    exact ⟨_, _, _, rfl, rfl⟩
  next => cases h))
theorem cl_X5_tick (v : pLV)  (rg : pRg) : F_X5_tick [.ref 0] (loopCells 0 v) rg = some (some (.int (tickZ (NL v))), loopCells 0 (tickV (NL v)), rg) := (fz_eq _ _ _ _).trans rfl
def Fb_X5_tick : pF := frN G_X5_tick
theorem ok_Fb_X5_tick (l : Launch) : pFOK l yX5_tick (pWs yX5_tick cX5_tick 2 ((some FieldType.boolean))) rm_X5_tick Fb_X5_tick := pFOK_fr (fun a b c d h => ct_X5_tick l a b c d rg00 h) (fun a b c d h => by
  unfold G_X5_tick at h
  split at h
  next =>
    obtain ⟨v, rfl, h⟩ := unL_some h
    exact Nat.le_of_ble_eq_true rfl
  next => cases h)
theorem rc_Fb_X5_tick : pRcv 5 Fb_X5_tick := pRcv_fr (fun a b c d h => by
  unfold G_X5_tick at h
  split at h
  next =>
    obtain ⟨v, rfl, h⟩ := unL_some h
    exact Nat.le_of_ble_eq_true rfl
  next => cases h) (fun a b c d h => by
  unfold G_X5_tick at h
  split at h
  next =>
    obtain ⟨v, rfl, h⟩ := unL_some h
    exact ⟨_, _, _, rfl, rfl⟩
  next => cases h)
end
