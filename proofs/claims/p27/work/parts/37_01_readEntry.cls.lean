noncomputable section
theorem dX6_readEntry_0 : decode cX6_readEntry 0 = .ok (.aload_n 0, 1) := by decide +kernel
theorem dX6_readEntry_1 : decode cX6_readEntry 1 = .ok (.aload_n 1, 1) := by decide +kernel
theorem dX6_readEntry_2 : decode cX6_readEntry 2 = .ok (.iload_n 2, 1) := by decide +kernel
theorem dX6_readEntry_3 : decode cX6_readEntry 3 = .ok (.invokevirtual 38, 3) := by decide +kernel
theorem dX6_readEntry_6 : decode cX6_readEntry 6 = .ok (.invokestatic 42, 3) := by decide +kernel
theorem dX6_readEntry_9 : decode cX6_readEntry 9 = .ok (.istore_n 3, 1) := by decide +kernel
theorem dX6_readEntry_10 : decode cX6_readEntry 10 = .ok (.iload_n 3, 1) := by decide +kernel
theorem dX6_readEntry_11 : decode cX6_readEntry 11 = .ok (.bipush (-9), 2) := by decide +kernel
theorem dX6_readEntry_13 : decode cX6_readEntry 13 = .ok (.if_icmp .ne 13, 3) := by decide +kernel
theorem dX6_readEntry_16 : decode cX6_readEntry 16 = .ok (.aload_n 0, 1) := by decide +kernel
theorem dX6_readEntry_17 : decode cX6_readEntry 17 = .ok (.iconst 1, 1) := by decide +kernel
theorem dX6_readEntry_18 : decode cX6_readEntry 18 = .ok (.aload_n 0, 1) := by decide +kernel
theorem dX6_readEntry_19 : decode cX6_readEntry 19 = .ok (.getfield 25, 3) := by decide +kernel
theorem dX6_readEntry_22 : decode cX6_readEntry 22 = .ok (.invokevirtual 46, 3) := by decide +kernel
theorem dX6_readEntry_25 : decode cX6_readEntry 25 = .ok (.return_, 1) := by decide +kernel
theorem dX6_readEntry_26 : decode cX6_readEntry 26 = .ok (.aload_n 0, 1) := by decide +kernel
theorem dX6_readEntry_27 : decode cX6_readEntry 27 = .ok (.getfield 12, 3) := by decide +kernel
theorem dX6_readEntry_30 : decode cX6_readEntry 30 = .ok (.getfield 28, 3) := by decide +kernel
theorem dX6_readEntry_33 : decode cX6_readEntry 33 = .ok (.bipush 20, 2) := by decide +kernel
theorem dX6_readEntry_35 : decode cX6_readEntry 35 = .ok (.if_icmp .lt 13, 3) := by decide +kernel
theorem dX6_readEntry_38 : decode cX6_readEntry 38 = .ok (.aload_n 0, 1) := by decide +kernel
theorem dX6_readEntry_39 : decode cX6_readEntry 39 = .ok (.iconst 4, 1) := by decide +kernel
theorem dX6_readEntry_40 : decode cX6_readEntry 40 = .ok (.aload_n 0, 1) := by decide +kernel
theorem dX6_readEntry_41 : decode cX6_readEntry 41 = .ok (.getfield 25, 3) := by decide +kernel
theorem dX6_readEntry_44 : decode cX6_readEntry 44 = .ok (.invokevirtual 46, 3) := by decide +kernel
theorem dX6_readEntry_47 : decode cX6_readEntry 47 = .ok (.return_, 1) := by decide +kernel
theorem dX6_readEntry_48 : decode cX6_readEntry 48 = .ok (.aload_n 0, 1) := by decide +kernel
theorem dX6_readEntry_49 : decode cX6_readEntry 49 = .ok (.dup, 1) := by decide +kernel
theorem dX6_readEntry_50 : decode cX6_readEntry 50 = .ok (.getfield 25, 3) := by decide +kernel
theorem dX6_readEntry_53 : decode cX6_readEntry 53 = .ok (.iconst 1, 1) := by decide +kernel
theorem dX6_readEntry_54 : decode cX6_readEntry 54 = .ok (.iadd, 1) := by decide +kernel
theorem dX6_readEntry_55 : decode cX6_readEntry 55 = .ok (.putfield 25, 3) := by decide +kernel
theorem dX6_readEntry_58 : decode cX6_readEntry 58 = .ok (.aload_n 0, 1) := by decide +kernel
theorem dX6_readEntry_59 : decode cX6_readEntry 59 = .ok (.aload_n 1, 1) := by decide +kernel
theorem dX6_readEntry_60 : decode cX6_readEntry 60 = .ok (.iload_n 2, 1) := by decide +kernel
theorem dX6_readEntry_61 : decode cX6_readEntry 61 = .ok (.iconst 1, 1) := by decide +kernel
theorem dX6_readEntry_62 : decode cX6_readEntry 62 = .ok (.sipush 9999, 3) := by decide +kernel
theorem dX6_readEntry_65 : decode cX6_readEntry 65 = .ok (.invokevirtual 50, 3) := by decide +kernel
theorem dX6_readEntry_68 : decode cX6_readEntry 68 = .ok (.istore 4, 2) := by decide +kernel
theorem dX6_readEntry_70 : decode cX6_readEntry 70 = .ok (.aload_n 0, 1) := by decide +kernel
theorem dX6_readEntry_71 : decode cX6_readEntry 71 = .ok (.getfield 18, 3) := by decide +kernel
theorem dX6_readEntry_74 : decode cX6_readEntry 74 = .ok (.ifCond .ne 19, 3) := by decide +kernel
theorem dX6_readEntry_77 : decode cX6_readEntry 77 = .ok (.aload_n 0, 1) := by decide +kernel
theorem dX6_readEntry_78 : decode cX6_readEntry 78 = .ok (.aload_n 1, 1) := by decide +kernel
theorem dX6_readEntry_79 : decode cX6_readEntry 79 = .ok (.iload_n 2, 1) := by decide +kernel
theorem dX6_readEntry_80 : decode cX6_readEntry 80 = .ok (.invokevirtual 38, 3) := by decide +kernel
theorem dX6_readEntry_83 : decode cX6_readEntry 83 = .ok (.bipush 58, 2) := by decide +kernel
theorem dX6_readEntry_85 : decode cX6_readEntry 85 = .ok (.if_icmp .eq 8, 3) := by decide +kernel
theorem dX6_readEntry_88 : decode cX6_readEntry 88 = .ok (.aload_n 0, 1) := by decide +kernel
theorem dX6_readEntry_89 : decode cX6_readEntry 89 = .ok (.iload_n 2, 1) := by decide +kernel
theorem dX6_readEntry_90 : decode cX6_readEntry 90 = .ok (.invokevirtual 54, 3) := by decide +kernel
theorem dX6_readEntry_93 : decode cX6_readEntry 93 = .ok (.aload_n 0, 1) := by decide +kernel
theorem dX6_readEntry_94 : decode cX6_readEntry 94 = .ok (.getfield 18, 3) := by decide +kernel
theorem dX6_readEntry_97 : decode cX6_readEntry 97 = .ok (.ifCond .eq 4, 3) := by decide +kernel
theorem dX6_readEntry_100 : decode cX6_readEntry 100 = .ok (.return_, 1) := by decide +kernel
theorem dX6_readEntry_101 : decode cX6_readEntry 101 = .ok (.aload_n 0, 1) := by decide +kernel
theorem dX6_readEntry_102 : decode cX6_readEntry 102 = .ok (.dup, 1) := by decide +kernel
theorem dX6_readEntry_103 : decode cX6_readEntry 103 = .ok (.getfield 25, 3) := by decide +kernel
theorem dX6_readEntry_106 : decode cX6_readEntry 106 = .ok (.iconst 1, 1) := by decide +kernel
theorem dX6_readEntry_107 : decode cX6_readEntry 107 = .ok (.iadd, 1) := by decide +kernel
theorem dX6_readEntry_108 : decode cX6_readEntry 108 = .ok (.putfield 25, 3) := by decide +kernel
theorem dX6_readEntry_111 : decode cX6_readEntry 111 = .ok (.aload_n 0, 1) := by decide +kernel
theorem dX6_readEntry_112 : decode cX6_readEntry 112 = .ok (.aload_n 1, 1) := by decide +kernel
theorem dX6_readEntry_113 : decode cX6_readEntry 113 = .ok (.iload_n 2, 1) := by decide +kernel
theorem dX6_readEntry_114 : decode cX6_readEntry 114 = .ok (.iload_n 3, 1) := by decide +kernel
theorem dX6_readEntry_115 : decode cX6_readEntry 115 = .ok (.invokestatic 58, 3) := by decide +kernel
theorem dX6_readEntry_118 : decode cX6_readEntry 118 = .ok (.iload_n 3, 1) := by decide +kernel
theorem dX6_readEntry_119 : decode cX6_readEntry 119 = .ok (.invokestatic 61, 3) := by decide +kernel
theorem dX6_readEntry_122 : decode cX6_readEntry 122 = .ok (.invokevirtual 50, 3) := by decide +kernel
theorem dX6_readEntry_125 : decode cX6_readEntry 125 = .ok (.istore 5, 2) := by decide +kernel
theorem dX6_readEntry_127 : decode cX6_readEntry 127 = .ok (.aload_n 0, 1) := by decide +kernel
theorem dX6_readEntry_128 : decode cX6_readEntry 128 = .ok (.getfield 18, 3) := by decide +kernel
theorem dX6_readEntry_131 : decode cX6_readEntry 131 = .ok (.ifCond .ne 31, 3) := by decide +kernel
theorem dX6_readEntry_134 : decode cX6_readEntry 134 = .ok (.aload_n 0, 1) := by decide +kernel
theorem dX6_readEntry_135 : decode cX6_readEntry 135 = .ok (.getfield 25, 3) := by decide +kernel
theorem dX6_readEntry_138 : decode cX6_readEntry 138 = .ok (.iload_n 2, 1) := by decide +kernel
theorem dX6_readEntry_139 : decode cX6_readEntry 139 = .ok (.if_icmp .ge 23, 3) := by decide +kernel
theorem dX6_readEntry_142 : decode cX6_readEntry 142 = .ok (.aload_n 0, 1) := by decide +kernel
theorem dX6_readEntry_143 : decode cX6_readEntry 143 = .ok (.aload_n 1, 1) := by decide +kernel
theorem dX6_readEntry_144 : decode cX6_readEntry 144 = .ok (.iload_n 2, 1) := by decide +kernel
theorem dX6_readEntry_145 : decode cX6_readEntry 145 = .ok (.invokevirtual 38, 3) := by decide +kernel
theorem dX6_readEntry_148 : decode cX6_readEntry 148 = .ok (.bipush 32, 2) := by decide +kernel
theorem dX6_readEntry_150 : decode cX6_readEntry 150 = .ok (.if_icmp .eq 12, 3) := by decide +kernel
theorem dX6_readEntry_153 : decode cX6_readEntry 153 = .ok (.aload_n 0, 1) := by decide +kernel
theorem dX6_readEntry_154 : decode cX6_readEntry 154 = .ok (.iconst 1, 1) := by decide +kernel
theorem dX6_readEntry_155 : decode cX6_readEntry 155 = .ok (.aload_n 0, 1) := by decide +kernel
theorem dX6_readEntry_156 : decode cX6_readEntry 156 = .ok (.getfield 25, 3) := by decide +kernel
theorem dX6_readEntry_159 : decode cX6_readEntry 159 = .ok (.invokevirtual 46, 3) := by decide +kernel
theorem dX6_readEntry_162 : decode cX6_readEntry 162 = .ok (.aload_n 0, 1) := by decide +kernel
theorem dX6_readEntry_163 : decode cX6_readEntry 163 = .ok (.getfield 18, 3) := by decide +kernel
theorem dX6_readEntry_166 : decode cX6_readEntry 166 = .ok (.ifCond .ne 15, 3) := by decide +kernel
theorem dX6_readEntry_169 : decode cX6_readEntry 169 = .ok (.aload_n 0, 1) := by decide +kernel
theorem dX6_readEntry_170 : decode cX6_readEntry 170 = .ok (.getfield 12, 3) := by decide +kernel
theorem dX6_readEntry_173 : decode cX6_readEntry 173 = .ok (.iload 4, 2) := by decide +kernel
theorem dX6_readEntry_175 : decode cX6_readEntry 175 = .ok (.iload_n 3, 1) := by decide +kernel
theorem dX6_readEntry_176 : decode cX6_readEntry 176 = .ok (.iload 5, 2) := by decide +kernel
theorem dX6_readEntry_178 : decode cX6_readEntry 178 = .ok (.invokevirtual 64, 3) := by decide +kernel
theorem dX6_readEntry_181 : decode cX6_readEntry 181 = .ok (.return_, 1) := by decide +kernel
def k_X6_readEntry : List pEn := [oAload 0, oAload 1, oIload 2, oCallZ 3 F_X6_codeAt, oCall 1 F_X6_kindOf, oIstore 3, oIload 3, oConst (-9), oCne 15, oAload 0, oConst (1), oAload 0, oGet 6 3, oCallZ 3 F_X6_note, oVret, oAload 0, oGet 6 0, oGet 7 3, oConst (20), oClt 26, oAload 0, oConst (4), oAload 0, oGet 6 3, oCallZ 3 F_X6_note, oVret, oAload 0, oDup, oGet 6 3, oConst (1), oAdd, oPut 6 3, oAload 0, oAload 1, oIload 2, oConst (1), oConst (9999), oCallZ 5 F_X6_readNumber, oIstore 4, oAload 0, oGet 6 1, oIfne 51, oAload 0, oAload 1, oIload 2, oCallZ 3 F_X6_codeAt, oConst (58), oCeq 51, oAload 0, oIload 2, oCallZ 2 F_X6_noteWrongByte, oAload 0, oGet 6 1, oIfeq 55, oVret, oAload 0, oDup, oGet 6 3, oConst (1), oAdd, oPut 6 3, oAload 0, oAload 1, oIload 2, oIload 3, oCall 1 F_X6_leastOf, oIload 3, oCall 1 F_X6_mostOf, oCallZ 5 F_X6_readNumber, oIstore 5, oAload 0, oGet 6 1, oIfne 88, oAload 0, oGet 6 3, oIload 2, oCge 88, oAload 0, oAload 1, oIload 2, oCallZ 3 F_X6_codeAt, oConst (32), oCeq 88, oAload 0, oConst (1), oAload 0, oGet 6 3, oCallZ 3 F_X6_note, oAload 0, oGet 6 1, oIfne 97, oAload 0, oGet 6 0, oIload 4, oIload 3, oIload 5, oCall 4 F_X7_insert, oVret]
def pc_X6_readEntry (i : Nat) : Nat := ([0, 1, 2, 3, 6, 9, 10, 11, 13, 16, 17, 18, 19, 22, 25, 26, 27, 30, 33, 35, 38, 39, 40, 41, 44, 47, 48, 49, 50, 53, 54, 55, 58, 59, 60, 61, 62, 65, 68, 70, 71, 74, 77, 78, 79, 80, 83, 85, 88, 89, 90, 93, 94, 97, 100, 101, 102, 103, 106, 107, 108, 111, 112, 113, 114, 115, 118, 119, 122, 125, 127, 128, 131, 134, 135, 138, 139, 142, 143, 144, 145, 148, 150, 153, 154, 155, 156, 159, 162, 163, 166, 169, 170, 173, 175, 176, 178, 181] : List Nat).getD i 0
abbrev rm_X6_readEntry : Room := { frames := 3, cells := 0, slots := 0, locals := 69 }
theorem pl_X6_readEntry : pPlain yX6_readEntry 2 := by decide +kernel
set_option maxRecDepth 100000 in
set_option maxHeartbeats 4000000 in
theorem ok_k_X6_readEntry (l : Launch) : ∀ (i : Nat) (en : pEn), k_X6_readEntry[i]? = some en → EOK l cX6_readEntry yX6_readEntry.cls 6 (none) rm_X6_readEntry 0 pc_X6_readEntry i en := by
  refine allOK_at ?_
  refine And.intro (okAload_n dX6_readEntry_0 rfl rfl) ?_
  refine And.intro (okAload_n dX6_readEntry_1 rfl rfl) ?_
  refine And.intro (okIload_n dX6_readEntry_2 rfl rfl) ?_
  refine And.intro (okCallV (y := yX6_codeAt) (T := TX6) (oCallZ_is _ _ _) dX6_readEntry_3 rfl (ok_F_X6_codeAt l) rc_F_X6_codeAt rfl wm_2_168 wm_2_170 wp_1 wm_1_9 wm_2_171 pl_X6_codeAt (by decide)) ?_
  refine And.intro (okCallS (y := yX6_kindOf) (oCall_is _ _ _) dX6_readEntry_6 rfl (ok_F_X6_kindOf l) wm_2_176 wm_2_177 wm_1_9 wm_2_178 pl_X6_kindOf (by decide)) ?_
  refine And.intro (okIstore_n dX6_readEntry_9 rfl rfl (by decide)) ?_
  refine And.intro (okIload_n dX6_readEntry_10 rfl rfl) ?_
  refine And.intro (okBipush dX6_readEntry_11 rfl (by first | rfl | decide)) ?_
  refine And.intro (okCne dX6_readEntry_13 rfl (by rfl)) ?_
  refine And.intro (okAload_n dX6_readEntry_16 rfl rfl) ?_
  refine And.intro (okIconst dX6_readEntry_17 rfl (by first | rfl | decide)) ?_
  refine And.intro (okAload_n dX6_readEntry_18 rfl rfl) ?_
  refine And.intro (okGet (C := RX6) (T := TX6) (N := 4) dX6_readEntry_19 rfl rfl (by decide) inX6 wm_2_22) ?_
  refine And.intro (okCallV (y := yX6_note) (T := TX6) (oCallZ_is _ _ _) dX6_readEntry_22 rfl (ok_F_X6_note l) rc_F_X6_note rfl wm_2_179 wm_2_181 wp_3 wm_1_9 wm_2_182 pl_X6_note (by decide)) ?_
  refine And.intro (okVret dX6_readEntry_25 rfl) ?_
  refine And.intro (okAload_n dX6_readEntry_26 rfl rfl) ?_
  refine And.intro (okGet (C := RX6) (T := TX6) (N := 4) dX6_readEntry_27 rfl rfl (by decide) inX6 wm_2_16) ?_
  refine And.intro (okGet (C := RX7) (T := TX7) (N := 4) dX6_readEntry_30 rfl rfl (by decide) inX7 wm_1_119) ?_
  refine And.intro (okBipush dX6_readEntry_33 rfl (by first | rfl | decide)) ?_
  refine And.intro (okClt dX6_readEntry_35 rfl (by rfl)) ?_
  refine And.intro (okAload_n dX6_readEntry_38 rfl rfl) ?_
  refine And.intro (okIconst dX6_readEntry_39 rfl (by first | rfl | decide)) ?_
  refine And.intro (okAload_n dX6_readEntry_40 rfl rfl) ?_
  refine And.intro (okGet (C := RX6) (T := TX6) (N := 4) dX6_readEntry_41 rfl rfl (by decide) inX6 wm_2_22) ?_
  refine And.intro (okCallV (y := yX6_note) (T := TX6) (oCallZ_is _ _ _) dX6_readEntry_44 rfl (ok_F_X6_note l) rc_F_X6_note rfl wm_2_179 wm_2_181 wp_3 wm_1_9 wm_2_182 pl_X6_note (by decide)) ?_
  refine And.intro (okVret dX6_readEntry_47 rfl) ?_
  refine And.intro (okAload_n dX6_readEntry_48 rfl rfl) ?_
  refine And.intro (okDup dX6_readEntry_49 rfl) ?_
  refine And.intro (okGet (C := RX6) (T := TX6) (N := 4) dX6_readEntry_50 rfl rfl (by decide) inX6 wm_2_22) ?_
  refine And.intro (okIconst dX6_readEntry_53 rfl (by first | rfl | decide)) ?_
  refine And.intro (okAdd dX6_readEntry_54 rfl) ?_
  refine And.intro (okPut (C := RX6) (T := TX6) (N := 4) dX6_readEntry_55 rfl rfl (by decide) inX6 tyX6_ok nmX6 rfl rfl wm_2_22) ?_
  refine And.intro (okAload_n dX6_readEntry_58 rfl rfl) ?_
  refine And.intro (okAload_n dX6_readEntry_59 rfl rfl) ?_
  refine And.intro (okIload_n dX6_readEntry_60 rfl rfl) ?_
  refine And.intro (okIconst dX6_readEntry_61 rfl (by first | rfl | decide)) ?_
  refine And.intro (okSipush dX6_readEntry_62 rfl (by first | rfl | decide)) ?_
  refine And.intro (okCallV (y := yX6_readNumber) (T := TX6) (oCallZ_is _ _ _) dX6_readEntry_65 rfl (ok_F_X6_readNumber l) rc_F_X6_readNumber rfl wm_2_183 wm_2_185 wp_4 wm_1_9 wm_2_186 pl_X6_readNumber (by decide)) ?_
  refine And.intro (okIstore dX6_readEntry_68 rfl (by decide)) ?_
  refine And.intro (okAload_n dX6_readEntry_70 rfl rfl) ?_
  refine And.intro (okGet (C := RX6) (T := TX6) (N := 4) dX6_readEntry_71 rfl rfl (by decide) inX6 wm_2_18) ?_
  refine And.intro (okIfne dX6_readEntry_74 rfl (by rfl)) ?_
  refine And.intro (okAload_n dX6_readEntry_77 rfl rfl) ?_
  refine And.intro (okAload_n dX6_readEntry_78 rfl rfl) ?_
  refine And.intro (okIload_n dX6_readEntry_79 rfl rfl) ?_
  refine And.intro (okCallV (y := yX6_codeAt) (T := TX6) (oCallZ_is _ _ _) dX6_readEntry_80 rfl (ok_F_X6_codeAt l) rc_F_X6_codeAt rfl wm_2_168 wm_2_170 wp_1 wm_1_9 wm_2_171 pl_X6_codeAt (by decide)) ?_
  refine And.intro (okBipush dX6_readEntry_83 rfl (by first | rfl | decide)) ?_
  refine And.intro (okCeq dX6_readEntry_85 rfl (by rfl)) ?_
  refine And.intro (okAload_n dX6_readEntry_88 rfl rfl) ?_
  refine And.intro (okIload_n dX6_readEntry_89 rfl rfl) ?_
  refine And.intro (okCallV (y := yX6_noteWrongByte) (T := TX6) (oCallZ_is _ _ _) dX6_readEntry_90 rfl (ok_F_X6_noteWrongByte l) rc_F_X6_noteWrongByte rfl wm_2_190 wm_2_192 wp_5 wm_1_9 wm_2_193 pl_X6_noteWrongByte (by decide)) ?_
  refine And.intro (okAload_n dX6_readEntry_93 rfl rfl) ?_
  refine And.intro (okGet (C := RX6) (T := TX6) (N := 4) dX6_readEntry_94 rfl rfl (by decide) inX6 wm_2_18) ?_
  refine And.intro (okIfeq dX6_readEntry_97 rfl (by rfl)) ?_
  refine And.intro (okVret dX6_readEntry_100 rfl) ?_
  refine And.intro (okAload_n dX6_readEntry_101 rfl rfl) ?_
  refine And.intro (okDup dX6_readEntry_102 rfl) ?_
  refine And.intro (okGet (C := RX6) (T := TX6) (N := 4) dX6_readEntry_103 rfl rfl (by decide) inX6 wm_2_22) ?_
  refine And.intro (okIconst dX6_readEntry_106 rfl (by first | rfl | decide)) ?_
  refine And.intro (okAdd dX6_readEntry_107 rfl) ?_
  refine And.intro (okPut (C := RX6) (T := TX6) (N := 4) dX6_readEntry_108 rfl rfl (by decide) inX6 tyX6_ok nmX6 rfl rfl wm_2_22) ?_
  refine And.intro (okAload_n dX6_readEntry_111 rfl rfl) ?_
  refine And.intro (okAload_n dX6_readEntry_112 rfl rfl) ?_
  refine And.intro (okIload_n dX6_readEntry_113 rfl rfl) ?_
  refine And.intro (okIload_n dX6_readEntry_114 rfl rfl) ?_
  refine And.intro (okCallS (y := yX6_leastOf) (oCall_is _ _ _) dX6_readEntry_115 rfl (ok_F_X6_leastOf l) wm_2_194 wm_2_195 wm_1_9 wm_2_196 pl_X6_leastOf (by decide)) ?_
  refine And.intro (okIload_n dX6_readEntry_118 rfl rfl) ?_
  refine And.intro (okCallS (y := yX6_mostOf) (oCall_is _ _ _) dX6_readEntry_119 rfl (ok_F_X6_mostOf l) wm_2_197 wm_2_198 wm_1_9 wm_2_199 pl_X6_mostOf (by decide)) ?_
  refine And.intro (okCallV (y := yX6_readNumber) (T := TX6) (oCallZ_is _ _ _) dX6_readEntry_122 rfl (ok_F_X6_readNumber l) rc_F_X6_readNumber rfl wm_2_183 wm_2_185 wp_4 wm_1_9 wm_2_186 pl_X6_readNumber (by decide)) ?_
  refine And.intro (okIstore dX6_readEntry_125 rfl (by decide)) ?_
  refine And.intro (okAload_n dX6_readEntry_127 rfl rfl) ?_
  refine And.intro (okGet (C := RX6) (T := TX6) (N := 4) dX6_readEntry_128 rfl rfl (by decide) inX6 wm_2_18) ?_
  refine And.intro (okIfne dX6_readEntry_131 rfl (by rfl)) ?_
  refine And.intro (okAload_n dX6_readEntry_134 rfl rfl) ?_
  refine And.intro (okGet (C := RX6) (T := TX6) (N := 4) dX6_readEntry_135 rfl rfl (by decide) inX6 wm_2_22) ?_
  refine And.intro (okIload_n dX6_readEntry_138 rfl rfl) ?_
  refine And.intro (okCge dX6_readEntry_139 rfl (by rfl)) ?_
  refine And.intro (okAload_n dX6_readEntry_142 rfl rfl) ?_
  refine And.intro (okAload_n dX6_readEntry_143 rfl rfl) ?_
  refine And.intro (okIload_n dX6_readEntry_144 rfl rfl) ?_
  refine And.intro (okCallV (y := yX6_codeAt) (T := TX6) (oCallZ_is _ _ _) dX6_readEntry_145 rfl (ok_F_X6_codeAt l) rc_F_X6_codeAt rfl wm_2_168 wm_2_170 wp_1 wm_1_9 wm_2_171 pl_X6_codeAt (by decide)) ?_
  refine And.intro (okBipush dX6_readEntry_148 rfl (by first | rfl | decide)) ?_
  refine And.intro (okCeq dX6_readEntry_150 rfl (by rfl)) ?_
  refine And.intro (okAload_n dX6_readEntry_153 rfl rfl) ?_
  refine And.intro (okIconst dX6_readEntry_154 rfl (by first | rfl | decide)) ?_
  refine And.intro (okAload_n dX6_readEntry_155 rfl rfl) ?_
  refine And.intro (okGet (C := RX6) (T := TX6) (N := 4) dX6_readEntry_156 rfl rfl (by decide) inX6 wm_2_22) ?_
  refine And.intro (okCallV (y := yX6_note) (T := TX6) (oCallZ_is _ _ _) dX6_readEntry_159 rfl (ok_F_X6_note l) rc_F_X6_note rfl wm_2_179 wm_2_181 wp_3 wm_1_9 wm_2_182 pl_X6_note (by decide)) ?_
  refine And.intro (okAload_n dX6_readEntry_162 rfl rfl) ?_
  refine And.intro (okGet (C := RX6) (T := TX6) (N := 4) dX6_readEntry_163 rfl rfl (by decide) inX6 wm_2_18) ?_
  refine And.intro (okIfne dX6_readEntry_166 rfl (by rfl)) ?_
  refine And.intro (okAload_n dX6_readEntry_169 rfl rfl) ?_
  refine And.intro (okGet (C := RX6) (T := TX6) (N := 4) dX6_readEntry_170 rfl rfl (by decide) inX6 wm_2_16) ?_
  refine And.intro (okIload dX6_readEntry_173 rfl) ?_
  refine And.intro (okIload_n dX6_readEntry_175 rfl rfl) ?_
  refine And.intro (okIload dX6_readEntry_176 rfl) ?_
  refine And.intro (okCallV (y := yX7_insert) (T := TX7) (oCall_is _ _ _) dX6_readEntry_178 rfl (ok_F_X7_insert l) rc_F_X7_insert rfl wm_2_200 wm_2_201 wm_2_202 wm_1_6 wm_2_203 pl_X7_insert (by decide)) ?_
  refine And.intro (okVret dX6_readEntry_181 rfl) ?_
  exact trivial
theorem qNw_2 (r : pLV) (L : Int32) : qNw r L 0 2 = r 0 2 := by
  unfold qNw
  split <;> rfl
theorem qRt_2 (r : pLV) (L p v lo hi : Int32) : qRt r L p v lo hi 0 2 = r 0 2 := by
  unfold qRt
  split
  · exact qNw_2 (NQ r) L
  · split
    · split
      · rfl
      · split <;> rfl
    · exact qNw_2 (NQ r) L
theorem qRn_2 {r : pLV} {a n : Nat} (ha : r 0 2 = nI a) (h1 : a ≤ n) (h2 : n ≤ 120) (lo hi : Int32) : qRn r (nI n) lo hi 0 2 = nI (dgA (r 4) n 4 a) := by
  unfold qRn
  rw [qRt_2, ha, nI_clamp (by omega), nI_clamp (by omega)]
  rfl
def qAd (r : pLV) : pLV := vS r 2 (r 0 2 + 1)
def qE2 (r : pLV) (L : Int32) : pLV := if r 0 0 = 0 then (if qCd r L = 58 then r else qNw (NQ r) L) else r
def qE5 (r : pLV) (L : Int32) : pLV := if r 0 0 = 0 then (if L ≤ r 0 2 then r else if qCd r L = 32 then r else qNt r 1 (r 0 2)) else r
def qIn (r : pLV) (t k x : Int32) : pLV := vA (vA (vA (vS r 3 (isN (r 0 3))) 1 (isF (r 0 3) t (r 1) (r 1) t)) 2 (isF (r 0 3) t (r 1) (r 2) k)) 3 (isF (r 0 3) t (r 1) (r 3) x)
def qE6 (r : pLV) (t k x : Int32) : pLV := if r 0 0 = 0 then qIn r t k x else r
/-- from the second number on -/
def qEb (r : pLV) (L t k : Int32) : pLV := if r 0 0 = 0 then qE6 (qE5 (qRn (NQ (qAd r)) L (lsI k) (msI k)) L) t k (qRv (NQ (qAd r)) L) else r
def qEa (r : pLV) (L k : Int32) : pLV := qEb (qE2 (qRn (NQ (qAd r)) L 1 9999) L) L (qRv (NQ (qAd r)) L) k
def qRe (r : pLV) (L : Int32) : pLV := if rkI (qCd r L) = -9 then qNt r 1 (r 0 2) else if r 0 3 < 20 then qEa r L (rkI (qCd r L)) else qNt r 4 (r 0 2)
theorem qE2_2 (r : pLV) (L : Int32) : qE2 r L 0 2 = r 0 2 := by
  unfold qE2
  split
  · split
    · rfl
    · exact qNw_2 (NQ r) L
  · rfl
theorem qE5_2 (r : pLV) (L : Int32) : qE5 r L 0 2 = r 0 2 := by
  unfold qE5
  repeat' split
  all_goals rfl
theorem qE6_2 (r : pLV) (t k x : Int32) : qE6 r t k x 0 2 = r 0 2 := by
  unfold qE6
  split <;> rfl
theorem rk9 : rkI (-9) = -9 := by decide
theorem qAd_2 {r : pLV} {a : Nat} (ha : r 0 2 = nI a) : qAd r 0 2 = nI (a + 1) := by
  show r 0 2 + 1 = _
  rw [ha, nI_1]
/-- the place of ':' isn't the end -/
theorem qE2_lt {r : pLV} {a n : Nat} (ha : r 0 2 = nI a) (h2 : n ≤ 120) (h1 : a ≤ n) (h : qE2 r (nI n) 0 0 = 0) : a < n := by
  rcases Nat.lt_or_ge a n with z | z
  · exact z
  · exfalso
    have hc := qCd_end (r := r) (a := a) (n := n) ha z (by omega)
    by_cases h0 : r 0 0 = 0
    · rw [show qE2 r (nI n) = _ from (if_pos h0).trans (if_neg (by rw [hc]; decide))] at h
      have hle : nI n ≤ NQ r 0 2 := by show nI n ≤ r 0 2; rw [ha]; exact nI_le z (by omega)
      rw [show qNw (NQ r) (nI n) = _ from if_pos hle] at h
      exact absurd h (show ¬ (3 : Int32) = 0 by decide)
    · rw [show qE2 r (nI n) = r from if_neg h0] at h
      exact h0 h
theorem qEb_ok {r : pLV} {a n : Nat} (ha : r 0 2 = nI a) (h1 : a ≤ n) (h2 : n ≤ 120) (t k : Int32) (h : r 0 0 = 0 → a < n) : ∃ b, qEb r (nI n) t k 0 2 = nI b ∧ b ≤ n := by
  unfold qEb
  split
  · rename_i h0
    have hb := dgA_b (NQ (qAd r) 4) n 4 (a + 1) (h h0)
    refine ⟨dgA (NQ (qAd r) 4) n 4 (a + 1), ?_, hb.2.1⟩
    rw [qE6_2, qE5_2]
    exact qRn_2 (r := NQ (qAd r)) (qAd_2 ha) (h h0) h2 _ _
  · exact ⟨a, ha, h1⟩
theorem qRe_ok {r : pLV} {L : Int32} (hc : qOK r L) : qOK (qRe r L) L := by
  obtain ⟨a, n, ha, rfl, han, hn⟩ := hc
  unfold qRe
  split
  · exact ⟨a, n, ha, rfl, han, hn⟩
  · rename_i h9
    split
    · have hlt : a < n := qCd_lt ha hn han (fun z => h9 (by rw [z]; exact rk9))
      have hA := qAd_2 (r := r) ha
      have hb := dgA_b (NQ (qAd r) 4) n 4 (a + 1) hlt
      have e1 : qRn (NQ (qAd r)) (nI n) 1 9999 0 2 = nI (dgA (NQ (qAd r) 4) n 4 (a + 1)) := qRn_2 (r := NQ (qAd r)) hA hlt hn _ _
      have e2 : qE2 (qRn (NQ (qAd r)) (nI n) 1 9999) (nI n) 0 2 = nI (dgA (NQ (qAd r) 4) n 4 (a + 1)) := (qE2_2 _ _).trans e1
      obtain ⟨b, hb1, hb2⟩ := qEb_ok (r := qE2 (qRn (NQ (qAd r)) (nI n) 1 9999) (nI n)) e2 hb.2.1 hn (qRv (NQ (qAd r)) (nI n)) (rkI (qCd r (nI n))) (fun h0 => qE2_lt e1 hn hb.2.1 h0)
      exact ⟨b, n, hb1, rfl, hb2, hn⟩
    · exact ⟨a, n, ha, rfl, han, hn⟩
set_option maxHeartbeats 1000000 in
set_option maxRecDepth 100000 in
theorem lp_e6 (rg : pRg) (r : pLV) (L t k y : Int32) : ex k_X6_readEntry 3 88 [(5, .int y), (4, .int t), (3, .int k), (0, .ref 0), (1, .ref 5), (2, .int L)] [] (qW r) rg = some (none, qW (qE6 r t k y), rg) := by
  conv => lhs; whnf
  refine pif_c (fun h0 => ?_) (fun h0 => ?_)
  · rw [show qE6 r t k y = _ from if_pos h0]
    rfl
  · rw [show qE6 r t k y = _ from if_neg h0]
    rfl
set_option maxHeartbeats 1000000 in
set_option maxRecDepth 100000 in
theorem lp_e5 (rg : pRg) (r : pLV) (L t k y : Int32) : ex k_X6_readEntry 4 70 [(5, .int y), (4, .int t), (3, .int k), (0, .ref 0), (1, .ref 5), (2, .int L)] [] (qW r) rg = some (none, qW (qE6 (qE5 r L) t k y), rg) := by
  have h6 := fun r => lp_e6 rg r L t k y
  conv => lhs; whnf
  refine pif_c (fun h0 => ?_) (fun h0 => ?_)
  · conv => lhs; whnf
    refine pif_c (fun h1 => ?_) (fun h1 => ?_)
    · rw [show qE5 r L = _ from (if_pos h0).trans (if_pos h1)]
      exact h6 r
    · conv => lhs; whnf
      refine (callK_r (cl_X6_codeAt r L rg) (by rfl)).trans ?_
      rw [show qCd (NQ r) L = qCd r L from rfl]
      conv => lhs; whnf
      refine pif_c (fun h2 => ?_) (fun h2 => ?_)
      · rw [show qE5 r L = _ from (if_pos h0).trans ((if_neg h1).trans (if_pos h2))]
        exact h6 r
      · rw [show qE5 r L = _ from (if_pos h0).trans ((if_neg h1).trans (if_neg h2))]
        have h7 := h6 (qNt r 1 (r 0 2))
        conv => lhs; whnf
        refine (callK_v (cl_X6_note r 1 (r 0 2) rg) (by rfl)).trans ?_
        conv at h7 => lhs; whnf
        conv => lhs; whnf
        exact h7
  · rw [show qE5 r L = _ from if_neg h0]
    exact h6 r
set_option maxHeartbeats 1000000 in
set_option maxRecDepth 100000 in
theorem lp_eb (rg : pRg) (r : pLV) (L t k : Int32) (hA : r 0 0 = 0 → qOK (qAd r) L) : ex k_X6_readEntry 5 51 [(4, .int t), (3, .int k), (0, .ref 0), (1, .ref 5), (2, .int L)] [] (qW r) rg = some (none, qW (qEb r L t k), rg) := by
  have h6 := fun r y => lp_e5 rg r L t k y
  conv => lhs; whnf
  refine pif_c (fun h0 => ?_) (fun h0 => ?_)
  · rw [show qEb r L t k = _ from if_pos h0]
    have h7 := h6 (qRn (NQ (qAd r)) L (lsI k) (msI k)) (qRv (NQ (qAd r)) L)
    conv => lhs; whnf
    refine (callK_r (cl_X6_readNumber (qAd r) L (lsI k) (msI k) rg (hA h0)) (by rfl)).trans ?_
    conv at h7 => lhs; whnf
    conv => lhs; whnf
    exact h7
  · rw [show qEb r L t k = _ from if_neg h0]
    rfl
set_option maxHeartbeats 1000000 in
set_option maxRecDepth 100000 in
theorem lp_e2 (rg : pRg) (r : pLV) (L t k : Int32) (hA : qE2 r L 0 0 = 0 → qOK (qAd (qE2 r L)) L) : ex k_X6_readEntry 6 39 [(4, .int t), (3, .int k), (0, .ref 0), (1, .ref 5), (2, .int L)] [] (qW r) rg = some (none, qW (qEb (qE2 r L) L t k), rg) := by
  have h6 := lp_eb rg (qE2 r L) L t k hA
  clear hA
  conv => lhs; whnf
  refine pif_c (fun h0 => ?_) (fun h0 => ?_)
  · conv => lhs; whnf
    refine (callK_r (cl_X6_codeAt r L rg) (by rfl)).trans ?_
    rw [show qCd (NQ r) L = qCd r L from rfl]
    conv => lhs; whnf
    refine pif_c (fun h1 => ?_) (fun h1 => ?_)
    · rw [show qE2 r L = r from (if_pos h0).trans (if_pos h1)] at h6 ⊢
      exact h6
    · conv => lhs; whnf
      refine (callK_v (cl_X6_noteWrongByte r L rg) (by rfl)).trans ?_
      rw [show qE2 r L = qNw (NQ r) L from (if_pos h0).trans (if_neg h1)] at h6 ⊢
      conv at h6 => lhs; whnf
      conv => lhs; whnf
      exact h6
  · rw [show qE2 r L = r from if_neg h0] at h6 ⊢
    exact h6
def G_X6_readEntry : pG := fun args w => match args with
  | [.ref 0, .ref 5, .int L] => unQ w (fun r => pif (qOK r L) (some (none, qW (qRe r L))) none)
  | _ => none
set_option maxHeartbeats 1000000 in
set_option maxRecDepth 100000 in
theorem run_X6_readEntry (rg : pRg) (r : pLV) (L : Int32) (hc : qOK r L) : ∃ fu, ex k_X6_readEntry fu 0 [(0, .ref 0), (1, .ref 5), (2, .int L)] [] (qW r) rg = some (none, qW (qRe r L), rg) := by
  refine ⟨8, ?_⟩
  have hc0 := hc
  obtain ⟨a, n, ha, rfl, han, hn⟩ := hc
  conv => lhs; whnf
  refine (callK_r (cl_X6_codeAt r (nI n) rg) (by rfl)).trans ?_
  rw [show qCd (NQ r) (nI n) = qCd r (nI n) from rfl]
  conv => lhs; whnf
  refine pif_c (fun h9 => ?_) (fun h9 => ?_)
  · rw [show qRe r (nI n) = _ from if_pos h9]
    conv => lhs; whnf
    refine (callK_v (cl_X6_note r 1 (r 0 2) rg) (by rfl)).trans ?_
    rfl
  · conv => lhs; whnf
    refine pif_c (fun h20 => ?_) (fun h20 => ?_)
    · rw [show qRe r (nI n) = _ from (if_neg h9).trans (if_pos h20)]
      have hlt : a < n := qCd_lt ha hn han (fun z => h9 (by rw [z]; exact rk9))
      have hA := qAd_2 (r := r) ha
      have hb := dgA_b (NQ (qAd r) 4) n 4 (a + 1) hlt
      have e1 : qRn (NQ (qAd r)) (nI n) 1 9999 0 2 = nI (dgA (NQ (qAd r) 4) n 4 (a + 1)) := qRn_2 (r := NQ (qAd r)) hA hlt hn _ _
      have h7 := lp_e2 rg (qRn (NQ (qAd r)) (nI n) 1 9999) (nI n) (qRv (NQ (qAd r)) (nI n)) (rkI (qCd r (nI n))) (fun h0 => by
        have hl := qE2_lt e1 hn hb.2.1 h0
        exact ⟨_, n, qAd_2 ((qE2_2 _ _).trans e1), rfl, hl, hn⟩)
      unfold qEa
      conv => lhs; whnf
      refine (callK_r (cl_X6_readNumber (qAd r) (nI n) 1 9999 rg ⟨a + 1, n, hA, rfl, hlt, hn⟩) (by rfl)).trans ?_
      conv at h7 => lhs; whnf
      conv => lhs; whnf
      exact h7
    · rw [show qRe r (nI n) = _ from (if_neg h9).trans (if_neg h20)]
      conv => lhs; whnf
      refine (callK_v (cl_X6_note r 4 (r 0 2) rg) (by rfl)).trans ?_
      rfl
theorem ct_X6_readEntry (l : Launch) : ∀ args0 w0 v0 w1 rg, G_X6_readEntry args0 w0 = some (v0, w1) → pCT l yX6_readEntry (pWs yX6_readEntry cX6_readEntry 6 (none)) rm_X6_readEntry args0 w0 rg (v0, w1, rg) := by
  intro args0 w0 v0 w1 rg h
  unfold G_X6_readEntry at h
  split at h
  next L =>
    obtain ⟨r, hw, h2⟩ := unQ_some h
    clear h
    subst hw
    by_cases hc : qOK r L
    · have h2 := (pif_t hc).symm.trans h2
      cases h2
      exact met_of_exQ (by decide) (ok_k_X6_readEntry l) rfl (run_X6_readEntry rg r L hc) (Nat.le_of_ble_eq_true rfl) rfl rfl
    · have h2 := (pif_f hc).symm.trans h2
      cases h2
  next => cases h
def F_X6_readEntry : pF := faN G_X6_readEntry
theorem ok_F_X6_readEntry (l : Launch) : pFOK l yX6_readEntry (pWs yX6_readEntry cX6_readEntry 6 (none)) rm_X6_readEntry F_X6_readEntry := pFOK_fa (fun a b c d rg h => ct_X6_readEntry l a b c d rg h)
theorem rc_F_X6_readEntry : pRcv 6 F_X6_readEntry := pRcv_fa (fun a b c d h => by
  unfold G_X6_readEntry at h
  split at h
  next =>
    obtain ⟨m, rfl, h⟩ := unQ_some h
    exact ⟨_, _, _, rfl, rfl⟩
  next => cases h)
theorem cl_X6_readEntry (r : pLV) (L : Int32) (rg : pRg) (hc : qOK (NQ r) L) : F_X6_readEntry [.ref 0, .ref 5, .int L] (qW r) rg = some (none, qW (qRe (NQ r) L), rg) := by
  have h : G_X6_readEntry [.ref 0, .ref 5, .int L] (qW r) = some (none, qW (qRe (NQ r) L)) := pif_t hc
  unfold F_X6_readEntry faN
  rw [h]
end
