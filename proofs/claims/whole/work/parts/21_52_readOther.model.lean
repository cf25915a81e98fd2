noncomputable section
def rdOK (m : pLV) : Prop := (0 ≤ m 0 13 ∧ m 0 13 ≤ 20) ∧ (¬ m 0 17 = 0 → m 0 13 ≤ 19)
def roT (m : pLV) (k t : Int32) : pLV := if m 0 17 = 0 then (if kdI t = -9 then (if t = 32 then m else faM (NM m) 1 k) else if m 0 13 = 20 then faM (NM m) 4 k else vS (vA m 5 (upd (m 5) (3 * m 0 13 + 1).toNatClampNeg (kdI t))) 17 1)
  else if m 0 17 = 2 then (if t = 58 then vS (vA m 5 (upd (m 5) (3 * m 0 13).toNatClampNeg (m 0 20))) 17 3 else faM (NM m) 1 k)
  else if m 0 17 = 4 then (if t = 32 then eeM (NM m) else faM (NM m) 1 k) else faM (NM m) 1 k
def roW (m : pLV) (k : Int32) : pLV := if iwR m = 0 then faM (NM m) 2 (m 0 19) else roT m k (m 4 k.toNatClampNeg)
def roM (m : pLV) (k : Int32) : pLV := if m 0 17 = 2 then roW m k else if m 0 17 = 4 then roW m k else roT m k (m 4 k.toNatClampNeg)
theorem r20_19 {r : Int32} (h : r ≤ 20) (h0 : 0 ≤ r) (hn : ¬ r = 20) : r ≤ 19 := by
  have e := nI_ofN h0
  have h2 := clamp_b 20 (n := 20) rfl h
  have h3 : r.toNatClampNeg ≠ 20 := fun q => hn (by rw [q] at e; exact e)
  rw [e]
  exact nI_le (a := r.toNatClampNeg) (b := 19) (by omega) (by omega)
theorem dX9_readOther_0 : decode cX9_readOther 0 = .ok (.aload_n 0, 1) := by decide +kernel
theorem dX9_readOther_1 : decode cX9_readOther 1 = .ok (.getfield 19, 3) := by decide +kernel
theorem dX9_readOther_4 : decode cX9_readOther 4 = .ok (.iload_n 1, 1) := by decide +kernel
theorem dX9_readOther_5 : decode cX9_readOther 5 = .ok (.iaload, 1) := by decide +kernel
theorem dX9_readOther_6 : decode cX9_readOther 6 = .ok (.istore_n 2, 1) := by decide +kernel
theorem dX9_readOther_7 : decode cX9_readOther 7 = .ok (.aload_n 0, 1) := by decide +kernel
theorem dX9_readOther_8 : decode cX9_readOther 8 = .ok (.getfield 107, 3) := by decide +kernel
theorem dX9_readOther_11 : decode cX9_readOther 11 = .ok (.iconst 2, 1) := by decide +kernel
theorem dX9_readOther_12 : decode cX9_readOther 12 = .ok (.if_icmp .eq 11, 3) := by decide +kernel
theorem dX9_readOther_15 : decode cX9_readOther 15 = .ok (.aload_n 0, 1) := by decide +kernel
theorem dX9_readOther_16 : decode cX9_readOther 16 = .ok (.getfield 107, 3) := by decide +kernel
theorem dX9_readOther_19 : decode cX9_readOther 19 = .ok (.iconst 4, 1) := by decide +kernel
theorem dX9_readOther_20 : decode cX9_readOther 20 = .ok (.if_icmp .ne 11, 3) := by decide +kernel
theorem dX9_readOther_23 : decode cX9_readOther 23 = .ok (.aload_n 0, 1) := by decide +kernel
theorem dX9_readOther_24 : decode cX9_readOther 24 = .ok (.invokevirtual 122, 3) := by decide +kernel
theorem dX9_readOther_27 : decode cX9_readOther 27 = .ok (.ifCond .ne 4, 3) := by decide +kernel
theorem dX9_readOther_30 : decode cX9_readOther 30 = .ok (.return_, 1) := by decide +kernel
theorem dX9_readOther_31 : decode cX9_readOther 31 = .ok (.aload_n 0, 1) := by decide +kernel
theorem dX9_readOther_32 : decode cX9_readOther 32 = .ok (.getfield 107, 3) := by decide +kernel
theorem dX9_readOther_35 : decode cX9_readOther 35 = .ok (.ifCond .ne 55, 3) := by decide +kernel
theorem dX9_readOther_38 : decode cX9_readOther 38 = .ok (.iload_n 2, 1) := by decide +kernel
theorem dX9_readOther_39 : decode cX9_readOther 39 = .ok (.invokestatic 126, 3) := by decide +kernel
theorem dX9_readOther_42 : decode cX9_readOther 42 = .ok (.bipush (-9), 2) := by decide +kernel
theorem dX9_readOther_44 : decode cX9_readOther 44 = .ok (.if_icmp .eq 46, 3) := by decide +kernel
theorem dX9_readOther_47 : decode cX9_readOther 47 = .ok (.aload_n 0, 1) := by decide +kernel
theorem dX9_readOther_48 : decode cX9_readOther 48 = .ok (.getfield 104, 3) := by decide +kernel
theorem dX9_readOther_51 : decode cX9_readOther 51 = .ok (.bipush 20, 2) := by decide +kernel
theorem dX9_readOther_53 : decode cX9_readOther 53 = .ok (.if_icmp .ne 12, 3) := by decide +kernel
theorem dX9_readOther_56 : decode cX9_readOther 56 = .ok (.aload_n 0, 1) := by decide +kernel
theorem dX9_readOther_57 : decode cX9_readOther 57 = .ok (.iconst 4, 1) := by decide +kernel
theorem dX9_readOther_58 : decode cX9_readOther 58 = .ok (.iload_n 1, 1) := by decide +kernel
theorem dX9_readOther_59 : decode cX9_readOther 59 = .ok (.invokevirtual 116, 3) := by decide +kernel
theorem dX9_readOther_62 : decode cX9_readOther 62 = .ok (.goto 105, 3) := by decide +kernel
theorem dX9_readOther_65 : decode cX9_readOther 65 = .ok (.aload_n 0, 1) := by decide +kernel
theorem dX9_readOther_66 : decode cX9_readOther 66 = .ok (.getfield 29, 3) := by decide +kernel
theorem dX9_readOther_69 : decode cX9_readOther 69 = .ok (.iconst 3, 1) := by decide +kernel
theorem dX9_readOther_70 : decode cX9_readOther 70 = .ok (.aload_n 0, 1) := by decide +kernel
theorem dX9_readOther_71 : decode cX9_readOther 71 = .ok (.getfield 104, 3) := by decide +kernel
theorem dX9_readOther_74 : decode cX9_readOther 74 = .ok (.imul, 1) := by decide +kernel
theorem dX9_readOther_75 : decode cX9_readOther 75 = .ok (.iconst 1, 1) := by decide +kernel
theorem dX9_readOther_76 : decode cX9_readOther 76 = .ok (.iadd, 1) := by decide +kernel
theorem dX9_readOther_77 : decode cX9_readOther 77 = .ok (.iload_n 2, 1) := by decide +kernel
theorem dX9_readOther_78 : decode cX9_readOther 78 = .ok (.invokestatic 126, 3) := by decide +kernel
theorem dX9_readOther_81 : decode cX9_readOther 81 = .ok (.iastore, 1) := by decide +kernel
theorem dX9_readOther_82 : decode cX9_readOther 82 = .ok (.aload_n 0, 1) := by decide +kernel
theorem dX9_readOther_83 : decode cX9_readOther 83 = .ok (.iconst 1, 1) := by decide +kernel
theorem dX9_readOther_84 : decode cX9_readOther 84 = .ok (.putfield 107, 3) := by decide +kernel
theorem dX9_readOther_87 : decode cX9_readOther 87 = .ok (.goto 80, 3) := by decide +kernel
theorem dX9_readOther_90 : decode cX9_readOther 90 = .ok (.aload_n 0, 1) := by decide +kernel
theorem dX9_readOther_91 : decode cX9_readOther 91 = .ok (.getfield 107, 3) := by decide +kernel
theorem dX9_readOther_94 : decode cX9_readOther 94 = .ok (.iconst 2, 1) := by decide +kernel
theorem dX9_readOther_95 : decode cX9_readOther 95 = .ok (.if_icmp .ne 32, 3) := by decide +kernel
theorem dX9_readOther_98 : decode cX9_readOther 98 = .ok (.iload_n 2, 1) := by decide +kernel
theorem dX9_readOther_99 : decode cX9_readOther 99 = .ok (.bipush 58, 2) := by decide +kernel
theorem dX9_readOther_101 : decode cX9_readOther 101 = .ok (.if_icmp .ne 26, 3) := by decide +kernel
theorem dX9_readOther_104 : decode cX9_readOther 104 = .ok (.aload_n 0, 1) := by decide +kernel
theorem dX9_readOther_105 : decode cX9_readOther 105 = .ok (.getfield 29, 3) := by decide +kernel
theorem dX9_readOther_108 : decode cX9_readOther 108 = .ok (.iconst 3, 1) := by decide +kernel
theorem dX9_readOther_109 : decode cX9_readOther 109 = .ok (.aload_n 0, 1) := by decide +kernel
theorem dX9_readOther_110 : decode cX9_readOther 110 = .ok (.getfield 104, 3) := by decide +kernel
theorem dX9_readOther_113 : decode cX9_readOther 113 = .ok (.imul, 1) := by decide +kernel
theorem dX9_readOther_114 : decode cX9_readOther 114 = .ok (.aload_n 0, 1) := by decide +kernel
theorem dX9_readOther_115 : decode cX9_readOther 115 = .ok (.getfield 110, 3) := by decide +kernel
theorem dX9_readOther_118 : decode cX9_readOther 118 = .ok (.iastore, 1) := by decide +kernel
theorem dX9_readOther_119 : decode cX9_readOther 119 = .ok (.aload_n 0, 1) := by decide +kernel
theorem dX9_readOther_120 : decode cX9_readOther 120 = .ok (.iconst 3, 1) := by decide +kernel
theorem dX9_readOther_121 : decode cX9_readOther 121 = .ok (.putfield 107, 3) := by decide +kernel
theorem dX9_readOther_124 : decode cX9_readOther 124 = .ok (.goto 43, 3) := by decide +kernel
theorem dX9_readOther_127 : decode cX9_readOther 127 = .ok (.aload_n 0, 1) := by decide +kernel
theorem dX9_readOther_128 : decode cX9_readOther 128 = .ok (.getfield 107, 3) := by decide +kernel
theorem dX9_readOther_131 : decode cX9_readOther 131 = .ok (.iconst 4, 1) := by decide +kernel
theorem dX9_readOther_132 : decode cX9_readOther 132 = .ok (.if_icmp .ne 16, 3) := by decide +kernel
theorem dX9_readOther_135 : decode cX9_readOther 135 = .ok (.iload_n 2, 1) := by decide +kernel
theorem dX9_readOther_136 : decode cX9_readOther 136 = .ok (.bipush 32, 2) := by decide +kernel
theorem dX9_readOther_138 : decode cX9_readOther 138 = .ok (.if_icmp .ne 10, 3) := by decide +kernel
theorem dX9_readOther_141 : decode cX9_readOther 141 = .ok (.aload_n 0, 1) := by decide +kernel
theorem dX9_readOther_142 : decode cX9_readOther 142 = .ok (.invokevirtual 129, 3) := by decide +kernel
theorem dX9_readOther_145 : decode cX9_readOther 145 = .ok (.goto 22, 3) := by decide +kernel
theorem dX9_readOther_148 : decode cX9_readOther 148 = .ok (.aload_n 0, 1) := by decide +kernel
theorem dX9_readOther_149 : decode cX9_readOther 149 = .ok (.getfield 107, 3) := by decide +kernel
theorem dX9_readOther_152 : decode cX9_readOther 152 = .ok (.ifCond .ne 9, 3) := by decide +kernel
theorem dX9_readOther_155 : decode cX9_readOther 155 = .ok (.iload_n 2, 1) := by decide +kernel
theorem dX9_readOther_156 : decode cX9_readOther 156 = .ok (.bipush 32, 2) := by decide +kernel
theorem dX9_readOther_158 : decode cX9_readOther 158 = .ok (.if_icmp .eq 9, 3) := by decide +kernel
theorem dX9_readOther_161 : decode cX9_readOther 161 = .ok (.aload_n 0, 1) := by decide +kernel
theorem dX9_readOther_162 : decode cX9_readOther 162 = .ok (.iconst 1, 1) := by decide +kernel
theorem dX9_readOther_163 : decode cX9_readOther 163 = .ok (.iload_n 1, 1) := by decide +kernel
theorem dX9_readOther_164 : decode cX9_readOther 164 = .ok (.invokevirtual 116, 3) := by decide +kernel
theorem dX9_readOther_167 : decode cX9_readOther 167 = .ok (.return_, 1) := by decide +kernel
def k_X9_readOther : List pEn := [oAload 0, oGet 9 5, oIload 1, oIald, oIstore 2, oAload 0, oGet 9 17, oConst (2), oCeq 13, oAload 0, oGet 9 17, oConst (4), oCne 17, oAload 0, oCallZ 1 F_X9_isWell, oIfne 17, oVret, oAload 0, oGet 9 17, oIfne 48, oIload 2, oCall 1 F_X9_kindOf, oConst (-9), oCeq 48, oAload 0, oGet 9 13, oConst (20), oCne 33, oAload 0, oConst (4), oIload 1, oCallZ 3 F_X9_fails, oGoto 88, oAload 0, oGet 9 14, oConst (3), oAload 0, oGet 9 13, oMul, oConst (1), oAdd, oIload 2, oCall 1 F_X9_kindOf, oIast, oAload 0, oConst (1), oPut 9 17, oGoto 88, oAload 0, oGet 9 17, oConst (2), oCne 68, oIload 2, oConst (58), oCne 68, oAload 0, oGet 9 14, oConst (3), oAload 0, oGet 9 13, oMul, oAload 0, oGet 9 20, oIast, oAload 0, oConst (3), oPut 9 17, oGoto 88, oAload 0, oGet 9 17, oConst (4), oCne 78, oIload 2, oConst (32), oCne 78, oAload 0, oCallZ 1 F_X9_endEntry, oGoto 88, oAload 0, oGet 9 17, oIfne 84, oIload 2, oConst (32), oCeq 88, oAload 0, oConst (1), oIload 1, oCallZ 3 F_X9_fails, oVret]
def pc_X9_readOther (i : Nat) : Nat := ([0, 1, 4, 5, 6, 7, 8, 11, 12, 15, 16, 19, 20, 23, 24, 27, 30, 31, 32, 35, 38, 39, 42, 44, 47, 48, 51, 53, 56, 57, 58, 59, 62, 65, 66, 69, 70, 71, 74, 75, 76, 77, 78, 81, 82, 83, 84, 87, 90, 91, 94, 95, 98, 99, 101, 104, 105, 108, 109, 110, 113, 114, 115, 118, 119, 120, 121, 124, 127, 128, 131, 132, 135, 136, 138, 141, 142, 145, 148, 149, 152, 155, 156, 158, 161, 162, 163, 164, 167] : List Nat).getD i 0
abbrev rm_X9_readOther : Room := { frames := 2, cells := 0, slots := 0, locals := 44 }
theorem pl_X9_readOther : pPlain yX9_readOther 1 := by decide +kernel
set_option maxRecDepth 100000 in
set_option maxHeartbeats 4000000 in
theorem ok_k_X9_readOther (l : Launch) : ∀ (i : Nat) (en : pEn), k_X9_readOther[i]? = some en → EOK l cX9_readOther yX9_readOther.cls 3 (none) rm_X9_readOther 0 pc_X9_readOther i en := by
  refine allOK_at ?_
  refine And.intro (okAload_n dX9_readOther_0 rfl rfl) ?_
  refine And.intro (okGet (C := RX9) (T := TX9) (N := 22) dX9_readOther_1 rfl rfl (by decide) inX9 wm_3_146) ?_
  refine And.intro (okIload_n dX9_readOther_4 rfl rfl) ?_
  refine And.intro (okIald dX9_readOther_5 rfl) ?_
  refine And.intro (okIstore_n dX9_readOther_6 rfl rfl (by decide)) ?_
  refine And.intro (okAload_n dX9_readOther_7 rfl rfl) ?_
  refine And.intro (okGet (C := RX9) (T := TX9) (N := 22) dX9_readOther_8 rfl rfl (by decide) inX9 wm_3_158) ?_
  refine And.intro (okIconst dX9_readOther_11 rfl (by first | rfl | decide)) ?_
  refine And.intro (okCeq dX9_readOther_12 rfl (by rfl)) ?_
  refine And.intro (okAload_n dX9_readOther_15 rfl rfl) ?_
  refine And.intro (okGet (C := RX9) (T := TX9) (N := 22) dX9_readOther_16 rfl rfl (by decide) inX9 wm_3_158) ?_
  refine And.intro (okIconst dX9_readOther_19 rfl (by first | rfl | decide)) ?_
  refine And.intro (okCne dX9_readOther_20 rfl (by rfl)) ?_
  refine And.intro (okAload_n dX9_readOther_23 rfl rfl) ?_
  refine And.intro (okCallV (y := yX9_isWell) (T := TX9) (oCallZ_is _ _ _) dX9_readOther_24 rfl (ok_F_X9_isWell l) rc_F_X9_isWell rfl wm_4_49 wm_4_51 wp_26 wm_1_10 wm_4_52 pl_X9_isWell (by decide)) ?_
  refine And.intro (okIfne dX9_readOther_27 rfl (by rfl)) ?_
  refine And.intro (okVret dX9_readOther_30 rfl) ?_
  refine And.intro (okAload_n dX9_readOther_31 rfl rfl) ?_
  refine And.intro (okGet (C := RX9) (T := TX9) (N := 22) dX9_readOther_32 rfl rfl (by decide) inX9 wm_3_158) ?_
  refine And.intro (okIfne dX9_readOther_35 rfl (by rfl)) ?_
  refine And.intro (okIload_n dX9_readOther_38 rfl rfl) ?_
  refine And.intro (okCallS (y := yX9_kindOf) (oCall_is _ _ _) dX9_readOther_39 rfl (ok_F_X9_kindOf l) wm_4_53 wm_4_54 wm_1_10 wm_4_55 pl_X9_kindOf (by decide)) ?_
  refine And.intro (okBipush dX9_readOther_42 rfl (by first | rfl | decide)) ?_
  refine And.intro (okCeq dX9_readOther_44 rfl (by rfl)) ?_
  refine And.intro (okAload_n dX9_readOther_47 rfl rfl) ?_
  refine And.intro (okGet (C := RX9) (T := TX9) (N := 22) dX9_readOther_48 rfl rfl (by decide) inX9 wm_3_154) ?_
  refine And.intro (okBipush dX9_readOther_51 rfl (by first | rfl | decide)) ?_
  refine And.intro (okCne dX9_readOther_53 rfl (by rfl)) ?_
  refine And.intro (okAload_n dX9_readOther_56 rfl rfl) ?_
  refine And.intro (okIconst dX9_readOther_57 rfl (by first | rfl | decide)) ?_
  refine And.intro (okIload_n dX9_readOther_58 rfl rfl) ?_
  refine And.intro (okCallV (y := yX9_fails) (T := TX9) (oCallZ_is _ _ _) dX9_readOther_59 rfl (ok_F_X9_fails l) rc_F_X9_fails rfl wm_4_37 wm_4_39 wp_23 wm_1_10 wm_4_40 pl_X9_fails (by decide)) ?_
  refine And.intro (okGoto dX9_readOther_62 (by rfl)) ?_
  refine And.intro (okAload_n dX9_readOther_65 rfl rfl) ?_
  refine And.intro (okGet (C := RX9) (T := TX9) (N := 22) dX9_readOther_66 rfl rfl (by decide) inX9 wm_3_155) ?_
  refine And.intro (okIconst dX9_readOther_69 rfl (by first | rfl | decide)) ?_
  refine And.intro (okAload_n dX9_readOther_70 rfl rfl) ?_
  refine And.intro (okGet (C := RX9) (T := TX9) (N := 22) dX9_readOther_71 rfl rfl (by decide) inX9 wm_3_154) ?_
  refine And.intro (okMul dX9_readOther_74 rfl) ?_
  refine And.intro (okIconst dX9_readOther_75 rfl (by first | rfl | decide)) ?_
  refine And.intro (okAdd dX9_readOther_76 rfl) ?_
  refine And.intro (okIload_n dX9_readOther_77 rfl rfl) ?_
  refine And.intro (okCallS (y := yX9_kindOf) (oCall_is _ _ _) dX9_readOther_78 rfl (ok_F_X9_kindOf l) wm_4_53 wm_4_54 wm_1_10 wm_4_55 pl_X9_kindOf (by decide)) ?_
  refine And.intro (okIast dX9_readOther_81 rfl) ?_
  refine And.intro (okAload_n dX9_readOther_82 rfl rfl) ?_
  refine And.intro (okIconst dX9_readOther_83 rfl (by first | rfl | decide)) ?_
  refine And.intro (okPut (C := RX9) (T := TX9) (N := 22) dX9_readOther_84 rfl rfl (by decide) inX9 tyX9_ok nmX9 rfl rfl wm_3_158) ?_
  refine And.intro (okGoto dX9_readOther_87 (by rfl)) ?_
  refine And.intro (okAload_n dX9_readOther_90 rfl rfl) ?_
  refine And.intro (okGet (C := RX9) (T := TX9) (N := 22) dX9_readOther_91 rfl rfl (by decide) inX9 wm_3_158) ?_
  refine And.intro (okIconst dX9_readOther_94 rfl (by first | rfl | decide)) ?_
  refine And.intro (okCne dX9_readOther_95 rfl (by rfl)) ?_
  refine And.intro (okIload_n dX9_readOther_98 rfl rfl) ?_
  refine And.intro (okBipush dX9_readOther_99 rfl (by first | rfl | decide)) ?_
  refine And.intro (okCne dX9_readOther_101 rfl (by rfl)) ?_
  refine And.intro (okAload_n dX9_readOther_104 rfl rfl) ?_
  refine And.intro (okGet (C := RX9) (T := TX9) (N := 22) dX9_readOther_105 rfl rfl (by decide) inX9 wm_3_155) ?_
  refine And.intro (okIconst dX9_readOther_108 rfl (by first | rfl | decide)) ?_
  refine And.intro (okAload_n dX9_readOther_109 rfl rfl) ?_
  refine And.intro (okGet (C := RX9) (T := TX9) (N := 22) dX9_readOther_110 rfl rfl (by decide) inX9 wm_3_154) ?_
  refine And.intro (okMul dX9_readOther_113 rfl) ?_
  refine And.intro (okAload_n dX9_readOther_114 rfl rfl) ?_
  refine And.intro (okGet (C := RX9) (T := TX9) (N := 22) dX9_readOther_115 rfl rfl (by decide) inX9 wm_3_161) ?_
  refine And.intro (okIast dX9_readOther_118 rfl) ?_
  refine And.intro (okAload_n dX9_readOther_119 rfl rfl) ?_
  refine And.intro (okIconst dX9_readOther_120 rfl (by first | rfl | decide)) ?_
  refine And.intro (okPut (C := RX9) (T := TX9) (N := 22) dX9_readOther_121 rfl rfl (by decide) inX9 tyX9_ok nmX9 rfl rfl wm_3_158) ?_
  refine And.intro (okGoto dX9_readOther_124 (by rfl)) ?_
  refine And.intro (okAload_n dX9_readOther_127 rfl rfl) ?_
  refine And.intro (okGet (C := RX9) (T := TX9) (N := 22) dX9_readOther_128 rfl rfl (by decide) inX9 wm_3_158) ?_
  refine And.intro (okIconst dX9_readOther_131 rfl (by first | rfl | decide)) ?_
  refine And.intro (okCne dX9_readOther_132 rfl (by rfl)) ?_
  refine And.intro (okIload_n dX9_readOther_135 rfl rfl) ?_
  refine And.intro (okBipush dX9_readOther_136 rfl (by first | rfl | decide)) ?_
  refine And.intro (okCne dX9_readOther_138 rfl (by rfl)) ?_
  refine And.intro (okAload_n dX9_readOther_141 rfl rfl) ?_
  refine And.intro (okCallV (y := yX9_endEntry) (T := TX9) (oCallZ_is _ _ _) dX9_readOther_142 rfl (ok_F_X9_endEntry l) rc_F_X9_endEntry rfl wm_4_56 wm_4_58 wp_27 wm_1_10 wm_4_59 pl_X9_endEntry (by decide)) ?_
  refine And.intro (okGoto dX9_readOther_145 (by rfl)) ?_
  refine And.intro (okAload_n dX9_readOther_148 rfl rfl) ?_
  refine And.intro (okGet (C := RX9) (T := TX9) (N := 22) dX9_readOther_149 rfl rfl (by decide) inX9 wm_3_158) ?_
  refine And.intro (okIfne dX9_readOther_152 rfl (by rfl)) ?_
  refine And.intro (okIload_n dX9_readOther_155 rfl rfl) ?_
  refine And.intro (okBipush dX9_readOther_156 rfl (by first | rfl | decide)) ?_
  refine And.intro (okCeq dX9_readOther_158 rfl (by rfl)) ?_
  refine And.intro (okAload_n dX9_readOther_161 rfl rfl) ?_
  refine And.intro (okIconst dX9_readOther_162 rfl (by first | rfl | decide)) ?_
  refine And.intro (okIload_n dX9_readOther_163 rfl rfl) ?_
  refine And.intro (okCallV (y := yX9_fails) (T := TX9) (oCallZ_is _ _ _) dX9_readOther_164 rfl (ok_F_X9_fails l) rc_F_X9_fails rfl wm_4_37 wm_4_39 wp_23 wm_1_10 wm_4_40 pl_X9_fails (by decide)) ?_
  refine And.intro (okVret dX9_readOther_167 rfl) ?_
  exact trivial
def G_X9_readOther : pG := fun args w => match args with
  | [.ref 0, .int k] => unM w (fun m => pif (kOK k ∧ rdOK m) (some (none, mdl (roM m k))) none)
  | _ => none
set_option maxHeartbeats 400000 in
set_option maxRecDepth 100000 in
theorem run_X9_readOther (rg : pRg) (m : pLV) (k : Int32) (hc : kOK k ∧ rdOK m) : ∃ fu, ex k_X9_readOther fu 0 [(0, .ref 0), (1, .int k)] [] (mdl m) rg = some (none, mdl (roM m k), rg) := by
  refine ⟨60, ?_⟩
  conv => lhs; whnf
  refine (pif_f (k_in hc.1)).trans ?_
  conv => lhs; whnf
  refine pif_c (fun h1 => ?_) (fun h1 => ?_)
  · conv => lhs; whnf
    refine (callK_r (cl_X9_isWell m rg ⟨hc.2.1.1, hc.2.2 (fun q => absurd (h1.symm.trans q) (by decide))⟩) (by rfl)).trans ?_
    rw [show iwR (NM m) = iwR m from rfl]
    conv => lhs; whnf
    refine pif_c (fun w1 => ?_) (fun w1 => ?_)
    · rw [show roM m k = _ from if_pos h1, show roW m k = _ from if_pos w1, show iwM (NM m) (iwR m) = _ from if_pos w1] <;> rfl
    · rw [show roM m k = _ from if_pos h1, show roW m k = _ from if_neg w1, show iwM (NM m) (iwR m) = _ from if_neg w1]
      conv => lhs; whnf
      refine (pif_f ((fun q => absurd (h1.symm.trans q) (by decide)))).trans ?_
      conv => lhs; whnf
      refine (pif_t (h1)).trans ?_
      conv => lhs; whnf
      refine pif_c (fun g2 => ?_) (fun g2 => ?_)
      · rw [show roT m k (m 4 k.toNatClampNeg) = _ from (if_neg (fun q => absurd (h1.symm.trans q) (by decide))).trans ((if_pos h1).trans (if_pos g2))]
        conv => lhs; whnf
        refine (pif_f (e3_bz hc.2.1.1 (hc.2.2 (fun q => absurd (h1.symm.trans q) (by decide))))).trans ?_
        rfl
      · conv => lhs; whnf
        refine (pif_f ((fun q => absurd (h1.symm.trans q) (by decide)))).trans ?_
        conv => lhs; whnf
        refine (pif_f ((fun q => absurd (h1.symm.trans q) (by decide)))).trans ?_
        rw [show roT m k (m 4 k.toNatClampNeg) = _ from (if_neg (fun q => absurd (h1.symm.trans q) (by decide))).trans ((if_pos h1).trans (if_neg g2))]
        conv => lhs; whnf
        refine (callK_v (cl_X9_fails m 1 k rg) (by rfl)).trans ?_
        rfl
  · conv => lhs; whnf
    refine pif_c (fun h2 => ?_) (fun h2 => ?_)
    · conv => lhs; whnf
      refine (callK_r (cl_X9_isWell m rg ⟨hc.2.1.1, hc.2.2 (fun q => absurd (h2.symm.trans q) (by decide))⟩) (by rfl)).trans ?_
      rw [show iwR (NM m) = iwR m from rfl]
      conv => lhs; whnf
      refine pif_c (fun w1 => ?_) (fun w1 => ?_)
      · rw [show roM m k = _ from (if_neg h1).trans (if_pos h2), show roW m k = _ from if_pos w1, show iwM (NM m) (iwR m) = _ from if_pos w1] <;> rfl
      · rw [show roM m k = _ from (if_neg h1).trans (if_pos h2), show roW m k = _ from if_neg w1, show iwM (NM m) (iwR m) = _ from if_neg w1]
        conv => lhs; whnf
        refine (pif_f ((fun q => absurd (h2.symm.trans q) (by decide)))).trans ?_
        conv => lhs; whnf
        refine (pif_f (h1)).trans ?_
        conv => lhs; whnf
        refine (pif_t (h2)).trans ?_
        conv => lhs; whnf
        refine pif_c (fun g2 => ?_) (fun g2 => ?_)
        · rw [show roT m k (m 4 k.toNatClampNeg) = _ from (if_neg (fun q => absurd (h2.symm.trans q) (by decide))).trans ((if_neg h1).trans ((if_pos h2).trans (if_pos g2)))]
          conv => lhs; whnf
          refine (callK_v (cl_X9_endEntry m rg ⟨hc.2.1.1, hc.2.2 (fun q => absurd (h2.symm.trans q) (by decide))⟩) (by rfl)).trans ?_
          rfl
        · conv => lhs; whnf
          refine (pif_f ((fun q => absurd (h2.symm.trans q) (by decide)))).trans ?_
          rw [show roT m k (m 4 k.toNatClampNeg) = _ from (if_neg (fun q => absurd (h2.symm.trans q) (by decide))).trans ((if_neg h1).trans ((if_pos h2).trans (if_neg g2)))]
          conv => lhs; whnf
          refine (callK_v (cl_X9_fails m 1 k rg) (by rfl)).trans ?_
          rfl
    · rw [show roM m k = _ from (if_neg h1).trans (if_neg h2)]
      conv => lhs; whnf
      refine pif_c (fun h0 => ?_) (fun h0 => ?_)
      · conv => lhs; whnf
        refine pif_c (fun g1 => ?_) (fun g1 => ?_)
        · conv => lhs; whnf
          refine (pif_f (h1)).trans ?_
          conv => lhs; whnf
          refine (pif_f (h2)).trans ?_
          conv => lhs; whnf
          refine (pif_t (h0)).trans ?_
          conv => lhs; whnf
          refine pif_c (fun g2 => ?_) (fun g2 => ?_)
          · rw [show roT m k (m 4 k.toNatClampNeg) = _ from (if_pos h0).trans ((if_pos g1).trans (if_pos g2))] <;> rfl
          · rw [show roT m k (m 4 k.toNatClampNeg) = _ from (if_pos h0).trans ((if_pos g1).trans (if_neg g2))]
            conv => lhs; whnf
            refine (callK_v (cl_X9_fails m 1 k rg) (by rfl)).trans ?_
            rfl
        · conv => lhs; whnf
          refine pif_c (fun g2 => ?_) (fun g2 => ?_)
          · rw [show roT m k (m 4 k.toNatClampNeg) = _ from (if_pos h0).trans ((if_neg g1).trans (if_pos g2))]
            conv => lhs; whnf
            refine (callK_v (cl_X9_fails m 4 k rg) (by rfl)).trans ?_
            rfl
          · rw [show roT m k (m 4 k.toNatClampNeg) = _ from (if_pos h0).trans ((if_neg g1).trans (if_neg g2))]
            conv => lhs; whnf
            refine (pif_f (e3_b 1 1 rfl (by decide) hc.2.1.1 (r20_19 hc.2.1.2 hc.2.1.1 g2))).trans ?_
            rfl
      · conv => lhs; whnf
        refine (pif_f (h1)).trans ?_
        conv => lhs; whnf
        refine (pif_f (h2)).trans ?_
        conv => lhs; whnf
        refine (pif_f (h0)).trans ?_
        rw [show roT m k (m 4 k.toNatClampNeg) = _ from (if_neg h0).trans ((if_neg h1).trans (if_neg h2))]
        conv => lhs; whnf
        refine (callK_v (cl_X9_fails m 1 k rg) (by rfl)).trans ?_
        rfl
theorem ct_X9_readOther (l : Launch) : ∀ args0 w0 v0 w1 rg, G_X9_readOther args0 w0 = some (v0, w1) → pCT l yX9_readOther (pWs yX9_readOther cX9_readOther 3 (none)) rm_X9_readOther args0 w0 rg (v0, w1, rg) := by
  intro args0 w0 v0 w1 rg h
  unfold G_X9_readOther at h
  split at h
  next k =>
    obtain ⟨m, hw, h2⟩ := unM_some h
    clear h
    subst hw
    by_cases hc : kOK k ∧ rdOK m
    · have h2 := (pif_t hc).symm.trans h2
      cases h2
      exact met_of_exM (by decide) (ok_k_X9_readOther l) rfl (run_X9_readOther rg m k hc) (Nat.le_of_ble_eq_true rfl) rfl rfl
    · have h2 := (pif_f hc).symm.trans h2
      cases h2
  next => cases h
def F_X9_readOther : pF := faN G_X9_readOther
theorem ok_F_X9_readOther (l : Launch) : pFOK l yX9_readOther (pWs yX9_readOther cX9_readOther 3 (none)) rm_X9_readOther F_X9_readOther := pFOK_fa (fun a b c d rg h => ct_X9_readOther l a b c d rg h)
theorem rc_F_X9_readOther : pRcv 9 F_X9_readOther := pRcv_fa (fun a b c d h => by
  unfold G_X9_readOther at h
  split at h
  next =>
    obtain ⟨m, rfl, h⟩ := unM_some h
    exact ⟨_, _, _, rfl, rfl⟩
  next => cases h)
theorem cl_X9_readOther (m : pLV) (k : Int32) (rg : pRg) (hc : kOK k ∧ rdOK (NM m)) : F_X9_readOther [.ref 0, .int k] (mdl m) rg = some (none, mdl (roM (NM m) k), rg) := by
  have h : G_X9_readOther [.ref 0, .int k] (mdl m) = some (none, mdl (roM (NM m) k)) := pif_t hc
  unfold F_X9_readOther faN
  rw [h]
end
