noncomputable section
/-! THE LAW'S PLAN -/
def lpK (a : Int32) (k : Nat) : Int32 := lowI (a >>> ((3 + 2 * nI k) &&& 31)) 3
def lpT (b : Int32) (k : Nat) : Int32 := 1 + lowI (b >>> ((2 * nI k) &&& 31)) 150
def lpN (a b : Int32) (k : Nat) : Int32 := if lpK a k = 0 then 1 + lowI (b >>> (nI k &&& 31)) 30 else if lpK a k = 1 then lowI (b >>> (nI k &&& 31)) 4 else lowI (b >>> (nI k &&& 31)) 900
def lpL (a : Int32) (k : Nat) : Int32 := if lpK a k = 0 then 98 else if lpK a k = 1 then 103 else 102
def lpM (x : pLV) (a b : Int32) (k : Nat) : pLV := ldX (NX (wrX (NX (ldX (NX (wrX (NX x) (lpL a k))) (lpT b k))) 58)) (lpN a b k)
def lpS (x : pLV) (n a b : Int32) (k : Nat) : pLV := if n ≤ nI k + 1 then lpM x a b k else wrX (NX (lpM x a b k)) 32
def lpI (x : pLV) (n a b : Int32) : Nat → pLV
  | 0 => x
  | k + 1 => lpS (lpI x n a b k) n a b k
def lpX (x : pLV) (a b : Int32) : pLV := lpI (vS x 0 0) (lowI a 7) a b (lowI a 7).toNatClampNeg
def TXo (x : pLV) : Prop := ∃ n : Nat, x 0 0 = nI n ∧ n ≤ 120
theorem TXo.nx {x : pLV} (h : TXo x) : TXo (NX x) := h
theorem wr_ok {x : pLV} (c : Int32) (h : TXo x) : TXo (wrX x c) := by
  obtain ⟨n, h1, h2⟩ := h
  by_cases hb : cwrite_B x zL c = 0
  · have e : wrX x c = vS (vA x 1 (upd (x 1) (x 0 0).toNatClampNeg c)) 0 (x 0 0 + 1) := if_pos hb
    have hn : ¬ 120 ≤ x 0 0 := by
      intro q
      unfold cwrite_B at hb
      by_cases q1 : c < 32
      · rw [if_pos q1] at hb; exact absurd hb (by decide)
      rw [if_neg q1] at hb
      by_cases q2 : 126 < c
      · rw [if_pos q2] at hb; exact absurd hb (by decide)
      rw [if_neg q2] at hb
      by_cases q3 : x 0 0 < 0
      · rw [if_pos q3] at hb; exact absurd hb (by decide)
      rw [if_neg q3, if_pos q] at hb
      exact absurd hb (by decide)
    have hlt : n < 120 := by
      rcases Nat.lt_or_ge n 120 with z | z
      · exact z
      · exfalso
        have : n = 120 := by omega
        rw [h1, this] at hn
        exact hn (by decide)
    refine ⟨n + 1, ?_, by omega⟩
    rw [e]
    show x 0 0 + 1 = _
    rw [h1, nI_1]
  · have e : wrX x c = x := if_neg hb
    rw [e]
    exact ⟨n, h1, h2⟩
theorem ldA_ok {x : pLV} (n b : Int32) (h : TXo x) : TXo (ldA x n b) := by
  unfold ldA
  split
  · exact h
  · exact wr_ok _ h.nx
theorem ld_ok {x : pLV} (n : Int32) (h : TXo x) : TXo (ldX x n) := wr_ok _ (ldA_ok n _ (ldA_ok n _ h)).nx
theorem lpS_ok {x : pLV} (n a b : Int32) (k : Nat) (h : TXo x) : TXo (lpS x n a b k) := by
  have h2 : TXo (lpM x a b k) := ld_ok _ (wr_ok _ (ld_ok _ (wr_ok _ h.nx).nx).nx).nx
  unfold lpS
  split
  · exact h2
  · exact wr_ok _ h2.nx
theorem lpI_ok {x : pLV} (n a b : Int32) (h : TXo x) : ∀ k, TXo (lpI x n a b k)
  | 0 => h
  | k + 1 => lpS_ok n a b k (lpI_ok n a b h k)
theorem lpX_ok (x : pLV) (a b : Int32) : TXo (lpX x a b) := lpI_ok _ _ _ ⟨0, rfl, by omega⟩ _
theorem dL_plan_0 : decode cL_plan 0 = .ok (.aload_n 0, 1) := by decide +kernel
theorem dL_plan_1 : decode cL_plan 1 = .ok (.invokevirtual 9, 3) := by decide +kernel
theorem dL_plan_4 : decode cL_plan 4 = .ok (.istore_n 3, 1) := by decide +kernel
theorem dL_plan_5 : decode cL_plan 5 = .ok (.iload_n 1, 1) := by decide +kernel
theorem dL_plan_6 : decode cL_plan 6 = .ok (.bipush 7, 2) := by decide +kernel
theorem dL_plan_8 : decode cL_plan 8 = .ok (.invokestatic 15, 3) := by decide +kernel
theorem dL_plan_11 : decode cL_plan 11 = .ok (.istore 4, 2) := by decide +kernel
theorem dL_plan_13 : decode cL_plan 13 = .ok (.iconst 0, 1) := by decide +kernel
theorem dL_plan_14 : decode cL_plan 14 = .ok (.istore 5, 2) := by decide +kernel
theorem dL_plan_16 : decode cL_plan 16 = .ok (.iload 5, 2) := by decide +kernel
theorem dL_plan_18 : decode cL_plan 18 = .ok (.iload 4, 2) := by decide +kernel
theorem dL_plan_20 : decode cL_plan 20 = .ok (.if_icmp .ge 156, 3) := by decide +kernel
theorem dL_plan_23 : decode cL_plan 23 = .ok (.iload_n 1, 1) := by decide +kernel
theorem dL_plan_24 : decode cL_plan 24 = .ok (.iconst 3, 1) := by decide +kernel
theorem dL_plan_25 : decode cL_plan 25 = .ok (.iconst 2, 1) := by decide +kernel
theorem dL_plan_26 : decode cL_plan 26 = .ok (.iload 5, 2) := by decide +kernel
theorem dL_plan_28 : decode cL_plan 28 = .ok (.imul, 1) := by decide +kernel
theorem dL_plan_29 : decode cL_plan 29 = .ok (.iadd, 1) := by decide +kernel
theorem dL_plan_30 : decode cL_plan 30 = .ok (.ishr, 1) := by decide +kernel
theorem dL_plan_31 : decode cL_plan 31 = .ok (.iconst 3, 1) := by decide +kernel
theorem dL_plan_32 : decode cL_plan 32 = .ok (.invokestatic 15, 3) := by decide +kernel
theorem dL_plan_35 : decode cL_plan 35 = .ok (.istore 6, 2) := by decide +kernel
theorem dL_plan_37 : decode cL_plan 37 = .ok (.iconst 1, 1) := by decide +kernel
theorem dL_plan_38 : decode cL_plan 38 = .ok (.iload_n 2, 1) := by decide +kernel
theorem dL_plan_39 : decode cL_plan 39 = .ok (.iconst 2, 1) := by decide +kernel
theorem dL_plan_40 : decode cL_plan 40 = .ok (.iload 5, 2) := by decide +kernel
theorem dL_plan_42 : decode cL_plan 42 = .ok (.imul, 1) := by decide +kernel
theorem dL_plan_43 : decode cL_plan 43 = .ok (.ishr, 1) := by decide +kernel
theorem dL_plan_44 : decode cL_plan 44 = .ok (.sipush 150, 3) := by decide +kernel
theorem dL_plan_47 : decode cL_plan 47 = .ok (.invokestatic 15, 3) := by decide +kernel
theorem dL_plan_50 : decode cL_plan 50 = .ok (.iadd, 1) := by decide +kernel
theorem dL_plan_51 : decode cL_plan 51 = .ok (.istore 7, 2) := by decide +kernel
theorem dL_plan_53 : decode cL_plan 53 = .ok (.iload 6, 2) := by decide +kernel
theorem dL_plan_55 : decode cL_plan 55 = .ok (.ifCond .ne 17, 3) := by decide +kernel
theorem dL_plan_58 : decode cL_plan 58 = .ok (.iconst 1, 1) := by decide +kernel
theorem dL_plan_59 : decode cL_plan 59 = .ok (.iload_n 2, 1) := by decide +kernel
theorem dL_plan_60 : decode cL_plan 60 = .ok (.iload 5, 2) := by decide +kernel
theorem dL_plan_62 : decode cL_plan 62 = .ok (.ishr, 1) := by decide +kernel
theorem dL_plan_63 : decode cL_plan 63 = .ok (.bipush 30, 2) := by decide +kernel
theorem dL_plan_65 : decode cL_plan 65 = .ok (.invokestatic 15, 3) := by decide +kernel
theorem dL_plan_68 : decode cL_plan 68 = .ok (.iadd, 1) := by decide +kernel
theorem dL_plan_69 : decode cL_plan 69 = .ok (.goto 30, 3) := by decide +kernel
theorem dL_plan_72 : decode cL_plan 72 = .ok (.iload 6, 2) := by decide +kernel
theorem dL_plan_74 : decode cL_plan 74 = .ok (.iconst 1, 1) := by decide +kernel
theorem dL_plan_75 : decode cL_plan 75 = .ok (.if_icmp .ne 14, 3) := by decide +kernel
theorem dL_plan_78 : decode cL_plan 78 = .ok (.iload_n 2, 1) := by decide +kernel
theorem dL_plan_79 : decode cL_plan 79 = .ok (.iload 5, 2) := by decide +kernel
theorem dL_plan_81 : decode cL_plan 81 = .ok (.ishr, 1) := by decide +kernel
theorem dL_plan_82 : decode cL_plan 82 = .ok (.iconst 4, 1) := by decide +kernel
theorem dL_plan_83 : decode cL_plan 83 = .ok (.invokestatic 15, 3) := by decide +kernel
theorem dL_plan_86 : decode cL_plan 86 = .ok (.goto 13, 3) := by decide +kernel
theorem dL_plan_89 : decode cL_plan 89 = .ok (.iload_n 2, 1) := by decide +kernel
theorem dL_plan_90 : decode cL_plan 90 = .ok (.iload 5, 2) := by decide +kernel
theorem dL_plan_92 : decode cL_plan 92 = .ok (.ishr, 1) := by decide +kernel
theorem dL_plan_93 : decode cL_plan 93 = .ok (.sipush 900, 3) := by decide +kernel
theorem dL_plan_96 : decode cL_plan 96 = .ok (.invokestatic 15, 3) := by decide +kernel
theorem dL_plan_99 : decode cL_plan 99 = .ok (.istore 8, 2) := by decide +kernel
theorem dL_plan_101 : decode cL_plan 101 = .ok (.aload_n 0, 1) := by decide +kernel
theorem dL_plan_102 : decode cL_plan 102 = .ok (.iload 6, 2) := by decide +kernel
theorem dL_plan_104 : decode cL_plan 104 = .ok (.ifCond .ne 8, 3) := by decide +kernel
theorem dL_plan_107 : decode cL_plan 107 = .ok (.bipush 98, 2) := by decide +kernel
theorem dL_plan_109 : decode cL_plan 109 = .ok (.goto 16, 3) := by decide +kernel
theorem dL_plan_112 : decode cL_plan 112 = .ok (.iload 6, 2) := by decide +kernel
theorem dL_plan_114 : decode cL_plan 114 = .ok (.iconst 1, 1) := by decide +kernel
theorem dL_plan_115 : decode cL_plan 115 = .ok (.if_icmp .ne 8, 3) := by decide +kernel
theorem dL_plan_118 : decode cL_plan 118 = .ok (.bipush 103, 2) := by decide +kernel
theorem dL_plan_120 : decode cL_plan 120 = .ok (.goto 5, 3) := by decide +kernel
theorem dL_plan_123 : decode cL_plan 123 = .ok (.bipush 102, 2) := by decide +kernel
theorem dL_plan_125 : decode cL_plan 125 = .ok (.invokevirtual 21, 3) := by decide +kernel
theorem dL_plan_128 : decode cL_plan 128 = .ok (.istore_n 3, 1) := by decide +kernel
theorem dL_plan_129 : decode cL_plan 129 = .ok (.aload_n 0, 1) := by decide +kernel
theorem dL_plan_130 : decode cL_plan 130 = .ok (.iload 7, 2) := by decide +kernel
theorem dL_plan_132 : decode cL_plan 132 = .ok (.invokestatic 25, 3) := by decide +kernel
theorem dL_plan_135 : decode cL_plan 135 = .ok (.istore_n 3, 1) := by decide +kernel
theorem dL_plan_136 : decode cL_plan 136 = .ok (.aload_n 0, 1) := by decide +kernel
theorem dL_plan_137 : decode cL_plan 137 = .ok (.bipush 58, 2) := by decide +kernel
theorem dL_plan_139 : decode cL_plan 139 = .ok (.invokevirtual 21, 3) := by decide +kernel
theorem dL_plan_142 : decode cL_plan 142 = .ok (.istore_n 3, 1) := by decide +kernel
theorem dL_plan_143 : decode cL_plan 143 = .ok (.aload_n 0, 1) := by decide +kernel
theorem dL_plan_144 : decode cL_plan 144 = .ok (.iload 8, 2) := by decide +kernel
theorem dL_plan_146 : decode cL_plan 146 = .ok (.invokestatic 25, 3) := by decide +kernel
theorem dL_plan_149 : decode cL_plan 149 = .ok (.istore_n 3, 1) := by decide +kernel
theorem dL_plan_150 : decode cL_plan 150 = .ok (.iload 5, 2) := by decide +kernel
theorem dL_plan_152 : decode cL_plan 152 = .ok (.iconst 1, 1) := by decide +kernel
theorem dL_plan_153 : decode cL_plan 153 = .ok (.iadd, 1) := by decide +kernel
theorem dL_plan_154 : decode cL_plan 154 = .ok (.iload 4, 2) := by decide +kernel
theorem dL_plan_156 : decode cL_plan 156 = .ok (.if_icmp .ge 12, 3) := by decide +kernel
theorem dL_plan_159 : decode cL_plan 159 = .ok (.aload_n 0, 1) := by decide +kernel
theorem dL_plan_160 : decode cL_plan 160 = .ok (.bipush 32, 2) := by decide +kernel
theorem dL_plan_162 : decode cL_plan 162 = .ok (.invokevirtual 21, 3) := by decide +kernel
theorem dL_plan_165 : decode cL_plan 165 = .ok (.goto 4, 3) := by decide +kernel
theorem dL_plan_168 : decode cL_plan 168 = .ok (.iload_n 3, 1) := by decide +kernel
theorem dL_plan_169 : decode cL_plan 169 = .ok (.istore_n 3, 1) := by decide +kernel
theorem dL_plan_170 : decode cL_plan 170 = .ok (.iinc 5 1, 3) := by decide +kernel
theorem dL_plan_173 : decode cL_plan 173 = .ok (.goto (-157), 3) := by decide +kernel
theorem dL_plan_176 : decode cL_plan 176 = .ok (.aload_n 0, 1) := by decide +kernel
theorem dL_plan_177 : decode cL_plan 177 = .ok (.invokevirtual 29, 3) := by decide +kernel
theorem dL_plan_180 : decode cL_plan 180 = .ok (.ireturn, 1) := by decide +kernel
def k_L_plan : List pEn := [oAload 0, oCallZ 1 F_X8_wipe, oIstore 3, oIload 1, oConst (7), oCallZ 2 F_L_low, oIstore 4, oConst (0), oIstore 5, oIload 5, oIload 4, oCge 95, oIload 1, oConst (3), oConst (2), oIload 5, oMul, oAdd, oShr, oConst (3), oCallZ 2 F_L_low, oIstore 6, oConst (1), oIload 2, oConst (2), oIload 5, oMul, oShr, oConst (150), oCallZ 2 F_L_low, oAdd, oIstore 7, oIload 6, oIfne 42, oConst (1), oIload 2, oIload 5, oShr, oConst (30), oCallZ 2 F_L_low, oAdd, oGoto 56, oIload 6, oConst (1), oCne 51, oIload 2, oIload 5, oShr, oConst (4), oCallZ 2 F_L_low, oGoto 56, oIload 2, oIload 5, oShr, oConst (900), oCallZ 2 F_L_low, oIstore 8, oAload 0, oIload 6, oIfne 62, oConst (98), oGoto 68, oIload 6, oConst (1), oCne 67, oConst (103), oGoto 68, oConst (102), oCallZ 2 F_X8_write, oIstore 3, oAload 0, oIload 7, oCallZ 2 F_L_digits, oIstore 3, oAload 0, oConst (58), oCallZ 2 F_X8_write, oIstore 3, oAload 0, oIload 8, oCallZ 2 F_L_digits, oIstore 3, oIload 5, oConst (1), oAdd, oIload 4, oCge 91, oAload 0, oConst (32), oCallZ 2 F_X8_write, oGoto 92, oIload 3, oIstore 3, oIinc 5 (1), oGoto 9, oAload 0, oCallZ 1 F_X8_plan, oIret]
def pc_L_plan (i : Nat) : Nat := ([0, 1, 4, 5, 6, 8, 11, 13, 14, 16, 18, 20, 23, 24, 25, 26, 28, 29, 30, 31, 32, 35, 37, 38, 39, 40, 42, 43, 44, 47, 50, 51, 53, 55, 58, 59, 60, 62, 63, 65, 68, 69, 72, 74, 75, 78, 79, 81, 82, 83, 86, 89, 90, 92, 93, 96, 99, 101, 102, 104, 107, 109, 112, 114, 115, 118, 120, 123, 125, 128, 129, 130, 132, 135, 136, 137, 139, 142, 143, 144, 146, 149, 150, 152, 153, 154, 156, 159, 160, 162, 165, 168, 169, 170, 173, 176, 177, 180] : List Nat).getD i 0
abbrev rm_L_plan : Room := { frames := 6, cells := 0, slots := 0, locals := 137 }
theorem pl_L_plan : pPlain yL_plan 3 := by decide +kernel
set_option maxRecDepth 100000 in
set_option maxHeartbeats 4000000 in
theorem ok_k_L_plan (l : Launch) : ∀ (i : Nat) (en : pEn), k_L_plan[i]? = some en → EOK l cL_plan yL_plan.cls 9 ((some FieldType.int)) rm_L_plan 0 pc_L_plan i en := by
  refine allOK_at ?_
  refine And.intro (okAload_n dL_plan_0 rfl rfl) ?_
  refine And.intro (okCallV (y := yX8_wipe) (T := TX8) (oCallZ_is _ _ _) dL_plan_1 rfl (ok_F_X8_wipe l) rc_F_X8_wipe rfl wn_2_170 wm_3_55 wm_3_56 wm_1_1 wm_3_57 pl_X8_wipe (by decide)) ?_
  refine And.intro (okIstore_n dL_plan_4 rfl rfl (by decide)) ?_
  refine And.intro (okIload_n dL_plan_5 rfl rfl) ?_
  refine And.intro (okBipush dL_plan_6 rfl (by first | rfl | decide)) ?_
  refine And.intro (okCallS (y := yL_low) (oCallZ_is _ _ _) dL_plan_8 rfl (ok_F_L_low l) wn_2_66 wn_2_67 wm_1_0 wn_2_68 pl_L_low (by decide)) ?_
  refine And.intro (okIstore dL_plan_11 rfl (by decide)) ?_
  refine And.intro (okIconst dL_plan_13 rfl (by first | rfl | decide)) ?_
  refine And.intro (okIstore dL_plan_14 rfl (by decide)) ?_
  refine And.intro (okIload dL_plan_16 rfl) ?_
  refine And.intro (okIload dL_plan_18 rfl) ?_
  refine And.intro (okCge dL_plan_20 rfl (by rfl)) ?_
  refine And.intro (okIload_n dL_plan_23 rfl rfl) ?_
  refine And.intro (okIconst dL_plan_24 rfl (by first | rfl | decide)) ?_
  refine And.intro (okIconst dL_plan_25 rfl (by first | rfl | decide)) ?_
  refine And.intro (okIload dL_plan_26 rfl) ?_
  refine And.intro (okMul dL_plan_28 rfl) ?_
  refine And.intro (okAdd dL_plan_29 rfl) ?_
  refine And.intro (okShr dL_plan_30 rfl) ?_
  refine And.intro (okIconst dL_plan_31 rfl (by first | rfl | decide)) ?_
  refine And.intro (okCallS (y := yL_low) (oCallZ_is _ _ _) dL_plan_32 rfl (ok_F_L_low l) wn_2_66 wn_2_67 wm_1_0 wn_2_68 pl_L_low (by decide)) ?_
  refine And.intro (okIstore dL_plan_35 rfl (by decide)) ?_
  refine And.intro (okIconst dL_plan_37 rfl (by first | rfl | decide)) ?_
  refine And.intro (okIload_n dL_plan_38 rfl rfl) ?_
  refine And.intro (okIconst dL_plan_39 rfl (by first | rfl | decide)) ?_
  refine And.intro (okIload dL_plan_40 rfl) ?_
  refine And.intro (okMul dL_plan_42 rfl) ?_
  refine And.intro (okShr dL_plan_43 rfl) ?_
  refine And.intro (okSipush dL_plan_44 rfl (by first | rfl | decide)) ?_
  refine And.intro (okCallS (y := yL_low) (oCallZ_is _ _ _) dL_plan_47 rfl (ok_F_L_low l) wn_2_66 wn_2_67 wm_1_0 wn_2_68 pl_L_low (by decide)) ?_
  refine And.intro (okAdd dL_plan_50 rfl) ?_
  refine And.intro (okIstore dL_plan_51 rfl (by decide)) ?_
  refine And.intro (okIload dL_plan_53 rfl) ?_
  refine And.intro (okIfne dL_plan_55 rfl (by rfl)) ?_
  refine And.intro (okIconst dL_plan_58 rfl (by first | rfl | decide)) ?_
  refine And.intro (okIload_n dL_plan_59 rfl rfl) ?_
  refine And.intro (okIload dL_plan_60 rfl) ?_
  refine And.intro (okShr dL_plan_62 rfl) ?_
  refine And.intro (okBipush dL_plan_63 rfl (by first | rfl | decide)) ?_
  refine And.intro (okCallS (y := yL_low) (oCallZ_is _ _ _) dL_plan_65 rfl (ok_F_L_low l) wn_2_66 wn_2_67 wm_1_0 wn_2_68 pl_L_low (by decide)) ?_
  refine And.intro (okAdd dL_plan_68 rfl) ?_
  refine And.intro (okGoto dL_plan_69 (by rfl)) ?_
  refine And.intro (okIload dL_plan_72 rfl) ?_
  refine And.intro (okIconst dL_plan_74 rfl (by first | rfl | decide)) ?_
  refine And.intro (okCne dL_plan_75 rfl (by rfl)) ?_
  refine And.intro (okIload_n dL_plan_78 rfl rfl) ?_
  refine And.intro (okIload dL_plan_79 rfl) ?_
  refine And.intro (okShr dL_plan_81 rfl) ?_
  refine And.intro (okIconst dL_plan_82 rfl (by first | rfl | decide)) ?_
  refine And.intro (okCallS (y := yL_low) (oCallZ_is _ _ _) dL_plan_83 rfl (ok_F_L_low l) wn_2_66 wn_2_67 wm_1_0 wn_2_68 pl_L_low (by decide)) ?_
  refine And.intro (okGoto dL_plan_86 (by rfl)) ?_
  refine And.intro (okIload_n dL_plan_89 rfl rfl) ?_
  refine And.intro (okIload dL_plan_90 rfl) ?_
  refine And.intro (okShr dL_plan_92 rfl) ?_
  refine And.intro (okSipush dL_plan_93 rfl (by first | rfl | decide)) ?_
  refine And.intro (okCallS (y := yL_low) (oCallZ_is _ _ _) dL_plan_96 rfl (ok_F_L_low l) wn_2_66 wn_2_67 wm_1_0 wn_2_68 pl_L_low (by decide)) ?_
  refine And.intro (okIstore dL_plan_99 rfl (by decide)) ?_
  refine And.intro (okAload_n dL_plan_101 rfl rfl) ?_
  refine And.intro (okIload dL_plan_102 rfl) ?_
  refine And.intro (okIfne dL_plan_104 rfl (by rfl)) ?_
  refine And.intro (okBipush dL_plan_107 rfl (by first | rfl | decide)) ?_
  refine And.intro (okGoto dL_plan_109 (by rfl)) ?_
  refine And.intro (okIload dL_plan_112 rfl) ?_
  refine And.intro (okIconst dL_plan_114 rfl (by first | rfl | decide)) ?_
  refine And.intro (okCne dL_plan_115 rfl (by rfl)) ?_
  refine And.intro (okBipush dL_plan_118 rfl (by first | rfl | decide)) ?_
  refine And.intro (okGoto dL_plan_120 (by rfl)) ?_
  refine And.intro (okBipush dL_plan_123 rfl (by first | rfl | decide)) ?_
  refine And.intro (okCallV (y := yX8_write) (T := TX8) (oCallZ_is _ _ _) dL_plan_125 rfl (ok_F_X8_write l) rc_F_X8_write rfl wn_2_174 wm_3_51 wm_3_52 wm_1_1 wm_3_53 pl_X8_write (by decide)) ?_
  refine And.intro (okIstore_n dL_plan_128 rfl rfl (by decide)) ?_
  refine And.intro (okAload_n dL_plan_129 rfl rfl) ?_
  refine And.intro (okIload dL_plan_130 rfl) ?_
  refine And.intro (okCallS (y := yL_digits) (oCallZ_is _ _ _) dL_plan_132 rfl (ok_F_L_digits l) wn_2_178 wn_2_179 wm_1_0 wn_2_180 pl_L_digits (by decide)) ?_
  refine And.intro (okIstore_n dL_plan_135 rfl rfl (by decide)) ?_
  refine And.intro (okAload_n dL_plan_136 rfl rfl) ?_
  refine And.intro (okBipush dL_plan_137 rfl (by first | rfl | decide)) ?_
  refine And.intro (okCallV (y := yX8_write) (T := TX8) (oCallZ_is _ _ _) dL_plan_139 rfl (ok_F_X8_write l) rc_F_X8_write rfl wn_2_174 wm_3_51 wm_3_52 wm_1_1 wm_3_53 pl_X8_write (by decide)) ?_
  refine And.intro (okIstore_n dL_plan_142 rfl rfl (by decide)) ?_
  refine And.intro (okAload_n dL_plan_143 rfl rfl) ?_
  refine And.intro (okIload dL_plan_144 rfl) ?_
  refine And.intro (okCallS (y := yL_digits) (oCallZ_is _ _ _) dL_plan_146 rfl (ok_F_L_digits l) wn_2_178 wn_2_179 wm_1_0 wn_2_180 pl_L_digits (by decide)) ?_
  refine And.intro (okIstore_n dL_plan_149 rfl rfl (by decide)) ?_
  refine And.intro (okIload dL_plan_150 rfl) ?_
  refine And.intro (okIconst dL_plan_152 rfl (by first | rfl | decide)) ?_
  refine And.intro (okAdd dL_plan_153 rfl) ?_
  refine And.intro (okIload dL_plan_154 rfl) ?_
  refine And.intro (okCge dL_plan_156 rfl (by rfl)) ?_
  refine And.intro (okAload_n dL_plan_159 rfl rfl) ?_
  refine And.intro (okBipush dL_plan_160 rfl (by first | rfl | decide)) ?_
  refine And.intro (okCallV (y := yX8_write) (T := TX8) (oCallZ_is _ _ _) dL_plan_162 rfl (ok_F_X8_write l) rc_F_X8_write rfl wn_2_174 wm_3_51 wm_3_52 wm_1_1 wm_3_53 pl_X8_write (by decide)) ?_
  refine And.intro (okGoto dL_plan_165 (by rfl)) ?_
  refine And.intro (okIload_n dL_plan_168 rfl rfl) ?_
  refine And.intro (okIstore_n dL_plan_169 rfl rfl (by decide)) ?_
  refine And.intro (okIinc dL_plan_170 rfl (by first | rfl | decide) (by decide)) ?_
  refine And.intro (okGoto dL_plan_173 (by rfl)) ?_
  refine And.intro (okAload_n dL_plan_176 rfl rfl) ?_
  refine And.intro (okCallV (y := yX8_plan) (T := TX8) (oCallZ_is _ _ _) dL_plan_177 rfl (ok_F_X8_plan l) rc_F_X8_plan rfl wn_2_181 wm_2_157 wm_2_158 wm_1_1 wm_2_159 pl_X8_plan (by decide)) ?_
  refine And.intro (okIret dL_plan_180 rfl) ?_
  exact trivial
def F_L_plan : pF := fun args w rg => match args with
  | [.ref 0, .int a, .int b] => unB w (fun f x v u => pif (bOK f rg) (some (some (.int (plR (NX (lpX (NX x) a b)) (NL v))), cw f (plXX (NX (lpX (NX x) a b))) (plV (NX (lpX (NX x) a b)) (NL v)) (u), (rg.1, plH (NX (lpX (NX x) a b)) (NL v) rg.2))) none)
  | _ => none
set_option maxHeartbeats 800000 in
theorem lp_s010 (rg : pRg) (f : Nat → Option Nat) (x v u : pLV) (n a b l1 : Int32) (k : Nat) (hc : bOK f rg) (hk : k < n.toNatClampNeg) (h0 : lpK a k = 0) (hl : n ≤ nI k + 1) {T : pOut} (H : ∀ ls0, (∃ l1 p q r : Int32, ls0 = [(5, .int (nI (k + 1))), (3, .int l1), (8, .int p), (7, .int q), (6, .int r), (4, .int n), (0, .ref 0), (1, .int a), (2, .int b)]) → ∃ m, ex k_L_plan m 9 ls0 [] (cw f (ldX (NX (wrX (NX (ldX (NX (wrX (NX x) 98)) (lpT b k))) 58)) (1 + lowI (b >>> (nI k &&& 31)) 30)) v u) rg = some T) : ∃ m, ex k_L_plan m 9 [(5, .int (nI k)), (4, .int n), (3, .int l1), (0, .ref 0), (1, .int a), (2, .int b)] [] (cw f x v u) rg = some T := by
  obtain ⟨m, hm⟩ := H _ ⟨ldR (NX (wrX (NX (ldX (NX (wrX (NX x) 98)) (lpT b k))) 58)) (1 + lowI (b >>> (nI k &&& 31)) 30), (1 + lowI (b >>> (nI k &&& 31)) 30), lpT b k, lpK a k, rfl⟩
  refine ⟨m + 4, ?_⟩
  conv => lhs; whnf
  refine (pif_f (clamp_le hk)).trans ?_
  conv => lhs; whnf
  refine (callK_r (cl_L_low _ _ _ _ (Nat.le_of_ble_eq_true rfl) (by decide)) (by rfl)).trans ?_
  conv => lhs; whnf
  refine (callK_r (cl_L_low _ _ _ _ (Nat.le_of_ble_eq_true rfl) (by decide)) (by rfl)).trans ?_
  conv => lhs; whnf
  refine (pif_t h0).trans ?_
  conv => lhs; whnf
  refine (callK_r (cl_L_low _ _ _ _ (Nat.le_of_ble_eq_true rfl) (by decide)) (by rfl)).trans ?_
  conv => lhs; whnf
  refine (pif_t h0).trans ?_
  conv => lhs; whnf
  refine (callK_r (rd_write f _ v u _ rg hc) (by rfl)).trans ?_
  conv => lhs; whnf
  refine (callK_r (rd_digits f _ v u _ rg hc) (by rfl)).trans ?_
  conv => lhs; whnf
  refine (callK_r (rd_write f _ v u _ rg hc) (by rfl)).trans ?_
  conv => lhs; whnf
  refine (callK_r (rd_digits f _ v u _ rg hc) (by rfl)).trans ?_
  conv => lhs; whnf
  refine (pif_t hl).trans ?_
  conv => lhs; whnf
  rw [nI_1]
  exact hm
set_option maxHeartbeats 800000 in
theorem lp_s011 (rg : pRg) (f : Nat → Option Nat) (x v u : pLV) (n a b l1 p q r : Int32) (k : Nat) (hc : bOK f rg) (hk : k < n.toNatClampNeg) (h0 : lpK a k = 0) (hl : n ≤ nI k + 1) {T : pOut} (H : ∀ ls0, (∃ l1 p q r : Int32, ls0 = [(5, .int (nI (k + 1))), (3, .int l1), (8, .int p), (7, .int q), (6, .int r), (4, .int n), (0, .ref 0), (1, .int a), (2, .int b)]) → ∃ m, ex k_L_plan m 9 ls0 [] (cw f (ldX (NX (wrX (NX (ldX (NX (wrX (NX x) 98)) (lpT b k))) 58)) (1 + lowI (b >>> (nI k &&& 31)) 30)) v u) rg = some T) : ∃ m, ex k_L_plan m 9 [(5, .int (nI k)), (3, .int l1), (8, .int p), (7, .int q), (6, .int r), (4, .int n), (0, .ref 0), (1, .int a), (2, .int b)] [] (cw f x v u) rg = some T := by
  obtain ⟨m, hm⟩ := H _ ⟨ldR (NX (wrX (NX (ldX (NX (wrX (NX x) 98)) (lpT b k))) 58)) (1 + lowI (b >>> (nI k &&& 31)) 30), (1 + lowI (b >>> (nI k &&& 31)) 30), lpT b k, lpK a k, rfl⟩
  refine ⟨m + 4, ?_⟩
  conv => lhs; whnf
  refine (pif_f (clamp_le hk)).trans ?_
  conv => lhs; whnf
  refine (callK_r (cl_L_low _ _ _ _ (Nat.le_of_ble_eq_true rfl) (by decide)) (by rfl)).trans ?_
  conv => lhs; whnf
  refine (callK_r (cl_L_low _ _ _ _ (Nat.le_of_ble_eq_true rfl) (by decide)) (by rfl)).trans ?_
  conv => lhs; whnf
  refine (pif_t h0).trans ?_
  conv => lhs; whnf
  refine (callK_r (cl_L_low _ _ _ _ (Nat.le_of_ble_eq_true rfl) (by decide)) (by rfl)).trans ?_
  conv => lhs; whnf
  refine (pif_t h0).trans ?_
  conv => lhs; whnf
  refine (callK_r (rd_write f _ v u _ rg hc) (by rfl)).trans ?_
  conv => lhs; whnf
  refine (callK_r (rd_digits f _ v u _ rg hc) (by rfl)).trans ?_
  conv => lhs; whnf
  refine (callK_r (rd_write f _ v u _ rg hc) (by rfl)).trans ?_
  conv => lhs; whnf
  refine (callK_r (rd_digits f _ v u _ rg hc) (by rfl)).trans ?_
  conv => lhs; whnf
  refine (pif_t hl).trans ?_
  conv => lhs; whnf
  rw [nI_1]
  exact hm
set_option maxHeartbeats 800000 in
theorem lp_s000 (rg : pRg) (f : Nat → Option Nat) (x v u : pLV) (n a b l1 : Int32) (k : Nat) (hc : bOK f rg) (hk : k < n.toNatClampNeg) (h0 : lpK a k = 0) (hl : ¬ n ≤ nI k + 1) {T : pOut} (H : ∀ ls0, (∃ l1 p q r : Int32, ls0 = [(5, .int (nI (k + 1))), (3, .int l1), (8, .int p), (7, .int q), (6, .int r), (4, .int n), (0, .ref 0), (1, .int a), (2, .int b)]) → ∃ m, ex k_L_plan m 9 ls0 [] (cw f (wrX (NX (ldX (NX (wrX (NX (ldX (NX (wrX (NX x) 98)) (lpT b k))) 58)) (1 + lowI (b >>> (nI k &&& 31)) 30))) 32) v u) rg = some T) : ∃ m, ex k_L_plan m 9 [(5, .int (nI k)), (4, .int n), (3, .int l1), (0, .ref 0), (1, .int a), (2, .int b)] [] (cw f x v u) rg = some T := by
  obtain ⟨m, hm⟩ := H _ ⟨wrR (NX (ldX (NX (wrX (NX (ldX (NX (wrX (NX x) 98)) (lpT b k))) 58)) (1 + lowI (b >>> (nI k &&& 31)) 30))) 32, (1 + lowI (b >>> (nI k &&& 31)) 30), lpT b k, lpK a k, rfl⟩
  refine ⟨m + 4, ?_⟩
  conv => lhs; whnf
  refine (pif_f (clamp_le hk)).trans ?_
  conv => lhs; whnf
  refine (callK_r (cl_L_low _ _ _ _ (Nat.le_of_ble_eq_true rfl) (by decide)) (by rfl)).trans ?_
  conv => lhs; whnf
  refine (callK_r (cl_L_low _ _ _ _ (Nat.le_of_ble_eq_true rfl) (by decide)) (by rfl)).trans ?_
  conv => lhs; whnf
  refine (pif_t h0).trans ?_
  conv => lhs; whnf
  refine (callK_r (cl_L_low _ _ _ _ (Nat.le_of_ble_eq_true rfl) (by decide)) (by rfl)).trans ?_
  conv => lhs; whnf
  refine (pif_t h0).trans ?_
  conv => lhs; whnf
  refine (callK_r (rd_write f _ v u _ rg hc) (by rfl)).trans ?_
  conv => lhs; whnf
  refine (callK_r (rd_digits f _ v u _ rg hc) (by rfl)).trans ?_
  conv => lhs; whnf
  refine (callK_r (rd_write f _ v u _ rg hc) (by rfl)).trans ?_
  conv => lhs; whnf
  refine (callK_r (rd_digits f _ v u _ rg hc) (by rfl)).trans ?_
  conv => lhs; whnf
  refine (pif_f hl).trans ?_
  conv => lhs; whnf
  refine (callK_r (rd_write f _ v u _ rg hc) (by rfl)).trans ?_
  conv => lhs; whnf
  rw [nI_1]
  exact hm
set_option maxHeartbeats 800000 in
theorem lp_s001 (rg : pRg) (f : Nat → Option Nat) (x v u : pLV) (n a b l1 p q r : Int32) (k : Nat) (hc : bOK f rg) (hk : k < n.toNatClampNeg) (h0 : lpK a k = 0) (hl : ¬ n ≤ nI k + 1) {T : pOut} (H : ∀ ls0, (∃ l1 p q r : Int32, ls0 = [(5, .int (nI (k + 1))), (3, .int l1), (8, .int p), (7, .int q), (6, .int r), (4, .int n), (0, .ref 0), (1, .int a), (2, .int b)]) → ∃ m, ex k_L_plan m 9 ls0 [] (cw f (wrX (NX (ldX (NX (wrX (NX (ldX (NX (wrX (NX x) 98)) (lpT b k))) 58)) (1 + lowI (b >>> (nI k &&& 31)) 30))) 32) v u) rg = some T) : ∃ m, ex k_L_plan m 9 [(5, .int (nI k)), (3, .int l1), (8, .int p), (7, .int q), (6, .int r), (4, .int n), (0, .ref 0), (1, .int a), (2, .int b)] [] (cw f x v u) rg = some T := by
  obtain ⟨m, hm⟩ := H _ ⟨wrR (NX (ldX (NX (wrX (NX (ldX (NX (wrX (NX x) 98)) (lpT b k))) 58)) (1 + lowI (b >>> (nI k &&& 31)) 30))) 32, (1 + lowI (b >>> (nI k &&& 31)) 30), lpT b k, lpK a k, rfl⟩
  refine ⟨m + 4, ?_⟩
  conv => lhs; whnf
  refine (pif_f (clamp_le hk)).trans ?_
  conv => lhs; whnf
  refine (callK_r (cl_L_low _ _ _ _ (Nat.le_of_ble_eq_true rfl) (by decide)) (by rfl)).trans ?_
  conv => lhs; whnf
  refine (callK_r (cl_L_low _ _ _ _ (Nat.le_of_ble_eq_true rfl) (by decide)) (by rfl)).trans ?_
  conv => lhs; whnf
  refine (pif_t h0).trans ?_
  conv => lhs; whnf
  refine (callK_r (cl_L_low _ _ _ _ (Nat.le_of_ble_eq_true rfl) (by decide)) (by rfl)).trans ?_
  conv => lhs; whnf
  refine (pif_t h0).trans ?_
  conv => lhs; whnf
  refine (callK_r (rd_write f _ v u _ rg hc) (by rfl)).trans ?_
  conv => lhs; whnf
  refine (callK_r (rd_digits f _ v u _ rg hc) (by rfl)).trans ?_
  conv => lhs; whnf
  refine (callK_r (rd_write f _ v u _ rg hc) (by rfl)).trans ?_
  conv => lhs; whnf
  refine (callK_r (rd_digits f _ v u _ rg hc) (by rfl)).trans ?_
  conv => lhs; whnf
  refine (pif_f hl).trans ?_
  conv => lhs; whnf
  refine (callK_r (rd_write f _ v u _ rg hc) (by rfl)).trans ?_
  conv => lhs; whnf
  rw [nI_1]
  exact hm
set_option maxHeartbeats 800000 in
theorem lp_s110 (rg : pRg) (f : Nat → Option Nat) (x v u : pLV) (n a b l1 : Int32) (k : Nat) (hc : bOK f rg) (hk : k < n.toNatClampNeg) (h0 : ¬ lpK a k = 0) (h1 : lpK a k = 1) (hl : n ≤ nI k + 1) {T : pOut} (H : ∀ ls0, (∃ l1 p q r : Int32, ls0 = [(5, .int (nI (k + 1))), (3, .int l1), (8, .int p), (7, .int q), (6, .int r), (4, .int n), (0, .ref 0), (1, .int a), (2, .int b)]) → ∃ m, ex k_L_plan m 9 ls0 [] (cw f (ldX (NX (wrX (NX (ldX (NX (wrX (NX x) 103)) (lpT b k))) 58)) (lowI (b >>> (nI k &&& 31)) 4)) v u) rg = some T) : ∃ m, ex k_L_plan m 9 [(5, .int (nI k)), (4, .int n), (3, .int l1), (0, .ref 0), (1, .int a), (2, .int b)] [] (cw f x v u) rg = some T := by
  obtain ⟨m, hm⟩ := H _ ⟨ldR (NX (wrX (NX (ldX (NX (wrX (NX x) 103)) (lpT b k))) 58)) (lowI (b >>> (nI k &&& 31)) 4), (lowI (b >>> (nI k &&& 31)) 4), lpT b k, lpK a k, rfl⟩
  refine ⟨m + 6, ?_⟩
  conv => lhs; whnf
  refine (pif_f (clamp_le hk)).trans ?_
  conv => lhs; whnf
  refine (callK_r (cl_L_low _ _ _ _ (Nat.le_of_ble_eq_true rfl) (by decide)) (by rfl)).trans ?_
  conv => lhs; whnf
  refine (callK_r (cl_L_low _ _ _ _ (Nat.le_of_ble_eq_true rfl) (by decide)) (by rfl)).trans ?_
  conv => lhs; whnf
  refine (pif_f h0).trans ?_
  conv => lhs; whnf
  refine (pif_t h1).trans ?_
  conv => lhs; whnf
  refine (callK_r (cl_L_low _ _ _ _ (Nat.le_of_ble_eq_true rfl) (by decide)) (by rfl)).trans ?_
  conv => lhs; whnf
  refine (pif_f h0).trans ?_
  conv => lhs; whnf
  refine (pif_t h1).trans ?_
  conv => lhs; whnf
  refine (callK_r (rd_write f _ v u _ rg hc) (by rfl)).trans ?_
  conv => lhs; whnf
  refine (callK_r (rd_digits f _ v u _ rg hc) (by rfl)).trans ?_
  conv => lhs; whnf
  refine (callK_r (rd_write f _ v u _ rg hc) (by rfl)).trans ?_
  conv => lhs; whnf
  refine (callK_r (rd_digits f _ v u _ rg hc) (by rfl)).trans ?_
  conv => lhs; whnf
  refine (pif_t hl).trans ?_
  conv => lhs; whnf
  rw [nI_1]
  exact hm
set_option maxHeartbeats 800000 in
theorem lp_s111 (rg : pRg) (f : Nat → Option Nat) (x v u : pLV) (n a b l1 p q r : Int32) (k : Nat) (hc : bOK f rg) (hk : k < n.toNatClampNeg) (h0 : ¬ lpK a k = 0) (h1 : lpK a k = 1) (hl : n ≤ nI k + 1) {T : pOut} (H : ∀ ls0, (∃ l1 p q r : Int32, ls0 = [(5, .int (nI (k + 1))), (3, .int l1), (8, .int p), (7, .int q), (6, .int r), (4, .int n), (0, .ref 0), (1, .int a), (2, .int b)]) → ∃ m, ex k_L_plan m 9 ls0 [] (cw f (ldX (NX (wrX (NX (ldX (NX (wrX (NX x) 103)) (lpT b k))) 58)) (lowI (b >>> (nI k &&& 31)) 4)) v u) rg = some T) : ∃ m, ex k_L_plan m 9 [(5, .int (nI k)), (3, .int l1), (8, .int p), (7, .int q), (6, .int r), (4, .int n), (0, .ref 0), (1, .int a), (2, .int b)] [] (cw f x v u) rg = some T := by
  obtain ⟨m, hm⟩ := H _ ⟨ldR (NX (wrX (NX (ldX (NX (wrX (NX x) 103)) (lpT b k))) 58)) (lowI (b >>> (nI k &&& 31)) 4), (lowI (b >>> (nI k &&& 31)) 4), lpT b k, lpK a k, rfl⟩
  refine ⟨m + 6, ?_⟩
  conv => lhs; whnf
  refine (pif_f (clamp_le hk)).trans ?_
  conv => lhs; whnf
  refine (callK_r (cl_L_low _ _ _ _ (Nat.le_of_ble_eq_true rfl) (by decide)) (by rfl)).trans ?_
  conv => lhs; whnf
  refine (callK_r (cl_L_low _ _ _ _ (Nat.le_of_ble_eq_true rfl) (by decide)) (by rfl)).trans ?_
  conv => lhs; whnf
  refine (pif_f h0).trans ?_
  conv => lhs; whnf
  refine (pif_t h1).trans ?_
  conv => lhs; whnf
  refine (callK_r (cl_L_low _ _ _ _ (Nat.le_of_ble_eq_true rfl) (by decide)) (by rfl)).trans ?_
  conv => lhs; whnf
  refine (pif_f h0).trans ?_
  conv => lhs; whnf
  refine (pif_t h1).trans ?_
  conv => lhs; whnf
  refine (callK_r (rd_write f _ v u _ rg hc) (by rfl)).trans ?_
  conv => lhs; whnf
  refine (callK_r (rd_digits f _ v u _ rg hc) (by rfl)).trans ?_
  conv => lhs; whnf
  refine (callK_r (rd_write f _ v u _ rg hc) (by rfl)).trans ?_
  conv => lhs; whnf
  refine (callK_r (rd_digits f _ v u _ rg hc) (by rfl)).trans ?_
  conv => lhs; whnf
  refine (pif_t hl).trans ?_
  conv => lhs; whnf
  rw [nI_1]
  exact hm
set_option maxHeartbeats 800000 in
theorem lp_s100 (rg : pRg) (f : Nat → Option Nat) (x v u : pLV) (n a b l1 : Int32) (k : Nat) (hc : bOK f rg) (hk : k < n.toNatClampNeg) (h0 : ¬ lpK a k = 0) (h1 : lpK a k = 1) (hl : ¬ n ≤ nI k + 1) {T : pOut} (H : ∀ ls0, (∃ l1 p q r : Int32, ls0 = [(5, .int (nI (k + 1))), (3, .int l1), (8, .int p), (7, .int q), (6, .int r), (4, .int n), (0, .ref 0), (1, .int a), (2, .int b)]) → ∃ m, ex k_L_plan m 9 ls0 [] (cw f (wrX (NX (ldX (NX (wrX (NX (ldX (NX (wrX (NX x) 103)) (lpT b k))) 58)) (lowI (b >>> (nI k &&& 31)) 4))) 32) v u) rg = some T) : ∃ m, ex k_L_plan m 9 [(5, .int (nI k)), (4, .int n), (3, .int l1), (0, .ref 0), (1, .int a), (2, .int b)] [] (cw f x v u) rg = some T := by
  obtain ⟨m, hm⟩ := H _ ⟨wrR (NX (ldX (NX (wrX (NX (ldX (NX (wrX (NX x) 103)) (lpT b k))) 58)) (lowI (b >>> (nI k &&& 31)) 4))) 32, (lowI (b >>> (nI k &&& 31)) 4), lpT b k, lpK a k, rfl⟩
  refine ⟨m + 6, ?_⟩
  conv => lhs; whnf
  refine (pif_f (clamp_le hk)).trans ?_
  conv => lhs; whnf
  refine (callK_r (cl_L_low _ _ _ _ (Nat.le_of_ble_eq_true rfl) (by decide)) (by rfl)).trans ?_
  conv => lhs; whnf
  refine (callK_r (cl_L_low _ _ _ _ (Nat.le_of_ble_eq_true rfl) (by decide)) (by rfl)).trans ?_
  conv => lhs; whnf
  refine (pif_f h0).trans ?_
  conv => lhs; whnf
  refine (pif_t h1).trans ?_
  conv => lhs; whnf
  refine (callK_r (cl_L_low _ _ _ _ (Nat.le_of_ble_eq_true rfl) (by decide)) (by rfl)).trans ?_
  conv => lhs; whnf
  refine (pif_f h0).trans ?_
  conv => lhs; whnf
  refine (pif_t h1).trans ?_
  conv => lhs; whnf
  refine (callK_r (rd_write f _ v u _ rg hc) (by rfl)).trans ?_
  conv => lhs; whnf
  refine (callK_r (rd_digits f _ v u _ rg hc) (by rfl)).trans ?_
  conv => lhs; whnf
  refine (callK_r (rd_write f _ v u _ rg hc) (by rfl)).trans ?_
  conv => lhs; whnf
  refine (callK_r (rd_digits f _ v u _ rg hc) (by rfl)).trans ?_
  conv => lhs; whnf
  refine (pif_f hl).trans ?_
  conv => lhs; whnf
  refine (callK_r (rd_write f _ v u _ rg hc) (by rfl)).trans ?_
  conv => lhs; whnf
  rw [nI_1]
  exact hm
set_option maxHeartbeats 800000 in
theorem lp_s101 (rg : pRg) (f : Nat → Option Nat) (x v u : pLV) (n a b l1 p q r : Int32) (k : Nat) (hc : bOK f rg) (hk : k < n.toNatClampNeg) (h0 : ¬ lpK a k = 0) (h1 : lpK a k = 1) (hl : ¬ n ≤ nI k + 1) {T : pOut} (H : ∀ ls0, (∃ l1 p q r : Int32, ls0 = [(5, .int (nI (k + 1))), (3, .int l1), (8, .int p), (7, .int q), (6, .int r), (4, .int n), (0, .ref 0), (1, .int a), (2, .int b)]) → ∃ m, ex k_L_plan m 9 ls0 [] (cw f (wrX (NX (ldX (NX (wrX (NX (ldX (NX (wrX (NX x) 103)) (lpT b k))) 58)) (lowI (b >>> (nI k &&& 31)) 4))) 32) v u) rg = some T) : ∃ m, ex k_L_plan m 9 [(5, .int (nI k)), (3, .int l1), (8, .int p), (7, .int q), (6, .int r), (4, .int n), (0, .ref 0), (1, .int a), (2, .int b)] [] (cw f x v u) rg = some T := by
  obtain ⟨m, hm⟩ := H _ ⟨wrR (NX (ldX (NX (wrX (NX (ldX (NX (wrX (NX x) 103)) (lpT b k))) 58)) (lowI (b >>> (nI k &&& 31)) 4))) 32, (lowI (b >>> (nI k &&& 31)) 4), lpT b k, lpK a k, rfl⟩
  refine ⟨m + 6, ?_⟩
  conv => lhs; whnf
  refine (pif_f (clamp_le hk)).trans ?_
  conv => lhs; whnf
  refine (callK_r (cl_L_low _ _ _ _ (Nat.le_of_ble_eq_true rfl) (by decide)) (by rfl)).trans ?_
  conv => lhs; whnf
  refine (callK_r (cl_L_low _ _ _ _ (Nat.le_of_ble_eq_true rfl) (by decide)) (by rfl)).trans ?_
  conv => lhs; whnf
  refine (pif_f h0).trans ?_
  conv => lhs; whnf
  refine (pif_t h1).trans ?_
  conv => lhs; whnf
  refine (callK_r (cl_L_low _ _ _ _ (Nat.le_of_ble_eq_true rfl) (by decide)) (by rfl)).trans ?_
  conv => lhs; whnf
  refine (pif_f h0).trans ?_
  conv => lhs; whnf
  refine (pif_t h1).trans ?_
  conv => lhs; whnf
  refine (callK_r (rd_write f _ v u _ rg hc) (by rfl)).trans ?_
  conv => lhs; whnf
  refine (callK_r (rd_digits f _ v u _ rg hc) (by rfl)).trans ?_
  conv => lhs; whnf
  refine (callK_r (rd_write f _ v u _ rg hc) (by rfl)).trans ?_
  conv => lhs; whnf
  refine (callK_r (rd_digits f _ v u _ rg hc) (by rfl)).trans ?_
  conv => lhs; whnf
  refine (pif_f hl).trans ?_
  conv => lhs; whnf
  refine (callK_r (rd_write f _ v u _ rg hc) (by rfl)).trans ?_
  conv => lhs; whnf
  rw [nI_1]
  exact hm
set_option maxHeartbeats 800000 in
theorem lp_s210 (rg : pRg) (f : Nat → Option Nat) (x v u : pLV) (n a b l1 : Int32) (k : Nat) (hc : bOK f rg) (hk : k < n.toNatClampNeg) (h0 : ¬ lpK a k = 0) (h1 : ¬ lpK a k = 1) (hl : n ≤ nI k + 1) {T : pOut} (H : ∀ ls0, (∃ l1 p q r : Int32, ls0 = [(5, .int (nI (k + 1))), (3, .int l1), (8, .int p), (7, .int q), (6, .int r), (4, .int n), (0, .ref 0), (1, .int a), (2, .int b)]) → ∃ m, ex k_L_plan m 9 ls0 [] (cw f (ldX (NX (wrX (NX (ldX (NX (wrX (NX x) 102)) (lpT b k))) 58)) (lowI (b >>> (nI k &&& 31)) 900)) v u) rg = some T) : ∃ m, ex k_L_plan m 9 [(5, .int (nI k)), (4, .int n), (3, .int l1), (0, .ref 0), (1, .int a), (2, .int b)] [] (cw f x v u) rg = some T := by
  obtain ⟨m, hm⟩ := H _ ⟨ldR (NX (wrX (NX (ldX (NX (wrX (NX x) 102)) (lpT b k))) 58)) (lowI (b >>> (nI k &&& 31)) 900), (lowI (b >>> (nI k &&& 31)) 900), lpT b k, lpK a k, rfl⟩
  refine ⟨m + 6, ?_⟩
  conv => lhs; whnf
  refine (pif_f (clamp_le hk)).trans ?_
  conv => lhs; whnf
  refine (callK_r (cl_L_low _ _ _ _ (Nat.le_of_ble_eq_true rfl) (by decide)) (by rfl)).trans ?_
  conv => lhs; whnf
  refine (callK_r (cl_L_low _ _ _ _ (Nat.le_of_ble_eq_true rfl) (by decide)) (by rfl)).trans ?_
  conv => lhs; whnf
  refine (pif_f h0).trans ?_
  conv => lhs; whnf
  refine (pif_f h1).trans ?_
  conv => lhs; whnf
  refine (callK_r (cl_L_low _ _ _ _ (Nat.le_of_ble_eq_true rfl) (by decide)) (by rfl)).trans ?_
  conv => lhs; whnf
  refine (pif_f h0).trans ?_
  conv => lhs; whnf
  refine (pif_f h1).trans ?_
  conv => lhs; whnf
  refine (callK_r (rd_write f _ v u _ rg hc) (by rfl)).trans ?_
  conv => lhs; whnf
  refine (callK_r (rd_digits f _ v u _ rg hc) (by rfl)).trans ?_
  conv => lhs; whnf
  refine (callK_r (rd_write f _ v u _ rg hc) (by rfl)).trans ?_
  conv => lhs; whnf
  refine (callK_r (rd_digits f _ v u _ rg hc) (by rfl)).trans ?_
  conv => lhs; whnf
  refine (pif_t hl).trans ?_
  conv => lhs; whnf
  rw [nI_1]
  exact hm
set_option maxHeartbeats 800000 in
theorem lp_s211 (rg : pRg) (f : Nat → Option Nat) (x v u : pLV) (n a b l1 p q r : Int32) (k : Nat) (hc : bOK f rg) (hk : k < n.toNatClampNeg) (h0 : ¬ lpK a k = 0) (h1 : ¬ lpK a k = 1) (hl : n ≤ nI k + 1) {T : pOut} (H : ∀ ls0, (∃ l1 p q r : Int32, ls0 = [(5, .int (nI (k + 1))), (3, .int l1), (8, .int p), (7, .int q), (6, .int r), (4, .int n), (0, .ref 0), (1, .int a), (2, .int b)]) → ∃ m, ex k_L_plan m 9 ls0 [] (cw f (ldX (NX (wrX (NX (ldX (NX (wrX (NX x) 102)) (lpT b k))) 58)) (lowI (b >>> (nI k &&& 31)) 900)) v u) rg = some T) : ∃ m, ex k_L_plan m 9 [(5, .int (nI k)), (3, .int l1), (8, .int p), (7, .int q), (6, .int r), (4, .int n), (0, .ref 0), (1, .int a), (2, .int b)] [] (cw f x v u) rg = some T := by
  obtain ⟨m, hm⟩ := H _ ⟨ldR (NX (wrX (NX (ldX (NX (wrX (NX x) 102)) (lpT b k))) 58)) (lowI (b >>> (nI k &&& 31)) 900), (lowI (b >>> (nI k &&& 31)) 900), lpT b k, lpK a k, rfl⟩
  refine ⟨m + 6, ?_⟩
  conv => lhs; whnf
  refine (pif_f (clamp_le hk)).trans ?_
  conv => lhs; whnf
  refine (callK_r (cl_L_low _ _ _ _ (Nat.le_of_ble_eq_true rfl) (by decide)) (by rfl)).trans ?_
  conv => lhs; whnf
  refine (callK_r (cl_L_low _ _ _ _ (Nat.le_of_ble_eq_true rfl) (by decide)) (by rfl)).trans ?_
  conv => lhs; whnf
  refine (pif_f h0).trans ?_
  conv => lhs; whnf
  refine (pif_f h1).trans ?_
  conv => lhs; whnf
  refine (callK_r (cl_L_low _ _ _ _ (Nat.le_of_ble_eq_true rfl) (by decide)) (by rfl)).trans ?_
  conv => lhs; whnf
  refine (pif_f h0).trans ?_
  conv => lhs; whnf
  refine (pif_f h1).trans ?_
  conv => lhs; whnf
  refine (callK_r (rd_write f _ v u _ rg hc) (by rfl)).trans ?_
  conv => lhs; whnf
  refine (callK_r (rd_digits f _ v u _ rg hc) (by rfl)).trans ?_
  conv => lhs; whnf
  refine (callK_r (rd_write f _ v u _ rg hc) (by rfl)).trans ?_
  conv => lhs; whnf
  refine (callK_r (rd_digits f _ v u _ rg hc) (by rfl)).trans ?_
  conv => lhs; whnf
  refine (pif_t hl).trans ?_
  conv => lhs; whnf
  rw [nI_1]
  exact hm
set_option maxHeartbeats 800000 in
theorem lp_s200 (rg : pRg) (f : Nat → Option Nat) (x v u : pLV) (n a b l1 : Int32) (k : Nat) (hc : bOK f rg) (hk : k < n.toNatClampNeg) (h0 : ¬ lpK a k = 0) (h1 : ¬ lpK a k = 1) (hl : ¬ n ≤ nI k + 1) {T : pOut} (H : ∀ ls0, (∃ l1 p q r : Int32, ls0 = [(5, .int (nI (k + 1))), (3, .int l1), (8, .int p), (7, .int q), (6, .int r), (4, .int n), (0, .ref 0), (1, .int a), (2, .int b)]) → ∃ m, ex k_L_plan m 9 ls0 [] (cw f (wrX (NX (ldX (NX (wrX (NX (ldX (NX (wrX (NX x) 102)) (lpT b k))) 58)) (lowI (b >>> (nI k &&& 31)) 900))) 32) v u) rg = some T) : ∃ m, ex k_L_plan m 9 [(5, .int (nI k)), (4, .int n), (3, .int l1), (0, .ref 0), (1, .int a), (2, .int b)] [] (cw f x v u) rg = some T := by
  obtain ⟨m, hm⟩ := H _ ⟨wrR (NX (ldX (NX (wrX (NX (ldX (NX (wrX (NX x) 102)) (lpT b k))) 58)) (lowI (b >>> (nI k &&& 31)) 900))) 32, (lowI (b >>> (nI k &&& 31)) 900), lpT b k, lpK a k, rfl⟩
  refine ⟨m + 6, ?_⟩
  conv => lhs; whnf
  refine (pif_f (clamp_le hk)).trans ?_
  conv => lhs; whnf
  refine (callK_r (cl_L_low _ _ _ _ (Nat.le_of_ble_eq_true rfl) (by decide)) (by rfl)).trans ?_
  conv => lhs; whnf
  refine (callK_r (cl_L_low _ _ _ _ (Nat.le_of_ble_eq_true rfl) (by decide)) (by rfl)).trans ?_
  conv => lhs; whnf
  refine (pif_f h0).trans ?_
  conv => lhs; whnf
  refine (pif_f h1).trans ?_
  conv => lhs; whnf
  refine (callK_r (cl_L_low _ _ _ _ (Nat.le_of_ble_eq_true rfl) (by decide)) (by rfl)).trans ?_
  conv => lhs; whnf
  refine (pif_f h0).trans ?_
  conv => lhs; whnf
  refine (pif_f h1).trans ?_
  conv => lhs; whnf
  refine (callK_r (rd_write f _ v u _ rg hc) (by rfl)).trans ?_
  conv => lhs; whnf
  refine (callK_r (rd_digits f _ v u _ rg hc) (by rfl)).trans ?_
  conv => lhs; whnf
  refine (callK_r (rd_write f _ v u _ rg hc) (by rfl)).trans ?_
  conv => lhs; whnf
  refine (callK_r (rd_digits f _ v u _ rg hc) (by rfl)).trans ?_
  conv => lhs; whnf
  refine (pif_f hl).trans ?_
  conv => lhs; whnf
  refine (callK_r (rd_write f _ v u _ rg hc) (by rfl)).trans ?_
  conv => lhs; whnf
  rw [nI_1]
  exact hm
set_option maxHeartbeats 800000 in
theorem lp_s201 (rg : pRg) (f : Nat → Option Nat) (x v u : pLV) (n a b l1 p q r : Int32) (k : Nat) (hc : bOK f rg) (hk : k < n.toNatClampNeg) (h0 : ¬ lpK a k = 0) (h1 : ¬ lpK a k = 1) (hl : ¬ n ≤ nI k + 1) {T : pOut} (H : ∀ ls0, (∃ l1 p q r : Int32, ls0 = [(5, .int (nI (k + 1))), (3, .int l1), (8, .int p), (7, .int q), (6, .int r), (4, .int n), (0, .ref 0), (1, .int a), (2, .int b)]) → ∃ m, ex k_L_plan m 9 ls0 [] (cw f (wrX (NX (ldX (NX (wrX (NX (ldX (NX (wrX (NX x) 102)) (lpT b k))) 58)) (lowI (b >>> (nI k &&& 31)) 900))) 32) v u) rg = some T) : ∃ m, ex k_L_plan m 9 [(5, .int (nI k)), (3, .int l1), (8, .int p), (7, .int q), (6, .int r), (4, .int n), (0, .ref 0), (1, .int a), (2, .int b)] [] (cw f x v u) rg = some T := by
  obtain ⟨m, hm⟩ := H _ ⟨wrR (NX (ldX (NX (wrX (NX (ldX (NX (wrX (NX x) 102)) (lpT b k))) 58)) (lowI (b >>> (nI k &&& 31)) 900))) 32, (lowI (b >>> (nI k &&& 31)) 900), lpT b k, lpK a k, rfl⟩
  refine ⟨m + 6, ?_⟩
  conv => lhs; whnf
  refine (pif_f (clamp_le hk)).trans ?_
  conv => lhs; whnf
  refine (callK_r (cl_L_low _ _ _ _ (Nat.le_of_ble_eq_true rfl) (by decide)) (by rfl)).trans ?_
  conv => lhs; whnf
  refine (callK_r (cl_L_low _ _ _ _ (Nat.le_of_ble_eq_true rfl) (by decide)) (by rfl)).trans ?_
  conv => lhs; whnf
  refine (pif_f h0).trans ?_
  conv => lhs; whnf
  refine (pif_f h1).trans ?_
  conv => lhs; whnf
  refine (callK_r (cl_L_low _ _ _ _ (Nat.le_of_ble_eq_true rfl) (by decide)) (by rfl)).trans ?_
  conv => lhs; whnf
  refine (pif_f h0).trans ?_
  conv => lhs; whnf
  refine (pif_f h1).trans ?_
  conv => lhs; whnf
  refine (callK_r (rd_write f _ v u _ rg hc) (by rfl)).trans ?_
  conv => lhs; whnf
  refine (callK_r (rd_digits f _ v u _ rg hc) (by rfl)).trans ?_
  conv => lhs; whnf
  refine (callK_r (rd_write f _ v u _ rg hc) (by rfl)).trans ?_
  conv => lhs; whnf
  refine (callK_r (rd_digits f _ v u _ rg hc) (by rfl)).trans ?_
  conv => lhs; whnf
  refine (pif_f hl).trans ?_
  conv => lhs; whnf
  refine (callK_r (rd_write f _ v u _ rg hc) (by rfl)).trans ?_
  conv => lhs; whnf
  rw [nI_1]
  exact hm
set_option maxHeartbeats 800000 in
theorem lp_lo (rg : pRg) (f : Nat → Option Nat) (x v u : pLV) (n a b : Int32) (hx : TXo x) (hc : bOK f rg) : ∀ (d k : Nat), k + d = n.toNatClampNeg → ∀ ls0, ((∃ l1 : Int32, ls0 = [(5, .int (nI k)), (4, .int n), (3, .int l1), (0, .ref 0), (1, .int a), (2, .int b)]) ∨ (∃ l1 p q r : Int32, ls0 = [(5, .int (nI k)), (3, .int l1), (8, .int p), (7, .int q), (6, .int r), (4, .int n), (0, .ref 0), (1, .int a), (2, .int b)])) → ∃ m, ex k_L_plan m 9 ls0 [] (cw f (lpI x n a b k) v u) rg = some (some (.int (plR (NX (lpI x n a b n.toNatClampNeg)) (NL v))), cw f (plXX (NX (lpI x n a b n.toNatClampNeg))) (plV (NX (lpI x n a b n.toNatClampNeg)) (NL v)) u, (rg.1, plH (NX (lpI x n a b n.toNatClampNeg)) (NL v) rg.2)) := by
  have hn : n.toNatClampNeg < 2 ^ 31 := by
    have h1 : n.toNatClampNeg = n.toInt.toNat := rfl
    have h2 : n.toInt < 2 ^ 31 := Int32.toInt_lt n
    omega
  intro d
  induction d with
  | zero =>
    intro k hk ls0 hl
    obtain rfl : k = n.toNatClampNeg := by omega
    refine ⟨4, ?_⟩
    rcases hl with ⟨l1, rfl⟩ | ⟨l1, p, q, r, rfl⟩
    all_goals
      conv => lhs; whnf
      refine (pif_t (clamp_ge (Nat.le_refl _) hn)).trans ?_
      conv => lhs; whnf
      refine (callK_r (rd_plan f _ v u rg ⟨hc, lpI_ok n a b hx _⟩) (by rfl)).trans ?_
      rfl
  | succ d ih =>
    intro k hk ls0 hl
    have hk2 : k < n.toNatClampNeg := by omega
    have hH : ∀ ls0, (∃ l1 p q r : Int32, ls0 = [(5, .int (nI (k + 1))), (3, .int l1), (8, .int p), (7, .int q), (6, .int r), (4, .int n), (0, .ref 0), (1, .int a), (2, .int b)]) → ∃ m, ex k_L_plan m 9 ls0 [] (cw f (lpI x n a b (k + 1)) v u) rg = some (some (.int (plR (NX (lpI x n a b n.toNatClampNeg)) (NL v))), cw f (plXX (NX (lpI x n a b n.toNatClampNeg))) (plV (NX (lpI x n a b n.toNatClampNeg)) (NL v)) u, (rg.1, plH (NX (lpI x n a b n.toNatClampNeg)) (NL v) rg.2)) := fun ls0 h => ih (k + 1) (by omega) ls0 (Or.inr h)
    rw [show lpI x n a b (k + 1) = lpS (lpI x n a b k) n a b k from rfl] at hH
    generalize lpI x n a b k = y at hH ⊢
    by_cases h0 : lpK a k = 0
    · have eL : lpL a k = 98 := if_pos h0
      have eN : lpN a b k = (1 + lowI (b >>> (nI k &&& 31)) 30) := if_pos h0
      have eM : lpM y a b k = ldX (NX (wrX (NX (ldX (NX (wrX (NX y) 98)) (lpT b k))) 58)) (1 + lowI (b >>> (nI k &&& 31)) 30) := by
        unfold lpM
        rw [eL, eN]
      by_cases hl2 : n ≤ nI k + 1
      · rw [show lpS y n a b k = ldX (NX (wrX (NX (ldX (NX (wrX (NX y) 98)) (lpT b k))) 58)) (1 + lowI (b >>> (nI k &&& 31)) 30) from (if_pos hl2).trans eM] at hH
        rcases hl with ⟨l1, rfl⟩ | ⟨l1, p, q, r, rfl⟩
        · exact lp_s010 rg f y v u n a b l1 k hc hk2 h0 hl2 hH
        · exact lp_s011 rg f y v u n a b l1 p q r k hc hk2 h0 hl2 hH
      · rw [show lpS y n a b k = wrX (NX (ldX (NX (wrX (NX (ldX (NX (wrX (NX y) 98)) (lpT b k))) 58)) (1 + lowI (b >>> (nI k &&& 31)) 30))) 32 from (if_neg hl2).trans (by rw [eM])] at hH
        rcases hl with ⟨l1, rfl⟩ | ⟨l1, p, q, r, rfl⟩
        · exact lp_s000 rg f y v u n a b l1 k hc hk2 h0 hl2 hH
        · exact lp_s001 rg f y v u n a b l1 p q r k hc hk2 h0 hl2 hH
    · by_cases h1 : lpK a k = 1
      · have eL : lpL a k = 103 := (if_neg h0).trans (if_pos h1)
        have eN : lpN a b k = (lowI (b >>> (nI k &&& 31)) 4) := (if_neg h0).trans (if_pos h1)
        have eM : lpM y a b k = ldX (NX (wrX (NX (ldX (NX (wrX (NX y) 103)) (lpT b k))) 58)) (lowI (b >>> (nI k &&& 31)) 4) := by
          unfold lpM
          rw [eL, eN]
        by_cases hl2 : n ≤ nI k + 1
        · rw [show lpS y n a b k = ldX (NX (wrX (NX (ldX (NX (wrX (NX y) 103)) (lpT b k))) 58)) (lowI (b >>> (nI k &&& 31)) 4) from (if_pos hl2).trans eM] at hH
          rcases hl with ⟨l1, rfl⟩ | ⟨l1, p, q, r, rfl⟩
          · exact lp_s110 rg f y v u n a b l1 k hc hk2 h0 h1 hl2 hH
          · exact lp_s111 rg f y v u n a b l1 p q r k hc hk2 h0 h1 hl2 hH
        · rw [show lpS y n a b k = wrX (NX (ldX (NX (wrX (NX (ldX (NX (wrX (NX y) 103)) (lpT b k))) 58)) (lowI (b >>> (nI k &&& 31)) 4))) 32 from (if_neg hl2).trans (by rw [eM])] at hH
          rcases hl with ⟨l1, rfl⟩ | ⟨l1, p, q, r, rfl⟩
          · exact lp_s100 rg f y v u n a b l1 k hc hk2 h0 h1 hl2 hH
          · exact lp_s101 rg f y v u n a b l1 p q r k hc hk2 h0 h1 hl2 hH
      · have eL : lpL a k = 102 := (if_neg h0).trans (if_neg h1)
        have eN : lpN a b k = (lowI (b >>> (nI k &&& 31)) 900) := (if_neg h0).trans (if_neg h1)
        have eM : lpM y a b k = ldX (NX (wrX (NX (ldX (NX (wrX (NX y) 102)) (lpT b k))) 58)) (lowI (b >>> (nI k &&& 31)) 900) := by
          unfold lpM
          rw [eL, eN]
        by_cases hl2 : n ≤ nI k + 1
        · rw [show lpS y n a b k = ldX (NX (wrX (NX (ldX (NX (wrX (NX y) 102)) (lpT b k))) 58)) (lowI (b >>> (nI k &&& 31)) 900) from (if_pos hl2).trans eM] at hH
          rcases hl with ⟨l1, rfl⟩ | ⟨l1, p, q, r, rfl⟩
          · exact lp_s210 rg f y v u n a b l1 k hc hk2 h0 h1 hl2 hH
          · exact lp_s211 rg f y v u n a b l1 p q r k hc hk2 h0 h1 hl2 hH
        · rw [show lpS y n a b k = wrX (NX (ldX (NX (wrX (NX (ldX (NX (wrX (NX y) 102)) (lpT b k))) 58)) (lowI (b >>> (nI k &&& 31)) 900))) 32 from (if_neg hl2).trans (by rw [eM])] at hH
          rcases hl with ⟨l1, rfl⟩ | ⟨l1, p, q, r, rfl⟩
          · exact lp_s200 rg f y v u n a b l1 k hc hk2 h0 h1 hl2 hH
          · exact lp_s201 rg f y v u n a b l1 p q r k hc hk2 h0 h1 hl2 hH
set_option maxHeartbeats 400000 in
set_option maxRecDepth 100000 in
theorem run_L_plan (rg : pRg) (f : Nat → Option Nat) (x v u : pLV) (a b : Int32) (hc : bOK f rg) : ∃ fu, ex k_L_plan fu 0 [(0, .ref 0), (1, .int a), (2, .int b)] [] (cw f x v u) rg = some (some (.int (plR (NX (lpX (NX x) a b)) (NL v))), cw f (plXX (NX (lpX (NX x) a b))) (plV (NX (lpX (NX x) a b)) (NL v)) (u), (rg.1, plH (NX (lpX (NX x) a b)) (NL v) rg.2)) := by
  have g := lp_lo rg f (vS (NX x) 0 0) v u (lowI a 7) a b ⟨0, rfl, by omega⟩ hc (lowI a 7).toNatClampNeg 0 (by omega) _ (Or.inl ⟨x 0 0, rfl⟩)
  obtain ⟨m, hm⟩ := g
  obtain ⟨m', rfl⟩ := ex_pos hm
  refine ⟨m' + 1, ?_⟩
  conv => lhs; whnf
  refine (callK_r (rd_wipe f x v u rg hc) (by rfl)).trans ?_
  conv => lhs; whnf
  refine (callK_r (cl_L_low _ _ _ _ (Nat.le_of_ble_eq_true rfl) (by decide)) (by rfl)).trans ?_
  exact hm
theorem ok_F_L_plan (l : Launch) : pFOK l yL_plan (pWs yL_plan cL_plan 9 ((some FieldType.int))) rm_L_plan F_L_plan := by
  refine pFOK_all fun args w rg v0 w' rg' h => ?_
  unfold F_L_plan at h
  split at h
  next a b =>
    obtain ⟨f, x, v, u, hw, h2⟩ := unB_some h
    clear h
    subst hw
    by_cases hc : bOK f rg
    · have h2 := (pif_t hc).symm.trans h2
      cases h2
      exact met_of_ex (by decide) (ok_k_L_plan l) rfl (run_L_plan rg f x v u a b hc) (Nat.le_of_ble_eq_true rfl) rfl (Nat.le_of_ble_eq_true rfl) (Nat.le_of_ble_eq_true rfl) (Nat.zero_le _) rfl rfl
    · have h2 := (pif_f hc).symm.trans h2
      cases h2
  next => cases h
theorem cl_L_plan (f : Nat → Option Nat) (x v u : pLV) (a b : Int32) (rg : pRg) (hc : bOK f rg) : F_L_plan [.ref 0, .int a, .int b] (cw f x v u) rg = some (some (.int (plR (NX (lpX (NX (NX x)) a b)) (NL (NL v)))), cw f (plXX (NX (lpX (NX (NX x)) a b))) (plV (NX (lpX (NX (NX x)) a b)) (NL (NL v))) (NL u), (rg.1, plH (NX (lpX (NX (NX x)) a b)) (NL (NL v)) rg.2)) := pif_t hc
end
