noncomputable section
theorem roT_2 (m : pLV) (k t : Int32) : roT m k t 0 2 = m 0 2 := by
  unfold roT
  repeat' split
  all_goals rfl
theorem roM_2 (m : pLV) (k : Int32) : roM m k 0 2 = m 0 2 := by
  unfold roM roW
  repeat' split
  all_goals first | exact roT_2 _ _ _ | rfl
theorem rdg_2 (m : pLV) (k : Int32) : rdgM m k 0 2 = m 0 2 := by
  unfold rdgM rdN
  repeat' split
  all_goals rfl
theorem rtS_2 (m : pLV) (k : Nat) : rtS m k 0 2 = m 0 2 := by
  unfold rtS
  split
  · exact roM_2 (NM m) _
  · exact rdg_2 (NM m) _
theorem rtI_2 : ∀ (d k : Nat) (m : pLV), rtI d k m 0 2 = m 0 2
  | 0, _, _ => rfl
  | d + 1, k, m => by
    unfold rtI
    split
    · exact (rtI_2 d (k + 1) _).trans (rtS_2 m k)
    · rfl
theorem rtE_2 (m : pLV) : rtE m 0 2 = m 0 2 := by
  unfold rtE
  repeat' split
  all_goals rfl
theorem rtM_2 (m : pLV) : rtM m 0 2 = m 0 2 := (rtE_2 _).trans (rtI_2 _ _ _)
theorem rtM_NM (m : pLV) : rtM (NM m) = rtM m := rfl
theorem rtI_ok : ∀ (d k : Nat) (m : pLV), rdOK m → rdOK (rtI d k m)
  | 0, _, _, h => h
  | d + 1, k, m, h => by
    unfold rtI
    split
    · exact rtI_ok d (k + 1) _ (rtS_ok m k h).1
    · exact h
theorem rtE_ok (m : pLV) (h : rdOK m) : 0 ≤ rtE m 0 13 ∧ rtE m 0 13 ≤ 20 := by
  by_cases h0 : m 0 15 = -9
  · by_cases h1 : m 0 17 = 0
    · rw [show rtE m = _ from (if_pos h0).trans (if_pos h1)]; exact h.1
    by_cases h2 : m 0 17 = 1
    · rw [show rtE m = _ from (if_pos h0).trans ((if_neg h1).trans (if_pos h2))]; exact h.1
    by_cases h3 : m 0 17 = 3
    · rw [show rtE m = _ from (if_pos h0).trans ((if_neg h1).trans ((if_neg h2).trans (if_pos h3)))]; exact h.1
    by_cases h4 : iwR m = 0
    · rw [show rtE m = _ from (if_pos h0).trans ((if_neg h1).trans ((if_neg h2).trans ((if_neg h3).trans (if_pos h4))))]; exact h.1
    by_cases h5 : m 0 17 = 4
    · rw [show rtE m = _ from (if_pos h0).trans ((if_neg h1).trans ((if_neg h2).trans ((if_neg h3).trans ((if_neg h4).trans (if_pos h5)))))]
      exact r_succ h.1.1 (h.2 h1)
    · rw [show rtE m = _ from (if_pos h0).trans ((if_neg h1).trans ((if_neg h2).trans ((if_neg h3).trans ((if_neg h4).trans (if_neg h5)))))]; exact h.1
  · rw [show rtE m = _ from if_neg h0]; exact h.1
theorem rtM_ok (m : pLV) : 0 ≤ rtM m 0 13 ∧ rtM m 0 13 ≤ 20 := rtE_ok _ (rtI_ok _ _ _ (rt0_ok m))
theorem nI_3 (k : Nat) : (3 : Int32) * nI k = nI (3 * k) := nI_tim 3 k
def rk1 (e : Nat → Int32) (i k : Nat) : Nat := if e (3 * i) < e (3 * k) then 1 else if e (3 * i) = e (3 * k) then (if i < k then 1 else 0) else 0
def rkN (e : Nat → Int32) (k : Nat) : Nat → Nat
  | 0 => 0
  | i + 1 => rkN e k i + rk1 e i k
theorem rk1_le (e : Nat → Int32) (i k : Nat) : rk1 e i k ≤ 1 := by
  unfold rk1
  split
  · omega
  · split
    · split <;> omega
    · omega
theorem rk1_k (e : Nat → Int32) (k : Nat) : rk1 e k k = 0 := by
  unfold rk1
  rw [if_neg Int32.lt_irrefl, if_pos rfl, if_neg (Nat.lt_irrefl _)]
theorem rkN_le (e : Nat → Int32) (k : Nat) : ∀ i, rkN e k i ≤ i
  | 0 => Nat.le_refl _
  | i + 1 => Nat.add_le_add (rkN_le e k i) (rk1_le e i k)
theorem rkN_lt (e : Nat → Int32) (k : Nat) : ∀ i, k < i → rkN e k i < i
  | 0, h => absurd h (Nat.not_lt_zero _)
  | i + 1, h => by
    by_cases h2 : k = i
    · subst h2
      show rkN e k k + rk1 e k k < k + 1
      rw [rk1_k]
      have := rkN_le e k k
      omega
    · have h3 := rkN_lt e k i (by omega)
      have h4 := rk1_le e i k
      show rkN e k i + rk1 e i k < i + 1
      omega
def plB (p k : Nat) (y : pLV) : Nat → pLV
  | 0 => y
  | q + 1 => vA (plB p k y q) 1 (upd (plB p k y q 1) (50 + 3 * p + q) (y 5 (3 * k + q)))
theorem plB_k (p k : Nat) (y : pLV) : ∀ q, plB p k y q 5 = y 5 ∧ plB p k y q 0 = y 0
  | 0 => ⟨rfl, rfl⟩
  | q + 1 => plB_k p k y q
def plS (n : Nat) (x : pLV) : Nat → pLV
  | 0 => x
  | k + 1 => plB (rkN (x 5) k n) k (plS n x k) 3
theorem plS_k (n : Nat) (x : pLV) : ∀ k, plS n x k 5 = x 5 ∧ plS n x k 0 = x 0
  | 0 => ⟨rfl, rfl⟩
  | k + 1 => ⟨(plB_k _ _ _ 3).1.trans (plS_k n x k).1, (plB_k _ _ _ 3).2.trans (plS_k n x k).2⟩
def plF (m : pLV) : pLV := vS (vS m 7 (m 0 15)) 8 (m 0 16)
def pl1 (x : pLV) : pLV := vA x 1 (upd (x 1) 49 (x 0 13))
def plG (x : pLV) : pLV := plS (x 0 13).toNatClampNeg (pl1 x) (x 0 13).toNatClampNeg
def plaM (m : pLV) : pLV := if rtM m 0 15 = -9 then plG (rememM (NM (rtM m))) else plF (rtM m)
def plaR (m : pLV) : Int32 := if rtM m 0 15 = -9 then rtM m 0 13 else -2
theorem dX9_plan_0 : decode cX9_plan 0 = .ok (.aload_n 0, 1) := by decide +kernel
theorem dX9_plan_1 : decode cX9_plan 1 = .ok (.invokevirtual 153, 3) := by decide +kernel
theorem dX9_plan_4 : decode cX9_plan 4 = .ok (.aload_n 0, 1) := by decide +kernel
theorem dX9_plan_5 : decode cX9_plan 5 = .ok (.getfield 98, 3) := by decide +kernel
theorem dX9_plan_8 : decode cX9_plan 8 = .ok (.bipush (-9), 2) := by decide +kernel
theorem dX9_plan_10 : decode cX9_plan 10 = .ok (.if_icmp .eq 22, 3) := by decide +kernel
theorem dX9_plan_13 : decode cX9_plan 13 = .ok (.aload_n 0, 1) := by decide +kernel
theorem dX9_plan_14 : decode cX9_plan 14 = .ok (.aload_n 0, 1) := by decide +kernel
theorem dX9_plan_15 : decode cX9_plan 15 = .ok (.getfield 98, 3) := by decide +kernel
theorem dX9_plan_18 : decode cX9_plan 18 = .ok (.putfield 22, 3) := by decide +kernel
theorem dX9_plan_21 : decode cX9_plan 21 = .ok (.aload_n 0, 1) := by decide +kernel
theorem dX9_plan_22 : decode cX9_plan 22 = .ok (.aload_n 0, 1) := by decide +kernel
theorem dX9_plan_23 : decode cX9_plan 23 = .ok (.getfield 101, 3) := by decide +kernel
theorem dX9_plan_26 : decode cX9_plan 26 = .ok (.putfield 26, 3) := by decide +kernel
theorem dX9_plan_29 : decode cX9_plan 29 = .ok (.bipush (-2), 2) := by decide +kernel
theorem dX9_plan_31 : decode cX9_plan 31 = .ok (.ireturn, 1) := by decide +kernel
theorem dX9_plan_32 : decode cX9_plan 32 = .ok (.aload_n 0, 1) := by decide +kernel
theorem dX9_plan_33 : decode cX9_plan 33 = .ok (.invokevirtual 141, 3) := by decide +kernel
theorem dX9_plan_36 : decode cX9_plan 36 = .ok (.aload_n 0, 1) := by decide +kernel
theorem dX9_plan_37 : decode cX9_plan 37 = .ok (.getfield 7, 3) := by decide +kernel
theorem dX9_plan_40 : decode cX9_plan 40 = .ok (.bipush 49, 2) := by decide +kernel
theorem dX9_plan_42 : decode cX9_plan 42 = .ok (.aload_n 0, 1) := by decide +kernel
theorem dX9_plan_43 : decode cX9_plan 43 = .ok (.getfield 104, 3) := by decide +kernel
theorem dX9_plan_46 : decode cX9_plan 46 = .ok (.iastore, 1) := by decide +kernel
theorem dX9_plan_47 : decode cX9_plan 47 = .ok (.iconst 0, 1) := by decide +kernel
theorem dX9_plan_48 : decode cX9_plan 48 = .ok (.istore_n 1, 1) := by decide +kernel
theorem dX9_plan_49 : decode cX9_plan 49 = .ok (.iload_n 1, 1) := by decide +kernel
theorem dX9_plan_50 : decode cX9_plan 50 = .ok (.aload_n 0, 1) := by decide +kernel
theorem dX9_plan_51 : decode cX9_plan 51 = .ok (.getfield 104, 3) := by decide +kernel
theorem dX9_plan_54 : decode cX9_plan 54 = .ok (.if_icmp .ge 114, 3) := by decide +kernel
theorem dX9_plan_57 : decode cX9_plan 57 = .ok (.iconst 0, 1) := by decide +kernel
theorem dX9_plan_58 : decode cX9_plan 58 = .ok (.istore_n 2, 1) := by decide +kernel
theorem dX9_plan_59 : decode cX9_plan 59 = .ok (.iconst 0, 1) := by decide +kernel
theorem dX9_plan_60 : decode cX9_plan 60 = .ok (.istore_n 3, 1) := by decide +kernel
theorem dX9_plan_61 : decode cX9_plan 61 = .ok (.iload_n 3, 1) := by decide +kernel
theorem dX9_plan_62 : decode cX9_plan 62 = .ok (.aload_n 0, 1) := by decide +kernel
theorem dX9_plan_63 : decode cX9_plan 63 = .ok (.getfield 104, 3) := by decide +kernel
theorem dX9_plan_66 : decode cX9_plan 66 = .ok (.if_icmp .ge 60, 3) := by decide +kernel
theorem dX9_plan_69 : decode cX9_plan 69 = .ok (.iload_n 2, 1) := by decide +kernel
theorem dX9_plan_70 : decode cX9_plan 70 = .ok (.aload_n 0, 1) := by decide +kernel
theorem dX9_plan_71 : decode cX9_plan 71 = .ok (.getfield 29, 3) := by decide +kernel
theorem dX9_plan_74 : decode cX9_plan 74 = .ok (.iconst 3, 1) := by decide +kernel
theorem dX9_plan_75 : decode cX9_plan 75 = .ok (.iload_n 3, 1) := by decide +kernel
theorem dX9_plan_76 : decode cX9_plan 76 = .ok (.imul, 1) := by decide +kernel
theorem dX9_plan_77 : decode cX9_plan 77 = .ok (.iaload, 1) := by decide +kernel
theorem dX9_plan_78 : decode cX9_plan 78 = .ok (.aload_n 0, 1) := by decide +kernel
theorem dX9_plan_79 : decode cX9_plan 79 = .ok (.getfield 29, 3) := by decide +kernel
theorem dX9_plan_82 : decode cX9_plan 82 = .ok (.iconst 3, 1) := by decide +kernel
theorem dX9_plan_83 : decode cX9_plan 83 = .ok (.iload_n 1, 1) := by decide +kernel
theorem dX9_plan_84 : decode cX9_plan 84 = .ok (.imul, 1) := by decide +kernel
theorem dX9_plan_85 : decode cX9_plan 85 = .ok (.iaload, 1) := by decide +kernel
theorem dX9_plan_86 : decode cX9_plan 86 = .ok (.if_icmp .lt 27, 3) := by decide +kernel
theorem dX9_plan_89 : decode cX9_plan 89 = .ok (.aload_n 0, 1) := by decide +kernel
theorem dX9_plan_90 : decode cX9_plan 90 = .ok (.getfield 29, 3) := by decide +kernel
theorem dX9_plan_93 : decode cX9_plan 93 = .ok (.iconst 3, 1) := by decide +kernel
theorem dX9_plan_94 : decode cX9_plan 94 = .ok (.iload_n 3, 1) := by decide +kernel
theorem dX9_plan_95 : decode cX9_plan 95 = .ok (.imul, 1) := by decide +kernel
theorem dX9_plan_96 : decode cX9_plan 96 = .ok (.iaload, 1) := by decide +kernel
theorem dX9_plan_97 : decode cX9_plan 97 = .ok (.aload_n 0, 1) := by decide +kernel
theorem dX9_plan_98 : decode cX9_plan 98 = .ok (.getfield 29, 3) := by decide +kernel
theorem dX9_plan_101 : decode cX9_plan 101 = .ok (.iconst 3, 1) := by decide +kernel
theorem dX9_plan_102 : decode cX9_plan 102 = .ok (.iload_n 1, 1) := by decide +kernel
theorem dX9_plan_103 : decode cX9_plan 103 = .ok (.imul, 1) := by decide +kernel
theorem dX9_plan_104 : decode cX9_plan 104 = .ok (.iaload, 1) := by decide +kernel
theorem dX9_plan_105 : decode cX9_plan 105 = .ok (.if_icmp .ne 12, 3) := by decide +kernel
theorem dX9_plan_108 : decode cX9_plan 108 = .ok (.iload_n 3, 1) := by decide +kernel
theorem dX9_plan_109 : decode cX9_plan 109 = .ok (.iload_n 1, 1) := by decide +kernel
theorem dX9_plan_110 : decode cX9_plan 110 = .ok (.if_icmp .ge 7, 3) := by decide +kernel
theorem dX9_plan_113 : decode cX9_plan 113 = .ok (.iconst 1, 1) := by decide +kernel
theorem dX9_plan_114 : decode cX9_plan 114 = .ok (.goto 4, 3) := by decide +kernel
theorem dX9_plan_117 : decode cX9_plan 117 = .ok (.iconst 0, 1) := by decide +kernel
theorem dX9_plan_118 : decode cX9_plan 118 = .ok (.iadd, 1) := by decide +kernel
theorem dX9_plan_119 : decode cX9_plan 119 = .ok (.istore_n 2, 1) := by decide +kernel
theorem dX9_plan_120 : decode cX9_plan 120 = .ok (.iinc 3 1, 3) := by decide +kernel
theorem dX9_plan_123 : decode cX9_plan 123 = .ok (.goto (-62), 3) := by decide +kernel
theorem dX9_plan_126 : decode cX9_plan 126 = .ok (.iconst 0, 1) := by decide +kernel
theorem dX9_plan_127 : decode cX9_plan 127 = .ok (.istore_n 3, 1) := by decide +kernel
theorem dX9_plan_128 : decode cX9_plan 128 = .ok (.iload_n 3, 1) := by decide +kernel
theorem dX9_plan_129 : decode cX9_plan 129 = .ok (.iconst 3, 1) := by decide +kernel
theorem dX9_plan_130 : decode cX9_plan 130 = .ok (.if_icmp .ge 32, 3) := by decide +kernel
theorem dX9_plan_133 : decode cX9_plan 133 = .ok (.aload_n 0, 1) := by decide +kernel
theorem dX9_plan_134 : decode cX9_plan 134 = .ok (.getfield 7, 3) := by decide +kernel
theorem dX9_plan_137 : decode cX9_plan 137 = .ok (.bipush 50, 2) := by decide +kernel
theorem dX9_plan_139 : decode cX9_plan 139 = .ok (.iconst 3, 1) := by decide +kernel
theorem dX9_plan_140 : decode cX9_plan 140 = .ok (.iload_n 2, 1) := by decide +kernel
theorem dX9_plan_141 : decode cX9_plan 141 = .ok (.imul, 1) := by decide +kernel
theorem dX9_plan_142 : decode cX9_plan 142 = .ok (.iadd, 1) := by decide +kernel
theorem dX9_plan_143 : decode cX9_plan 143 = .ok (.iload_n 3, 1) := by decide +kernel
theorem dX9_plan_144 : decode cX9_plan 144 = .ok (.iadd, 1) := by decide +kernel
theorem dX9_plan_145 : decode cX9_plan 145 = .ok (.aload_n 0, 1) := by decide +kernel
theorem dX9_plan_146 : decode cX9_plan 146 = .ok (.getfield 29, 3) := by decide +kernel
theorem dX9_plan_149 : decode cX9_plan 149 = .ok (.iconst 3, 1) := by decide +kernel
theorem dX9_plan_150 : decode cX9_plan 150 = .ok (.iload_n 1, 1) := by decide +kernel
theorem dX9_plan_151 : decode cX9_plan 151 = .ok (.imul, 1) := by decide +kernel
theorem dX9_plan_152 : decode cX9_plan 152 = .ok (.iload_n 3, 1) := by decide +kernel
theorem dX9_plan_153 : decode cX9_plan 153 = .ok (.iadd, 1) := by decide +kernel
theorem dX9_plan_154 : decode cX9_plan 154 = .ok (.iaload, 1) := by decide +kernel
theorem dX9_plan_155 : decode cX9_plan 155 = .ok (.iastore, 1) := by decide +kernel
theorem dX9_plan_156 : decode cX9_plan 156 = .ok (.iinc 3 1, 3) := by decide +kernel
theorem dX9_plan_159 : decode cX9_plan 159 = .ok (.goto (-31), 3) := by decide +kernel
theorem dX9_plan_162 : decode cX9_plan 162 = .ok (.iinc 1 1, 3) := by decide +kernel
theorem dX9_plan_165 : decode cX9_plan 165 = .ok (.goto (-116), 3) := by decide +kernel
theorem dX9_plan_168 : decode cX9_plan 168 = .ok (.aload_n 0, 1) := by decide +kernel
theorem dX9_plan_169 : decode cX9_plan 169 = .ok (.getfield 104, 3) := by decide +kernel
theorem dX9_plan_172 : decode cX9_plan 172 = .ok (.ireturn, 1) := by decide +kernel
def k_X9_plan : List pEn := [oAload 0, oCallZ 1 F_X9_readText, oAload 0, oGet 9 15, oConst (-9), oCeq 16, oAload 0, oAload 0, oGet 9 15, oPut 9 7, oAload 0, oAload 0, oGet 9 16, oPut 9 8, oConst (-2), oIret, oAload 0, oCallZ 1 F_X9_remember, oAload 0, oGet 9 0, oConst (49), oAload 0, oGet 9 13, oIastN 49, oConst (0), oIstore 1, oIload 1, oAload 0, oGet 9 13, oCge 102, oConst (0), oIstore 2, oConst (0), oIstore 3, oIload 3, oAload 0, oGet 9 13, oCge 75, oIload 2, oAload 0, oGet 9 14, oConst (3), oIload 3, oMul, oIald, oAload 0, oGet 9 14, oConst (3), oIload 1, oMul, oIald, oClt 68, oAload 0, oGet 9 14, oConst (3), oIload 3, oMul, oIald, oAload 0, oGet 9 14, oConst (3), oIload 1, oMul, oIald, oCne 70, oIload 3, oIload 1, oCge 70, oConst (1), oGoto 71, oConst (0), oAdd, oIstore 2, oIinc 3 (1), oGoto 34, oConst (0), oIstore 3, oIload 3, oConst (3), oCge 100, oAload 0, oGet 9 0, oConst (50), oConst (3), oIload 2, oMul, oAdd, oIload 3, oAdd, oAload 0, oGet 9 14, oConst (3), oIload 1, oMul, oIload 3, oAdd, oIald, oIast, oIinc 3 (1), oGoto 77, oIinc 1 (1), oGoto 26, oAload 0, oGet 9 13, oIret]
def pc_X9_plan (i : Nat) : Nat := ([0, 1, 4, 5, 8, 10, 13, 14, 15, 18, 21, 22, 23, 26, 29, 31, 32, 33, 36, 37, 40, 42, 43, 46, 47, 48, 49, 50, 51, 54, 57, 58, 59, 60, 61, 62, 63, 66, 69, 70, 71, 74, 75, 76, 77, 78, 79, 82, 83, 84, 85, 86, 89, 90, 93, 94, 95, 96, 97, 98, 101, 102, 103, 104, 105, 108, 109, 110, 113, 114, 117, 118, 119, 120, 123, 126, 127, 128, 129, 130, 133, 134, 137, 139, 140, 141, 142, 143, 144, 145, 146, 149, 150, 151, 152, 153, 154, 155, 156, 159, 162, 165, 168, 169, 172] : List Nat).getD i 0
abbrev rm_X9_plan : Room := { frames := 4, cells := 0, slots := 0, locals := 87 }
theorem pl_X9_plan : pPlain yX9_plan 0 := by decide +kernel
set_option maxRecDepth 100000 in
set_option maxHeartbeats 4000000 in
theorem ok_k_X9_plan (l : Launch) : ∀ (i : Nat) (en : pEn), k_X9_plan[i]? = some en → EOK l cX9_plan yX9_plan.cls 4 ((some FieldType.int)) rm_X9_plan 0 pc_X9_plan i en := by
  refine allOK_at ?_
  refine And.intro (okAload_n dX9_plan_0 rfl rfl) ?_
  refine And.intro (okCallV (y := yX9_readText) (T := TX9) (oCallZ_is _ _ _) dX9_plan_1 rfl (ok_F_X9_readText l) rc_F_X9_readText rfl wm_4_33 wm_4_35 wp_22 wm_1_10 wm_4_36 pl_X9_readText (by decide)) ?_
  refine And.intro (okAload_n dX9_plan_4 rfl rfl) ?_
  refine And.intro (okGet (C := RX9) (T := TX9) (N := 22) dX9_plan_5 rfl rfl (by decide) inX9 wm_3_156) ?_
  refine And.intro (okBipush dX9_plan_8 rfl (by first | rfl | decide)) ?_
  refine And.intro (okCeq dX9_plan_10 rfl (by rfl)) ?_
  refine And.intro (okAload_n dX9_plan_13 rfl rfl) ?_
  refine And.intro (okAload_n dX9_plan_14 rfl rfl) ?_
  refine And.intro (okGet (C := RX9) (T := TX9) (N := 22) dX9_plan_15 rfl rfl (by decide) inX9 wm_3_156) ?_
  refine And.intro (okPut (C := RX9) (T := TX9) (N := 22) dX9_plan_18 rfl rfl (by decide) inX9 tyX9_ok nmX9 rfl rfl wm_3_148) ?_
  refine And.intro (okAload_n dX9_plan_21 rfl rfl) ?_
  refine And.intro (okAload_n dX9_plan_22 rfl rfl) ?_
  refine And.intro (okGet (C := RX9) (T := TX9) (N := 22) dX9_plan_23 rfl rfl (by decide) inX9 wm_3_157) ?_
  refine And.intro (okPut (C := RX9) (T := TX9) (N := 22) dX9_plan_26 rfl rfl (by decide) inX9 tyX9_ok nmX9 rfl rfl wm_3_149) ?_
  refine And.intro (okBipush dX9_plan_29 rfl (by first | rfl | decide)) ?_
  refine And.intro (okIret dX9_plan_31 rfl) ?_
  refine And.intro (okAload_n dX9_plan_32 rfl rfl) ?_
  refine And.intro (okCallV (y := yX9_remember) (T := TX9) (oCallZ_is _ _ _) dX9_plan_33 rfl (ok_F_X9_remember l) rc_F_X9_remember rfl wm_3_212 wm_3_214 wp_16 wm_1_10 wm_3_215 pl_X9_remember (by decide)) ?_
  refine And.intro (okAload_n dX9_plan_36 rfl rfl) ?_
  refine And.intro (okGet (C := RX9) (T := TX9) (N := 22) dX9_plan_37 rfl rfl (by decide) inX9 wm_3_141) ?_
  refine And.intro (okBipush dX9_plan_40 rfl (by first | rfl | decide)) ?_
  refine And.intro (okAload_n dX9_plan_42 rfl rfl) ?_
  refine And.intro (okGet (C := RX9) (T := TX9) (N := 22) dX9_plan_43 rfl rfl (by decide) inX9 wm_3_154) ?_
  refine And.intro (okIastN dX9_plan_46 rfl) ?_
  refine And.intro (okIconst dX9_plan_47 rfl (by first | rfl | decide)) ?_
  refine And.intro (okIstore_n dX9_plan_48 rfl rfl (by decide)) ?_
  refine And.intro (okIload_n dX9_plan_49 rfl rfl) ?_
  refine And.intro (okAload_n dX9_plan_50 rfl rfl) ?_
  refine And.intro (okGet (C := RX9) (T := TX9) (N := 22) dX9_plan_51 rfl rfl (by decide) inX9 wm_3_154) ?_
  refine And.intro (okCge dX9_plan_54 rfl (by rfl)) ?_
  refine And.intro (okIconst dX9_plan_57 rfl (by first | rfl | decide)) ?_
  refine And.intro (okIstore_n dX9_plan_58 rfl rfl (by decide)) ?_
  refine And.intro (okIconst dX9_plan_59 rfl (by first | rfl | decide)) ?_
  refine And.intro (okIstore_n dX9_plan_60 rfl rfl (by decide)) ?_
  refine And.intro (okIload_n dX9_plan_61 rfl rfl) ?_
  refine And.intro (okAload_n dX9_plan_62 rfl rfl) ?_
  refine And.intro (okGet (C := RX9) (T := TX9) (N := 22) dX9_plan_63 rfl rfl (by decide) inX9 wm_3_154) ?_
  refine And.intro (okCge dX9_plan_66 rfl (by rfl)) ?_
  refine And.intro (okIload_n dX9_plan_69 rfl rfl) ?_
  refine And.intro (okAload_n dX9_plan_70 rfl rfl) ?_
  refine And.intro (okGet (C := RX9) (T := TX9) (N := 22) dX9_plan_71 rfl rfl (by decide) inX9 wm_3_155) ?_
  refine And.intro (okIconst dX9_plan_74 rfl (by first | rfl | decide)) ?_
  refine And.intro (okIload_n dX9_plan_75 rfl rfl) ?_
  refine And.intro (okMul dX9_plan_76 rfl) ?_
  refine And.intro (okIald dX9_plan_77 rfl) ?_
  refine And.intro (okAload_n dX9_plan_78 rfl rfl) ?_
  refine And.intro (okGet (C := RX9) (T := TX9) (N := 22) dX9_plan_79 rfl rfl (by decide) inX9 wm_3_155) ?_
  refine And.intro (okIconst dX9_plan_82 rfl (by first | rfl | decide)) ?_
  refine And.intro (okIload_n dX9_plan_83 rfl rfl) ?_
  refine And.intro (okMul dX9_plan_84 rfl) ?_
  refine And.intro (okIald dX9_plan_85 rfl) ?_
  refine And.intro (okClt dX9_plan_86 rfl (by rfl)) ?_
  refine And.intro (okAload_n dX9_plan_89 rfl rfl) ?_
  refine And.intro (okGet (C := RX9) (T := TX9) (N := 22) dX9_plan_90 rfl rfl (by decide) inX9 wm_3_155) ?_
  refine And.intro (okIconst dX9_plan_93 rfl (by first | rfl | decide)) ?_
  refine And.intro (okIload_n dX9_plan_94 rfl rfl) ?_
  refine And.intro (okMul dX9_plan_95 rfl) ?_
  refine And.intro (okIald dX9_plan_96 rfl) ?_
  refine And.intro (okAload_n dX9_plan_97 rfl rfl) ?_
  refine And.intro (okGet (C := RX9) (T := TX9) (N := 22) dX9_plan_98 rfl rfl (by decide) inX9 wm_3_155) ?_
  refine And.intro (okIconst dX9_plan_101 rfl (by first | rfl | decide)) ?_
  refine And.intro (okIload_n dX9_plan_102 rfl rfl) ?_
  refine And.intro (okMul dX9_plan_103 rfl) ?_
  refine And.intro (okIald dX9_plan_104 rfl) ?_
  refine And.intro (okCne dX9_plan_105 rfl (by rfl)) ?_
  refine And.intro (okIload_n dX9_plan_108 rfl rfl) ?_
  refine And.intro (okIload_n dX9_plan_109 rfl rfl) ?_
  refine And.intro (okCge dX9_plan_110 rfl (by rfl)) ?_
  refine And.intro (okIconst dX9_plan_113 rfl (by first | rfl | decide)) ?_
  refine And.intro (okGoto dX9_plan_114 (by rfl)) ?_
  refine And.intro (okIconst dX9_plan_117 rfl (by first | rfl | decide)) ?_
  refine And.intro (okAdd dX9_plan_118 rfl) ?_
  refine And.intro (okIstore_n dX9_plan_119 rfl rfl (by decide)) ?_
  refine And.intro (okIinc dX9_plan_120 rfl (by first | rfl | decide) (by decide)) ?_
  refine And.intro (okGoto dX9_plan_123 (by rfl)) ?_
  refine And.intro (okIconst dX9_plan_126 rfl (by first | rfl | decide)) ?_
  refine And.intro (okIstore_n dX9_plan_127 rfl rfl (by decide)) ?_
  refine And.intro (okIload_n dX9_plan_128 rfl rfl) ?_
  refine And.intro (okIconst dX9_plan_129 rfl (by first | rfl | decide)) ?_
  refine And.intro (okCge dX9_plan_130 rfl (by rfl)) ?_
  refine And.intro (okAload_n dX9_plan_133 rfl rfl) ?_
  refine And.intro (okGet (C := RX9) (T := TX9) (N := 22) dX9_plan_134 rfl rfl (by decide) inX9 wm_3_141) ?_
  refine And.intro (okBipush dX9_plan_137 rfl (by first | rfl | decide)) ?_
  refine And.intro (okIconst dX9_plan_139 rfl (by first | rfl | decide)) ?_
  refine And.intro (okIload_n dX9_plan_140 rfl rfl) ?_
  refine And.intro (okMul dX9_plan_141 rfl) ?_
  refine And.intro (okAdd dX9_plan_142 rfl) ?_
  refine And.intro (okIload_n dX9_plan_143 rfl rfl) ?_
  refine And.intro (okAdd dX9_plan_144 rfl) ?_
  refine And.intro (okAload_n dX9_plan_145 rfl rfl) ?_
  refine And.intro (okGet (C := RX9) (T := TX9) (N := 22) dX9_plan_146 rfl rfl (by decide) inX9 wm_3_155) ?_
  refine And.intro (okIconst dX9_plan_149 rfl (by first | rfl | decide)) ?_
  refine And.intro (okIload_n dX9_plan_150 rfl rfl) ?_
  refine And.intro (okMul dX9_plan_151 rfl) ?_
  refine And.intro (okIload_n dX9_plan_152 rfl rfl) ?_
  refine And.intro (okAdd dX9_plan_153 rfl) ?_
  refine And.intro (okIald dX9_plan_154 rfl) ?_
  refine And.intro (okIast dX9_plan_155 rfl) ?_
  refine And.intro (okIinc dX9_plan_156 rfl (by first | rfl | decide) (by decide)) ?_
  refine And.intro (okGoto dX9_plan_159 (by rfl)) ?_
  refine And.intro (okIinc dX9_plan_162 rfl (by first | rfl | decide) (by decide)) ?_
  refine And.intro (okGoto dX9_plan_165 (by rfl)) ?_
  refine And.intro (okAload_n dX9_plan_168 rfl rfl) ?_
  refine And.intro (okGet (C := RX9) (T := TX9) (N := 22) dX9_plan_169 rfl rfl (by decide) inX9 wm_3_154) ?_
  refine And.intro (okIret dX9_plan_172 rfl) ?_
  exact trivial
set_option maxHeartbeats 1000000 in
theorem lp_plA (rg : pRg) (y : pLV) (n k : Nat) (hn : y 0 13 = nI n) (h20 : n ≤ 20) (hkn : k < n) (o : pOut) (hE : ∃ fu, ex k_X9_plan fu 75 [(3, .int (nI n)), (2, .int (nI (rkN (y 5) k n))), (1, .int (nI k)), (0, .ref 0)] [] (mdl y) rg = some o) : ∀ (d i : Nat), i + d = n → ∃ fu, ex k_X9_plan fu 34 [(3, .int (nI i)), (2, .int (nI (rkN (y 5) k i))), (1, .int (nI k)), (0, .ref 0)] [] (mdl y) rg = some o := by
  intro d
  induction d with
  | zero =>
    intro i hi
    obtain rfl : i = n := by omega
    obtain ⟨fu, hf⟩ := hE
    refine ⟨fu + 1, ?_⟩
    conv => lhs; whnf
    refine (pif_t (by rw [hn]; exact nI_le (Nat.le_refl _) (by omega))).trans ?_
    exact hf
  | succ d ih =>
    intro i hi
    obtain ⟨m0, hm⟩ := ih (i + 1) (by omega)
    by_cases h1 : y 5 (3 * i) < y 5 (3 * k)
    · have e1 : rkN (y 5) k (i + 1) = rkN (y 5) k i + 1 := congrArg (rkN (y 5) k i + ·) (if_pos h1)
      rw [e1] at hm
      refine ⟨m0 + 3, ?_⟩
      conv => lhs; whnf
      refine (pif_f (by rw [hn]; exact nI_ge (a := i) (b := n) (by omega) (by omega))).trans ?_
      conv => lhs; whnf
      rw [nI_3]
      refine (pif_f (nI_in (c := 3 * i) (N := 60) (by omega) (by omega))).trans ?_
      rw [nI_clamp (by omega : 3 * i < 2 ^ 31)]
      conv => lhs; whnf
      rw [nI_3]
      refine (pif_f (nI_in (c := 3 * k) (N := 60) (by omega) (by omega))).trans ?_
      rw [nI_clamp (by omega : 3 * k < 2 ^ 31)]
      conv => lhs; whnf
      refine (pif_t h1).trans ?_
      conv => lhs; whnf
      rw [nI_1, nI_1]
      exact hm
    · by_cases h2 : y 5 (3 * i) = y 5 (3 * k)
      · by_cases h3 : i < k
        · have e1 : rkN (y 5) k (i + 1) = rkN (y 5) k i + 1 := congrArg (rkN (y 5) k i + ·) ((if_neg h1).trans ((if_pos h2).trans (if_pos h3)))
          rw [e1] at hm
          refine ⟨m0 + 2, ?_⟩
          conv => lhs; whnf
          refine (pif_f (by rw [hn]; exact nI_ge (a := i) (b := n) (by omega) (by omega))).trans ?_
          conv => lhs; whnf
          rw [nI_3]
          refine (pif_f (nI_in (c := 3 * i) (N := 60) (by omega) (by omega))).trans ?_
          rw [nI_clamp (by omega : 3 * i < 2 ^ 31)]
          conv => lhs; whnf
          rw [nI_3]
          refine (pif_f (nI_in (c := 3 * k) (N := 60) (by omega) (by omega))).trans ?_
          rw [nI_clamp (by omega : 3 * k < 2 ^ 31)]
          conv => lhs; whnf
          refine (pif_f h1).trans ?_
          conv => lhs; whnf
          rw [nI_3]
          refine (pif_f (nI_in (c := 3 * i) (N := 60) (by omega) (by omega))).trans ?_
          rw [nI_clamp (by omega : 3 * i < 2 ^ 31)]
          conv => lhs; whnf
          rw [nI_3]
          refine (pif_f (nI_in (c := 3 * k) (N := 60) (by omega) (by omega))).trans ?_
          rw [nI_clamp (by omega : 3 * k < 2 ^ 31)]
          conv => lhs; whnf
          refine (pif_t h2).trans ?_
          conv => lhs; whnf
          refine (pif_f (nI_ge (a := i) (b := k) (by omega) (by omega))).trans ?_
          conv => lhs; whnf
          rw [nI_1, nI_1]
          exact hm
        · have e1 : rkN (y 5) k (i + 1) = rkN (y 5) k i := congrArg (rkN (y 5) k i + ·) ((if_neg h1).trans ((if_pos h2).trans (if_neg h3)))
          rw [e1] at hm
          refine ⟨m0 + 2, ?_⟩
          conv => lhs; whnf
          refine (pif_f (by rw [hn]; exact nI_ge (a := i) (b := n) (by omega) (by omega))).trans ?_
          conv => lhs; whnf
          rw [nI_3]
          refine (pif_f (nI_in (c := 3 * i) (N := 60) (by omega) (by omega))).trans ?_
          rw [nI_clamp (by omega : 3 * i < 2 ^ 31)]
          conv => lhs; whnf
          rw [nI_3]
          refine (pif_f (nI_in (c := 3 * k) (N := 60) (by omega) (by omega))).trans ?_
          rw [nI_clamp (by omega : 3 * k < 2 ^ 31)]
          conv => lhs; whnf
          refine (pif_f h1).trans ?_
          conv => lhs; whnf
          rw [nI_3]
          refine (pif_f (nI_in (c := 3 * i) (N := 60) (by omega) (by omega))).trans ?_
          rw [nI_clamp (by omega : 3 * i < 2 ^ 31)]
          conv => lhs; whnf
          rw [nI_3]
          refine (pif_f (nI_in (c := 3 * k) (N := 60) (by omega) (by omega))).trans ?_
          rw [nI_clamp (by omega : 3 * k < 2 ^ 31)]
          conv => lhs; whnf
          refine (pif_t h2).trans ?_
          conv => lhs; whnf
          refine (pif_t (nI_le (a := k) (b := i) (by omega) (by omega))).trans ?_
          conv => lhs; whnf
          rw [Int32.add_zero, nI_1]
          exact hm
      · have e1 : rkN (y 5) k (i + 1) = rkN (y 5) k i := congrArg (rkN (y 5) k i + ·) ((if_neg h1).trans (if_neg h2))
        rw [e1] at hm
        refine ⟨m0 + 2, ?_⟩
        conv => lhs; whnf
        refine (pif_f (by rw [hn]; exact nI_ge (a := i) (b := n) (by omega) (by omega))).trans ?_
        conv => lhs; whnf
        rw [nI_3]
        refine (pif_f (nI_in (c := 3 * i) (N := 60) (by omega) (by omega))).trans ?_
        rw [nI_clamp (by omega : 3 * i < 2 ^ 31)]
        conv => lhs; whnf
        rw [nI_3]
        refine (pif_f (nI_in (c := 3 * k) (N := 60) (by omega) (by omega))).trans ?_
        rw [nI_clamp (by omega : 3 * k < 2 ^ 31)]
        conv => lhs; whnf
        refine (pif_f h1).trans ?_
        conv => lhs; whnf
        rw [nI_3]
        refine (pif_f (nI_in (c := 3 * i) (N := 60) (by omega) (by omega))).trans ?_
        rw [nI_clamp (by omega : 3 * i < 2 ^ 31)]
        conv => lhs; whnf
        rw [nI_3]
        refine (pif_f (nI_in (c := 3 * k) (N := 60) (by omega) (by omega))).trans ?_
        rw [nI_clamp (by omega : 3 * k < 2 ^ 31)]
        conv => lhs; whnf
        refine (pif_f h2).trans ?_
        conv => lhs; whnf
        rw [Int32.add_zero, nI_1]
        exact hm
set_option maxHeartbeats 1000000 in
theorem lp_plB (rg : pRg) (y : pLV) (p k : Nat) (hp : p < 20) (hk : k < 20) (o : pOut) (hE : ∃ fu, ex k_X9_plan fu 26 [(1, .int (nI (k + 1))), (3, .int (nI 3)), (2, .int (nI p)), (0, .ref 0)] [] (mdl (plB p k y 3)) rg = some o) : ∀ (d q : Nat), q + d = 3 → ∃ fu, ex k_X9_plan fu 77 [(3, .int (nI q)), (2, .int (nI p)), (1, .int (nI k)), (0, .ref 0)] [] (mdl (plB p k y q)) rg = some o := by
  intro d
  induction d with
  | zero =>
    intro q hq
    obtain rfl : q = 3 := by omega
    obtain ⟨fu, hf⟩ := hE
    refine ⟨fu + 2, ?_⟩
    conv => lhs; whnf
    refine (pif_t (by decide)).trans ?_
    conv => lhs; whnf
    rw [nI_1]
    exact hf
  | succ d ih =>
    intro q hq
    obtain ⟨m0, hm⟩ := ih (q + 1) (by omega)
    refine ⟨m0 + 1, ?_⟩
    unfold plB at hm
    rw [← (plB_k p k y q).1] at hm
    conv => lhs; whnf
    refine (pif_f (nI_ge (a := q) (b := 3) (by omega) (by omega))).trans ?_
    conv => lhs; whnf
    rw [nI_3, nI_plus]
    refine (pif_f (nI_in (c := 3 * k + q) (N := 60) (by omega) (by omega))).trans ?_
    rw [nI_clamp (by omega : 3 * k + q < 2 ^ 31)]
    conv => lhs; whnf
    rw [nI_at, nI_plus]
    refine (pif_f (nI_in (c := 50 + 3 * p + q) (N := 110) (by omega) (by omega))).trans ?_
    rw [nI_clamp (by omega : 50 + 3 * p + q < 2 ^ 31)]
    conv => lhs; whnf
    rw [nI_1]
    exact hm
set_option maxHeartbeats 1000000 in
theorem lp_plO (rg : pRg) (x : pLV) (n : Nat) (hn : x 0 13 = nI n) (h20 : n ≤ 20) : ∀ (d k : Nat), k + d = n → ∀ ls0, (ls0 = [(1, .int (nI k)), (0, .ref 0)] ∨ ∃ z u, ls0 = [(1, .int (nI k)), (3, .int z), (2, .int u), (0, .ref 0)]) → ∃ fu, ex k_X9_plan fu 26 ls0 [] (mdl (plS n x k)) rg = some (some (.int (x 0 13)), mdl (plS n x n), rg) := by
  intro d
  induction d with
  | zero =>
    intro k hk ls0 hl
    obtain rfl : k = n := by omega
    rcases hl with rfl | ⟨z, u, rfl⟩
    · refine ⟨5, ?_⟩
      conv => lhs; whnf
      refine (pif_t (by rw [(plS_k k x k).2, hn]; exact nI_le (Nat.le_refl _) (by omega))).trans ?_
      conv => lhs; whnf
      rw [(plS_k k x k).2] <;> rfl
    · refine ⟨5, ?_⟩
      conv => lhs; whnf
      refine (pif_t (by rw [(plS_k k x k).2, hn]; exact nI_le (Nat.le_refl _) (by omega))).trans ?_
      conv => lhs; whnf
      rw [(plS_k k x k).2] <;> rfl
  | succ d ih =>
    intro k hk ls0 hl
    have hn' : plS n x k 0 13 = nI n := by rw [(plS_k n x k).2]; exact hn
    have hp : rkN (x 5) k n < 20 := by have := rkN_lt (x 5) k n (by omega); omega
    obtain ⟨f0, h0⟩ := ih (k + 1) (by omega) _ (Or.inr ⟨nI 3, nI (rkN (x 5) k n), rfl⟩)
    obtain ⟨f2, h2⟩ := lp_plB rg (plS n x k) (rkN (x 5) k n) k hp (by omega) _ ⟨f0, h0⟩ 3 0 (by omega)
    obtain ⟨f3, rfl⟩ := ex_pos h2
    have hE : ∃ fu, ex k_X9_plan fu 75 [(3, .int (nI n)), (2, .int (nI (rkN (plS n x k 5) k n))), (1, .int (nI k)), (0, .ref 0)] [] (mdl (plS n x k)) rg = some (some (.int (x 0 13)), mdl (plS n x n), rg) := by
      refine ⟨f3 + 1, ?_⟩
      rw [(plS_k n x k).1]
      conv at h2 => lhs; whnf
      conv => lhs; whnf
      exact h2
    have hA := lp_plA rg (plS n x k) n k hn' h20 (by omega) _ hE n 0 (by omega)
    rcases hl with rfl | ⟨z, u, rfl⟩
    · obtain ⟨fu, hf⟩ := hA
      obtain ⟨f1, rfl⟩ := ex_pos hf
      refine ⟨f1 + 1, ?_⟩
      conv => lhs; whnf
      refine (pif_f (by rw [(plS_k n x k).2, hn]; exact nI_ge (a := k) (b := n) (by omega) (by omega))).trans ?_
      conv at hf => lhs; whnf
      conv => lhs; whnf
      exact hf
    · obtain ⟨fu, hf⟩ := hA
      obtain ⟨f1, rfl⟩ := ex_pos hf
      refine ⟨f1 + 1, ?_⟩
      conv => lhs; whnf
      refine (pif_f (by rw [(plS_k n x k).2, hn]; exact nI_ge (a := k) (b := n) (by omega) (by omega))).trans ?_
      conv at hf => lhs; whnf
      conv => lhs; whnf
      exact hf
def G_X9_plan : pG := fun args w => match args with
  | [.ref 0] => unM w (fun m => pif (lOK m ∧ pOK m) (some (some (.int (plaR m)), mdl (plaM m))) none)
  | _ => none
set_option maxHeartbeats 400000 in
set_option maxRecDepth 100000 in
theorem run_X9_plan (rg : pRg) (m : pLV)  (hc : lOK m ∧ pOK m) : ∃ fu, ex k_X9_plan fu 0 [(0, .ref 0)] [] (mdl m) rg = some (some (.int (plaR m)), mdl (plaM m), rg) := by
  by_cases h : rtM m 0 15 = -9
  · obtain ⟨r0, r1⟩ := rtM_ok m
    have hn := nI_ofN r0
    obtain ⟨fu, hf⟩ := lp_plO rg (pl1 (rememM (NM (rtM m)))) (rtM m 0 13).toNatClampNeg (by
      have e : pl1 (rememM (NM (rtM m))) 0 13 = rtM m 0 13 := by
        show rememM (NM (rtM m)) 0 13 = _
        unfold rememM
        split <;> rfl
      rw [e]; exact hn) (clamp_b 20 (n := 20) rfl r1) (rtM m 0 13).toNatClampNeg 0 (by omega) _ (Or.inl rfl)
    obtain ⟨f1, rfl⟩ := ex_pos hf
    refine ⟨f1 + 2, ?_⟩
    have e13 : rememM (NM (rtM m)) 0 13 = rtM m 0 13 := by
      unfold rememM
      split <;> rfl
    rw [show plaR m = _ from if_pos h, show plaM m = _ from if_pos h]
    unfold plG
    rw [e13]
    have hp2 : pOK (NM (rtM m)) := by
      have e2 : rtM m 0 2 = m 0 2 := rtM_2 m
      unfold pOK
      show 0 ≤ rtM m 0 2 ∧ rtM m 0 2 ≤ 8
      rw [e2]; exact hc.2
    rw [show pl1 (rememM (NM (rtM m))) 0 13 = rtM m 0 13 from e13] at hf
    conv => lhs; whnf
    refine (callK_v (cl_X9_readText m rg hc.1) (by rfl)).trans ?_
    generalize hX : rtM (NM m) = X
    have hX2 : rtM m = X := (rtM_NM m).symm.trans hX
    rw [hX2] at h hf e13 hp2 ⊢
    clear hX hX2 hn r0 r1
    revert h hf e13 hp2
    revert X; refine id ?_; intro X y1 y2 y3 y4
    have h : X 0 15 = -9 := by assumption
    have e13 : rememM (NM X) 0 13 = X 0 13 := by assumption
    have hp2 : pOK (NM X) := by assumption
    rename (ex _ _ _ _ _ _ _ = some _) => hf
    conv => lhs; whnf
    refine (pif_t (h)).trans ?_
    conv => lhs; whnf
    refine (callK_v (cl_X9_remember X rg hp2) (by rfl)).trans ?_
    revert hf e13
    generalize rememM (NM X) = y
    revert y; refine id ?_; intro y hf e13
    conv at hf => lhs; whnf
    conv => lhs; whnf
    exact hf
  · refine ⟨15, ?_⟩
    rw [show plaR m = _ from if_neg h, show plaM m = _ from if_neg h]
    conv => lhs; whnf
    refine (callK_v (cl_X9_readText m rg hc.1) (by rfl)).trans ?_
    generalize hX : rtM (NM m) = X
    have hX2 : rtM m = X := (rtM_NM m).symm.trans hX
    rw [hX2] at h ⊢
    clear hX hX2
    revert h
    revert X; refine id ?_; intro X h
    conv => lhs; whnf
    refine (pif_f (h)).trans ?_
    rfl
theorem ct_X9_plan (l : Launch) : ∀ args0 w0 v0 w1 rg, G_X9_plan args0 w0 = some (v0, w1) → pCT l yX9_plan (pWs yX9_plan cX9_plan 4 ((some FieldType.int))) rm_X9_plan args0 w0 rg (v0, w1, rg) := by
  intro args0 w0 v0 w1 rg h
  unfold G_X9_plan at h
  split at h
  next  =>
    obtain ⟨m, hw, h2⟩ := unM_some h
    clear h
    subst hw
    by_cases hc : lOK m ∧ pOK m
    · have h2 := (pif_t hc).symm.trans h2
      cases h2
      exact met_of_exM (by decide) (ok_k_X9_plan l) rfl (run_X9_plan rg m  hc) (Nat.le_of_ble_eq_true rfl) rfl rfl
    · have h2 := (pif_f hc).symm.trans h2
      cases h2
  next => cases h
def F_X9_plan : pF := faN G_X9_plan
theorem ok_F_X9_plan (l : Launch) : pFOK l yX9_plan (pWs yX9_plan cX9_plan 4 ((some FieldType.int))) rm_X9_plan F_X9_plan := pFOK_fa (fun a b c d rg h => ct_X9_plan l a b c d rg h)
theorem rc_F_X9_plan : pRcv 9 F_X9_plan := pRcv_fa (fun a b c d h => by
  unfold G_X9_plan at h
  split at h
  next =>
    obtain ⟨m, rfl, h⟩ := unM_some h
    exact ⟨_, _, _, rfl, rfl⟩
  next => cases h)
theorem cl_X9_plan (m : pLV)  (rg : pRg) (hc : lOK (NM m) ∧ pOK (NM m)) : F_X9_plan [.ref 0] (mdl m) rg = some (some (.int (plaR (NM m))), mdl (plaM (NM m)), rg) := by
  have h : G_X9_plan [.ref 0] (mdl m) = some (some (.int (plaR (NM m))), mdl (plaM (NM m))) := pif_t hc
  unfold F_X9_plan faN
  rw [h]
end
