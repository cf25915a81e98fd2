noncomputable section
theorem dX6_readNumber_0 : decode cX6_readNumber 0 = .ok (.aload_n 0, 1) := by decide +kernel
theorem dX6_readNumber_1 : decode cX6_readNumber 1 = .ok (.getfield 25, 3) := by decide +kernel
theorem dX6_readNumber_4 : decode cX6_readNumber 4 = .ok (.istore 5, 2) := by decide +kernel
theorem dX6_readNumber_6 : decode cX6_readNumber 6 = .ok (.iconst 0, 1) := by decide +kernel
theorem dX6_readNumber_7 : decode cX6_readNumber 7 = .ok (.istore 6, 2) := by decide +kernel
theorem dX6_readNumber_9 : decode cX6_readNumber 9 = .ok (.aload_n 0, 1) := by decide +kernel
theorem dX6_readNumber_10 : decode cX6_readNumber 10 = .ok (.getfield 25, 3) := by decide +kernel
theorem dX6_readNumber_13 : decode cX6_readNumber 13 = .ok (.iload 5, 2) := by decide +kernel
theorem dX6_readNumber_15 : decode cX6_readNumber 15 = .ok (.iconst 4, 1) := by decide +kernel
theorem dX6_readNumber_16 : decode cX6_readNumber 16 = .ok (.iadd, 1) := by decide +kernel
theorem dX6_readNumber_17 : decode cX6_readNumber 17 = .ok (.if_icmp .ge 45, 3) := by decide +kernel
theorem dX6_readNumber_20 : decode cX6_readNumber 20 = .ok (.aload_n 0, 1) := by decide +kernel
theorem dX6_readNumber_21 : decode cX6_readNumber 21 = .ok (.aload_n 1, 1) := by decide +kernel
theorem dX6_readNumber_22 : decode cX6_readNumber 22 = .ok (.iload_n 2, 1) := by decide +kernel
theorem dX6_readNumber_23 : decode cX6_readNumber 23 = .ok (.invokevirtual 38, 3) := by decide +kernel
theorem dX6_readNumber_26 : decode cX6_readNumber 26 = .ok (.invokestatic 68, 3) := by decide +kernel
theorem dX6_readNumber_29 : decode cX6_readNumber 29 = .ok (.ifCond .eq 33, 3) := by decide +kernel
theorem dX6_readNumber_32 : decode cX6_readNumber 32 = .ok (.iload 6, 2) := by decide +kernel
theorem dX6_readNumber_34 : decode cX6_readNumber 34 = .ok (.bipush 10, 2) := by decide +kernel
theorem dX6_readNumber_36 : decode cX6_readNumber 36 = .ok (.imul, 1) := by decide +kernel
theorem dX6_readNumber_37 : decode cX6_readNumber 37 = .ok (.aload_n 0, 1) := by decide +kernel
theorem dX6_readNumber_38 : decode cX6_readNumber 38 = .ok (.aload_n 1, 1) := by decide +kernel
theorem dX6_readNumber_39 : decode cX6_readNumber 39 = .ok (.iload_n 2, 1) := by decide +kernel
theorem dX6_readNumber_40 : decode cX6_readNumber 40 = .ok (.invokevirtual 38, 3) := by decide +kernel
theorem dX6_readNumber_43 : decode cX6_readNumber 43 = .ok (.iadd, 1) := by decide +kernel
theorem dX6_readNumber_44 : decode cX6_readNumber 44 = .ok (.bipush 48, 2) := by decide +kernel
theorem dX6_readNumber_46 : decode cX6_readNumber 46 = .ok (.isub, 1) := by decide +kernel
theorem dX6_readNumber_47 : decode cX6_readNumber 47 = .ok (.istore 6, 2) := by decide +kernel
theorem dX6_readNumber_49 : decode cX6_readNumber 49 = .ok (.aload_n 0, 1) := by decide +kernel
theorem dX6_readNumber_50 : decode cX6_readNumber 50 = .ok (.dup, 1) := by decide +kernel
theorem dX6_readNumber_51 : decode cX6_readNumber 51 = .ok (.getfield 25, 3) := by decide +kernel
theorem dX6_readNumber_54 : decode cX6_readNumber 54 = .ok (.iconst 1, 1) := by decide +kernel
theorem dX6_readNumber_55 : decode cX6_readNumber 55 = .ok (.iadd, 1) := by decide +kernel
theorem dX6_readNumber_56 : decode cX6_readNumber 56 = .ok (.putfield 25, 3) := by decide +kernel
theorem dX6_readNumber_59 : decode cX6_readNumber 59 = .ok (.goto (-50), 3) := by decide +kernel
theorem dX6_readNumber_62 : decode cX6_readNumber 62 = .ok (.aload_n 0, 1) := by decide +kernel
theorem dX6_readNumber_63 : decode cX6_readNumber 63 = .ok (.getfield 25, 3) := by decide +kernel
theorem dX6_readNumber_66 : decode cX6_readNumber 66 = .ok (.iload 5, 2) := by decide +kernel
theorem dX6_readNumber_68 : decode cX6_readNumber 68 = .ok (.if_icmp .eq 15, 3) := by decide +kernel
theorem dX6_readNumber_71 : decode cX6_readNumber 71 = .ok (.aload_n 0, 1) := by decide +kernel
theorem dX6_readNumber_72 : decode cX6_readNumber 72 = .ok (.aload_n 1, 1) := by decide +kernel
theorem dX6_readNumber_73 : decode cX6_readNumber 73 = .ok (.iload_n 2, 1) := by decide +kernel
theorem dX6_readNumber_74 : decode cX6_readNumber 74 = .ok (.invokevirtual 38, 3) := by decide +kernel
theorem dX6_readNumber_77 : decode cX6_readNumber 77 = .ok (.invokestatic 68, 3) := by decide +kernel
theorem dX6_readNumber_80 : decode cX6_readNumber 80 = .ok (.ifCond .eq 11, 3) := by decide +kernel
theorem dX6_readNumber_83 : decode cX6_readNumber 83 = .ok (.aload_n 0, 1) := by decide +kernel
theorem dX6_readNumber_84 : decode cX6_readNumber 84 = .ok (.iload_n 2, 1) := by decide +kernel
theorem dX6_readNumber_85 : decode cX6_readNumber 85 = .ok (.invokevirtual 54, 3) := by decide +kernel
theorem dX6_readNumber_88 : decode cX6_readNumber 88 = .ok (.goto 23, 3) := by decide +kernel
theorem dX6_readNumber_91 : decode cX6_readNumber 91 = .ok (.iload 6, 2) := by decide +kernel
theorem dX6_readNumber_93 : decode cX6_readNumber 93 = .ok (.iload_n 3, 1) := by decide +kernel
theorem dX6_readNumber_94 : decode cX6_readNumber 94 = .ok (.if_icmp .lt 10, 3) := by decide +kernel
theorem dX6_readNumber_97 : decode cX6_readNumber 97 = .ok (.iload 6, 2) := by decide +kernel
theorem dX6_readNumber_99 : decode cX6_readNumber 99 = .ok (.iload 4, 2) := by decide +kernel
theorem dX6_readNumber_101 : decode cX6_readNumber 101 = .ok (.if_icmp .le 10, 3) := by decide +kernel
theorem dX6_readNumber_104 : decode cX6_readNumber 104 = .ok (.aload_n 0, 1) := by decide +kernel
theorem dX6_readNumber_105 : decode cX6_readNumber 105 = .ok (.iconst 2, 1) := by decide +kernel
theorem dX6_readNumber_106 : decode cX6_readNumber 106 = .ok (.iload 5, 2) := by decide +kernel
theorem dX6_readNumber_108 : decode cX6_readNumber 108 = .ok (.invokevirtual 46, 3) := by decide +kernel
theorem dX6_readNumber_111 : decode cX6_readNumber 111 = .ok (.iload 6, 2) := by decide +kernel
theorem dX6_readNumber_113 : decode cX6_readNumber 113 = .ok (.ireturn, 1) := by decide +kernel
def k_X6_readNumber : List pEn := [oAload 0, oGet 6 3, oIstore 5, oConst (0), oIstore 6, oAload 0, oGet 6 3, oIload 5, oConst (4), oAdd, oCge 35, oAload 0, oAload 1, oIload 2, oCallZ 3 F_X6_codeAt, oCall 1 F_X6_isDigit, oIfeq 35, oIload 6, oConst (10), oMul, oAload 0, oAload 1, oIload 2, oCallZ 3 F_X6_codeAt, oAdd, oConst (48), oSub, oIstore 6, oAload 0, oDup, oGet 6 3, oConst (1), oAdd, oPut 6 3, oGoto 5, oAload 0, oGet 6 3, oIload 5, oCeq 45, oAload 0, oAload 1, oIload 2, oCallZ 3 F_X6_codeAt, oCall 1 F_X6_isDigit, oIfeq 49, oAload 0, oIload 2, oCallZ 2 F_X6_noteWrongByte, oGoto 59, oIload 6, oIload 3, oClt 55, oIload 6, oIload 4, oCle 59, oAload 0, oConst (2), oIload 5, oCallZ 3 F_X6_note, oIload 6, oIret]
def pc_X6_readNumber (i : Nat) : Nat := ([0, 1, 4, 6, 7, 9, 10, 13, 15, 16, 17, 20, 21, 22, 23, 26, 29, 32, 34, 36, 37, 38, 39, 40, 43, 44, 46, 47, 49, 50, 51, 54, 55, 56, 59, 62, 63, 66, 68, 71, 72, 73, 74, 77, 80, 83, 84, 85, 88, 91, 93, 94, 97, 99, 101, 104, 105, 106, 108, 111, 113] : List Nat).getD i 0
abbrev rm_X6_readNumber : Room := { frames := 2, cells := 0, slots := 0, locals := 43 }
theorem pl_X6_readNumber : pPlain yX6_readNumber 4 := by decide +kernel
set_option maxRecDepth 100000 in
set_option maxHeartbeats 4000000 in
theorem ok_k_X6_readNumber (l : Launch) : ∀ (i : Nat) (en : pEn), k_X6_readNumber[i]? = some en → EOK l cX6_readNumber yX6_readNumber.cls 7 ((some FieldType.int)) rm_X6_readNumber 0 pc_X6_readNumber i en := by
  refine allOK_at ?_
  refine And.intro (okAload_n dX6_readNumber_0 rfl rfl) ?_
  refine And.intro (okGet (C := RX6) (T := TX6) (N := 4) dX6_readNumber_1 rfl rfl (by decide) inX6 wm_2_22) ?_
  refine And.intro (okIstore dX6_readNumber_4 rfl (by decide)) ?_
  refine And.intro (okIconst dX6_readNumber_6 rfl (by first | rfl | decide)) ?_
  refine And.intro (okIstore dX6_readNumber_7 rfl (by decide)) ?_
  refine And.intro (okAload_n dX6_readNumber_9 rfl rfl) ?_
  refine And.intro (okGet (C := RX6) (T := TX6) (N := 4) dX6_readNumber_10 rfl rfl (by decide) inX6 wm_2_22) ?_
  refine And.intro (okIload dX6_readNumber_13 rfl) ?_
  refine And.intro (okIconst dX6_readNumber_15 rfl (by first | rfl | decide)) ?_
  refine And.intro (okAdd dX6_readNumber_16 rfl) ?_
  refine And.intro (okCge dX6_readNumber_17 rfl (by rfl)) ?_
  refine And.intro (okAload_n dX6_readNumber_20 rfl rfl) ?_
  refine And.intro (okAload_n dX6_readNumber_21 rfl rfl) ?_
  refine And.intro (okIload_n dX6_readNumber_22 rfl rfl) ?_
  refine And.intro (okCallV (y := yX6_codeAt) (T := TX6) (oCallZ_is _ _ _) dX6_readNumber_23 rfl (ok_F_X6_codeAt l) rc_F_X6_codeAt rfl wm_2_168 wm_2_170 wp_1 wm_1_9 wm_2_171 pl_X6_codeAt (by decide)) ?_
  refine And.intro (okCallS (y := yX6_isDigit) (oCall_is _ _ _) dX6_readNumber_26 rfl (ok_F_X6_isDigit l) wm_2_187 wm_2_188 wm_1_9 wm_2_189 pl_X6_isDigit (by decide)) ?_
  refine And.intro (okIfeq dX6_readNumber_29 rfl (by rfl)) ?_
  refine And.intro (okIload dX6_readNumber_32 rfl) ?_
  refine And.intro (okBipush dX6_readNumber_34 rfl (by first | rfl | decide)) ?_
  refine And.intro (okMul dX6_readNumber_36 rfl) ?_
  refine And.intro (okAload_n dX6_readNumber_37 rfl rfl) ?_
  refine And.intro (okAload_n dX6_readNumber_38 rfl rfl) ?_
  refine And.intro (okIload_n dX6_readNumber_39 rfl rfl) ?_
  refine And.intro (okCallV (y := yX6_codeAt) (T := TX6) (oCallZ_is _ _ _) dX6_readNumber_40 rfl (ok_F_X6_codeAt l) rc_F_X6_codeAt rfl wm_2_168 wm_2_170 wp_1 wm_1_9 wm_2_171 pl_X6_codeAt (by decide)) ?_
  refine And.intro (okAdd dX6_readNumber_43 rfl) ?_
  refine And.intro (okBipush dX6_readNumber_44 rfl (by first | rfl | decide)) ?_
  refine And.intro (okSub dX6_readNumber_46 rfl) ?_
  refine And.intro (okIstore dX6_readNumber_47 rfl (by decide)) ?_
  refine And.intro (okAload_n dX6_readNumber_49 rfl rfl) ?_
  refine And.intro (okDup dX6_readNumber_50 rfl) ?_
  refine And.intro (okGet (C := RX6) (T := TX6) (N := 4) dX6_readNumber_51 rfl rfl (by decide) inX6 wm_2_22) ?_
  refine And.intro (okIconst dX6_readNumber_54 rfl (by first | rfl | decide)) ?_
  refine And.intro (okAdd dX6_readNumber_55 rfl) ?_
  refine And.intro (okPut (C := RX6) (T := TX6) (N := 4) dX6_readNumber_56 rfl rfl (by decide) inX6 tyX6_ok nmX6 rfl rfl wm_2_22) ?_
  refine And.intro (okGoto dX6_readNumber_59 (by rfl)) ?_
  refine And.intro (okAload_n dX6_readNumber_62 rfl rfl) ?_
  refine And.intro (okGet (C := RX6) (T := TX6) (N := 4) dX6_readNumber_63 rfl rfl (by decide) inX6 wm_2_22) ?_
  refine And.intro (okIload dX6_readNumber_66 rfl) ?_
  refine And.intro (okCeq dX6_readNumber_68 rfl (by rfl)) ?_
  refine And.intro (okAload_n dX6_readNumber_71 rfl rfl) ?_
  refine And.intro (okAload_n dX6_readNumber_72 rfl rfl) ?_
  refine And.intro (okIload_n dX6_readNumber_73 rfl rfl) ?_
  refine And.intro (okCallV (y := yX6_codeAt) (T := TX6) (oCallZ_is _ _ _) dX6_readNumber_74 rfl (ok_F_X6_codeAt l) rc_F_X6_codeAt rfl wm_2_168 wm_2_170 wp_1 wm_1_9 wm_2_171 pl_X6_codeAt (by decide)) ?_
  refine And.intro (okCallS (y := yX6_isDigit) (oCall_is _ _ _) dX6_readNumber_77 rfl (ok_F_X6_isDigit l) wm_2_187 wm_2_188 wm_1_9 wm_2_189 pl_X6_isDigit (by decide)) ?_
  refine And.intro (okIfeq dX6_readNumber_80 rfl (by rfl)) ?_
  refine And.intro (okAload_n dX6_readNumber_83 rfl rfl) ?_
  refine And.intro (okIload_n dX6_readNumber_84 rfl rfl) ?_
  refine And.intro (okCallV (y := yX6_noteWrongByte) (T := TX6) (oCallZ_is _ _ _) dX6_readNumber_85 rfl (ok_F_X6_noteWrongByte l) rc_F_X6_noteWrongByte rfl wm_2_190 wm_2_192 wp_5 wm_1_9 wm_2_193 pl_X6_noteWrongByte (by decide)) ?_
  refine And.intro (okGoto dX6_readNumber_88 (by rfl)) ?_
  refine And.intro (okIload dX6_readNumber_91 rfl) ?_
  refine And.intro (okIload_n dX6_readNumber_93 rfl rfl) ?_
  refine And.intro (okClt dX6_readNumber_94 rfl (by rfl)) ?_
  refine And.intro (okIload dX6_readNumber_97 rfl) ?_
  refine And.intro (okIload dX6_readNumber_99 rfl) ?_
  refine And.intro (okCle dX6_readNumber_101 rfl (by rfl)) ?_
  refine And.intro (okAload_n dX6_readNumber_104 rfl rfl) ?_
  refine And.intro (okIconst dX6_readNumber_105 rfl (by first | rfl | decide)) ?_
  refine And.intro (okIload dX6_readNumber_106 rfl) ?_
  refine And.intro (okCallV (y := yX6_note) (T := TX6) (oCallZ_is _ _ _) dX6_readNumber_108 rfl (ok_F_X6_note l) rc_F_X6_note rfl wm_2_179 wm_2_181 wp_3 wm_1_9 wm_2_182 pl_X6_note (by decide)) ?_
  refine And.intro (okIload dX6_readNumber_111 rfl) ?_
  refine And.intro (okIret dX6_readNumber_113 rfl) ?_
  exact trivial
theorem qW_at {r : pLV} {z : Int32} (h : r 0 2 = z) : qW (vS r 2 z) = qW r := by
  subst h
  rfl
/-- how far the digits go, d of them at the most -/
def dgA (t : Nat → Int32) (n : Nat) : Nat → Nat → Nat
  | 0, a => a
  | d + 1, a => if a < n then (if inI (t a) 48 57 = 0 then a else dgA t n d (a + 1)) else a
def dgV (t : Nat → Int32) (n : Nat) : Nat → Nat → Int32 → Int32
  | 0, _, v => v
  | d + 1, a, v => if a < n then (if inI (t a) 48 57 = 0 then v else dgV t n d (a + 1) (v * 10 + t a - 48)) else v
theorem dgA_b (t : Nat → Int32) (n : Nat) : ∀ d a, a ≤ n → a ≤ dgA t n d a ∧ dgA t n d a ≤ n ∧ dgA t n d a ≤ a + d
  | 0, a, h => ⟨Nat.le_refl _, h, Nat.le_refl _⟩
  | d + 1, a, h => by
    unfold dgA
    split
    · split
      · omega
      · have := dgA_b t n d (a + 1) (by omega)
        omega
    · omega
theorem nI_p4 (k : Nat) : nI k + 4 = nI (k + 4) := nI_plus k 4
theorem dg9 : inI (-9) 48 57 = 0 := by decide
set_option maxHeartbeats 1000000 in
theorem lp_dg (rg : pRg) (r : pLV) (n a0 : Nat) (hn : n ≤ 120) (ha0 : a0 ≤ 120) (lo hi : Int32) (o : pOut) : ∀ (d a : Nat) (v : Int32), a + d = a0 + 4 → a ≤ n → (∃ fu, ex k_X6_readNumber fu 35 [(6, .int (dgV (r 4) n d a v)), (5, .int (nI a0)), (0, .ref 0), (1, .ref 5), (2, .int (nI n)), (3, .int lo), (4, .int hi)] [] (qW (vS r 2 (nI (dgA (r 4) n d a)))) rg = some o) → ∃ fu, ex k_X6_readNumber fu 5 [(6, .int v), (5, .int (nI a0)), (0, .ref 0), (1, .ref 5), (2, .int (nI n)), (3, .int lo), (4, .int hi)] [] (qW (vS r 2 (nI a))) rg = some o := by
  intro d
  induction d with
  | zero =>
    intro a v ha han hE
    obtain ⟨fu, hf⟩ := hE
    refine ⟨fu + 1, ?_⟩
    have ha : a = a0 + 4 := ha
    have h1 : nI a0 + 4 ≤ nI a := by rw [nI_p4]; exact nI_le (a := a0 + 4) (b := a) (by omega) (by omega)
    conv => lhs; whnf
    refine (pif_t h1).trans ?_
    exact hf
  | succ d ih =>
    intro a v ha han hE
    have h1 : ¬ nI a0 + 4 ≤ nI a := by rw [nI_p4]; exact nI_ge (a := a) (b := a0 + 4) (by omega) (by omega)
    by_cases hlt : a < n
    · have hc : qCd (NQ (vS r 2 (nI a))) (nI n) = r 4 a := qCd_at (r := NQ (vS r 2 (nI a))) rfl hlt hn
      by_cases h : inI (r 4 a) 48 57 = 0
      · rw [show dgV (r 4) n (d + 1) a v = _ from (if_pos hlt).trans (if_pos h), show dgA (r 4) n (d + 1) a = _ from (if_pos hlt).trans (if_pos h)] at hE
        obtain ⟨fu, hf⟩ := hE
        refine ⟨fu + 1, ?_⟩
        conv => lhs; whnf
        refine (pif_f h1).trans ?_
        conv => lhs; whnf
        refine (callK_r (cl_X6_codeAt (vS r 2 (nI a)) (nI n) rg) (by rfl)).trans ?_
        rw [hc]
        conv => lhs; whnf
        refine (pif_t h).trans ?_
        exact hf
      · rw [show dgV (r 4) n (d + 1) a v = _ from (if_pos hlt).trans (if_neg h), show dgA (r 4) n (d + 1) a = _ from (if_pos hlt).trans (if_neg h)] at hE
        obtain ⟨fu, hf⟩ := ih (a + 1) (v * 10 + r 4 a - 48) (by omega) (by omega) hE
        refine ⟨fu + 1, ?_⟩
        conv => lhs; whnf
        refine (pif_f h1).trans ?_
        conv => lhs; whnf
        refine (callK_r (cl_X6_codeAt (vS r 2 (nI a)) (nI n) rg) (by rfl)).trans ?_
        rw [hc]
        conv => lhs; whnf
        refine (pif_f h).trans ?_
        conv => lhs; whnf
        refine (callK_r (cl_X6_codeAt (vS r 2 (nI a)) (nI n) rg) (by rfl)).trans ?_
        rw [hc]
        rw [← nI_1 a] at hf
        conv => lhs; whnf
        exact hf
    · rw [show dgV (r 4) n (d + 1) a v = _ from if_neg hlt, show dgA (r 4) n (d + 1) a = _ from if_neg hlt] at hE
      obtain ⟨fu, hf⟩ := hE
      have hc : qCd (NQ (vS r 2 (nI a))) (nI n) = -9 := qCd_end (r := NQ (vS r 2 (nI a))) (a := a) rfl (by omega) (by omega)
      refine ⟨fu + 1, ?_⟩
      conv => lhs; whnf
      refine (pif_f h1).trans ?_
      conv => lhs; whnf
      refine (callK_r (cl_X6_codeAt (vS r 2 (nI a)) (nI n) rg) (by rfl)).trans ?_
      rw [hc]
      conv => lhs; whnf
      refine (pif_t dg9).trans ?_
      exact hf
/-- what is noted of a number that is read -/
def qRt (r : pLV) (L first v lo hi : Int32) : pLV := if r 0 2 = first then qNw (NQ r) L else if inI (qCd r L) 48 57 = 0 then (if v < lo then qNt r 2 first else if v ≤ hi then r else qNt r 2 first) else qNw (NQ r) L
def qRn (r : pLV) (L lo hi : Int32) : pLV := qRt (vS r 2 (nI (dgA (r 4) L.toNatClampNeg 4 (r 0 2).toNatClampNeg))) L (r 0 2) (dgV (r 4) L.toNatClampNeg 4 (r 0 2).toNatClampNeg 0) lo hi
def qRv (r : pLV) (L : Int32) : Int32 := dgV (r 4) L.toNatClampNeg 4 (r 0 2).toNatClampNeg 0
set_option maxHeartbeats 1000000 in
theorem lp_qt (rg : pRg) (r : pLV) (L p v lo hi : Int32) : ex k_X6_readNumber 12 35 [(6, .int v), (5, .int p), (0, .ref 0), (1, .ref 5), (2, .int L), (3, .int lo), (4, .int hi)] [] (qW r) rg = some (some (.int v), qW (qRt r L p v lo hi), rg) := by
  conv => lhs; whnf
  refine pif_c (fun h0 => ?_) (fun h0 => ?_)
  · rw [show qRt r L p v lo hi = _ from if_pos h0]
    conv => lhs; whnf
    refine (callK_v (cl_X6_noteWrongByte r L rg) (by rfl)).trans ?_
    rfl
  · conv => lhs; whnf
    refine (callK_r (cl_X6_codeAt r L rg) (by rfl)).trans ?_
    rw [show qCd (NQ r) L = qCd r L from rfl]
    conv => lhs; whnf
    refine pif_c (fun h1 => ?_) (fun h1 => ?_)
    · conv => lhs; whnf
      refine pif_c (fun h2 => ?_) (fun h2 => ?_)
      · rw [show qRt r L p v lo hi = _ from (if_neg h0).trans ((if_pos h1).trans (if_pos h2))]
        conv => lhs; whnf
        refine (callK_v (cl_X6_note r 2 p rg) (by rfl)).trans ?_
        rfl
      · conv => lhs; whnf
        refine pif_c (fun h3 => ?_) (fun h3 => ?_)
        · rw [show qRt r L p v lo hi = _ from (if_neg h0).trans ((if_pos h1).trans ((if_neg h2).trans (if_pos h3)))]
          rfl
        · rw [show qRt r L p v lo hi = _ from (if_neg h0).trans ((if_pos h1).trans ((if_neg h2).trans (if_neg h3)))]
          conv => lhs; whnf
          refine (callK_v (cl_X6_note r 2 p rg) (by rfl)).trans ?_
          rfl
    · rw [show qRt r L p v lo hi = _ from (if_neg h0).trans (if_neg h1)]
      conv => lhs; whnf
      refine (callK_v (cl_X6_noteWrongByte r L rg) (by rfl)).trans ?_
      rfl
def G_X6_readNumber : pG := fun args w => match args with
  | [.ref 0, .ref 5, .int L, .int lo, .int hi] => unQ w (fun r => pif (qOK r L) (some (some (.int (qRv r L)), qW (qRn r L lo hi))) none)
  | _ => none
set_option maxHeartbeats 1000000 in
set_option maxRecDepth 100000 in
theorem run_X6_readNumber (rg : pRg) (r : pLV) (L lo hi : Int32) (hc : qOK r L) : ∃ fu, ex k_X6_readNumber fu 0 [(0, .ref 0), (1, .ref 5), (2, .int L), (3, .int lo), (4, .int hi)] [] (qW r) rg = some (some (.int (qRv r L)), qW (qRn r L lo hi), rg) := by
  obtain ⟨a, n, ha, rfl, han, hn⟩ := hc
  unfold qRn qRv
  rw [ha, nI_clamp (by omega), nI_clamp (by omega)]
  have ht := lp_qt rg (vS r 2 (nI (dgA (r 4) n 4 a))) (nI n) (nI a) (dgV (r 4) n 4 a 0) lo hi
  obtain ⟨fu, hf⟩ := lp_dg rg r n a hn (by omega) lo hi _ 4 a 0 rfl han ⟨12, ht⟩
  rw [qW_at ha] at hf
  obtain ⟨f1, rfl⟩ := ex_pos hf
  refine ⟨f1 + 1, ?_⟩
  conv at hf => lhs; whnf
  conv => lhs; whnf
  rw [ha] at hf ⊢
  exact hf
theorem ct_X6_readNumber (l : Launch) : ∀ args0 w0 v0 w1 rg, G_X6_readNumber args0 w0 = some (v0, w1) → pCT l yX6_readNumber (pWs yX6_readNumber cX6_readNumber 7 ((some FieldType.int))) rm_X6_readNumber args0 w0 rg (v0, w1, rg) := by
  intro args0 w0 v0 w1 rg h
  unfold G_X6_readNumber at h
  split at h
  next L lo hi =>
    obtain ⟨r, hw, h2⟩ := unQ_some h
    clear h
    subst hw
    by_cases hc : qOK r L
    · have h2 := (pif_t hc).symm.trans h2
      cases h2
      exact met_of_exQ (by decide) (ok_k_X6_readNumber l) rfl (run_X6_readNumber rg r L lo hi hc) (Nat.le_of_ble_eq_true rfl) rfl rfl
    · have h2 := (pif_f hc).symm.trans h2
      cases h2
  next => cases h
def F_X6_readNumber : pF := faN G_X6_readNumber
theorem ok_F_X6_readNumber (l : Launch) : pFOK l yX6_readNumber (pWs yX6_readNumber cX6_readNumber 7 ((some FieldType.int))) rm_X6_readNumber F_X6_readNumber := pFOK_fa (fun a b c d rg h => ct_X6_readNumber l a b c d rg h)
theorem rc_F_X6_readNumber : pRcv 6 F_X6_readNumber := pRcv_fa (fun a b c d h => by
  unfold G_X6_readNumber at h
  split at h
  next =>
    obtain ⟨m, rfl, h⟩ := unQ_some h
    exact ⟨_, _, _, rfl, rfl⟩
  next => cases h)
theorem cl_X6_readNumber (r : pLV) (L lo hi : Int32) (rg : pRg) (hc : qOK (NQ r) L) : F_X6_readNumber [.ref 0, .ref 5, .int L, .int lo, .int hi] (qW r) rg = some (some (.int (qRv (NQ r) L)), qW (qRn (NQ r) L lo hi), rg) := by
  have h : G_X6_readNumber [.ref 0, .ref 5, .int L, .int lo, .int hi] (qW r) = some (some (.int (qRv (NQ r) L)), qW (qRn (NQ r) L lo hi)) := pif_t hc
  unfold F_X6_readNumber faN
  rw [h]
end
