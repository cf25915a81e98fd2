noncomputable section
theorem nI_plus (a b : Nat) : nI a + nI b = nI (a + b) := (Int32.ofNat_add a b).symm
theorem nI_tim (a b : Nat) : nI a * nI b = nI (a * b) := (Int32.ofNat_mul a b).symm
theorem nI_at (k : Nat) : (50 : Int32) + 3 * nI k = nI (50 + 3 * k) := by
  rw [← nI_plus, ← nI_tim]; rfl
theorem nI_p1 (k : Nat) : nI k + 1 = nI (k + 1) := (nI_plus k 1)
theorem nI_p2 (k : Nat) : nI k + 2 = nI (k + 2) := (nI_plus k 2)
def ce1M (m : pLV) (k : Nat) : pLV := if m 1 (50 + 3 * k + 1) = 0 then bkM (NM m) (m 1 (50 + 3 * k + 2)) else if m 1 (50 + 3 * k + 1) = 1 then cgM (NM m) (m 1 (50 + 3 * k + 2)) else vA m 1 (upd (m 1) 2 (m 1 (50 + 3 * k + 2)))
def ceM (m : pLV) (k : Nat) : pLV := if m 1 (50 + 3 * k) = m 1 9 then ce1M m k else m
def coI : Nat → pLV → pLV
  | 0, m => m
  | k + 1, m => ceM (coI k m) k
theorem ceM_49 (m : pLV) (k : Nat) : ceM m k 1 49 = m 1 49 := by
  unfold ceM
  split
  · unfold ce1M
    split
    · rfl
    · split <;> rfl
  · rfl
theorem coI_49 : ∀ (k : Nat) (m : pLV), coI k m 1 49 = m 1 49
  | 0, _ => rfl
  | k + 1, m => (ceM_49 _ _).trans (coI_49 k m)
def cryM (m : pLV) : pLV := coI (m 1 49).toNatClampNeg m
theorem dX9_carryOut_0 : decode cX9_carryOut 0 = .ok (.iconst 0, 1) := by decide +kernel
theorem dX9_carryOut_1 : decode cX9_carryOut 1 = .ok (.istore_n 1, 1) := by decide +kernel
theorem dX9_carryOut_2 : decode cX9_carryOut 2 = .ok (.iload_n 1, 1) := by decide +kernel
theorem dX9_carryOut_3 : decode cX9_carryOut 3 = .ok (.aload_n 0, 1) := by decide +kernel
theorem dX9_carryOut_4 : decode cX9_carryOut 4 = .ok (.getfield 7, 3) := by decide +kernel
theorem dX9_carryOut_7 : decode cX9_carryOut 7 = .ok (.bipush 49, 2) := by decide +kernel
theorem dX9_carryOut_9 : decode cX9_carryOut 9 = .ok (.iaload, 1) := by decide +kernel
theorem dX9_carryOut_10 : decode cX9_carryOut 10 = .ok (.if_icmp .ge 99, 3) := by decide +kernel
theorem dX9_carryOut_13 : decode cX9_carryOut 13 = .ok (.bipush 50, 2) := by decide +kernel
theorem dX9_carryOut_15 : decode cX9_carryOut 15 = .ok (.iconst 3, 1) := by decide +kernel
theorem dX9_carryOut_16 : decode cX9_carryOut 16 = .ok (.iload_n 1, 1) := by decide +kernel
theorem dX9_carryOut_17 : decode cX9_carryOut 17 = .ok (.imul, 1) := by decide +kernel
theorem dX9_carryOut_18 : decode cX9_carryOut 18 = .ok (.iadd, 1) := by decide +kernel
theorem dX9_carryOut_19 : decode cX9_carryOut 19 = .ok (.istore_n 2, 1) := by decide +kernel
theorem dX9_carryOut_20 : decode cX9_carryOut 20 = .ok (.aload_n 0, 1) := by decide +kernel
theorem dX9_carryOut_21 : decode cX9_carryOut 21 = .ok (.getfield 7, 3) := by decide +kernel
theorem dX9_carryOut_24 : decode cX9_carryOut 24 = .ok (.iload_n 2, 1) := by decide +kernel
theorem dX9_carryOut_25 : decode cX9_carryOut 25 = .ok (.iaload, 1) := by decide +kernel
theorem dX9_carryOut_26 : decode cX9_carryOut 26 = .ok (.aload_n 0, 1) := by decide +kernel
theorem dX9_carryOut_27 : decode cX9_carryOut 27 = .ok (.getfield 7, 3) := by decide +kernel
theorem dX9_carryOut_30 : decode cX9_carryOut 30 = .ok (.bipush 9, 2) := by decide +kernel
theorem dX9_carryOut_32 : decode cX9_carryOut 32 = .ok (.iaload, 1) := by decide +kernel
theorem dX9_carryOut_33 : decode cX9_carryOut 33 = .ok (.if_icmp .ne 70, 3) := by decide +kernel
theorem dX9_carryOut_36 : decode cX9_carryOut 36 = .ok (.aload_n 0, 1) := by decide +kernel
theorem dX9_carryOut_37 : decode cX9_carryOut 37 = .ok (.getfield 7, 3) := by decide +kernel
theorem dX9_carryOut_40 : decode cX9_carryOut 40 = .ok (.iload_n 2, 1) := by decide +kernel
theorem dX9_carryOut_41 : decode cX9_carryOut 41 = .ok (.iconst 1, 1) := by decide +kernel
theorem dX9_carryOut_42 : decode cX9_carryOut 42 = .ok (.iadd, 1) := by decide +kernel
theorem dX9_carryOut_43 : decode cX9_carryOut 43 = .ok (.iaload, 1) := by decide +kernel
theorem dX9_carryOut_44 : decode cX9_carryOut 44 = .ok (.ifCond .ne 18, 3) := by decide +kernel
theorem dX9_carryOut_47 : decode cX9_carryOut 47 = .ok (.aload_n 0, 1) := by decide +kernel
theorem dX9_carryOut_48 : decode cX9_carryOut 48 = .ok (.aload_n 0, 1) := by decide +kernel
theorem dX9_carryOut_49 : decode cX9_carryOut 49 = .ok (.getfield 7, 3) := by decide +kernel
theorem dX9_carryOut_52 : decode cX9_carryOut 52 = .ok (.iload_n 2, 1) := by decide +kernel
theorem dX9_carryOut_53 : decode cX9_carryOut 53 = .ok (.iconst 2, 1) := by decide +kernel
theorem dX9_carryOut_54 : decode cX9_carryOut 54 = .ok (.iadd, 1) := by decide +kernel
theorem dX9_carryOut_55 : decode cX9_carryOut 55 = .ok (.iaload, 1) := by decide +kernel
theorem dX9_carryOut_56 : decode cX9_carryOut 56 = .ok (.invokevirtual 66, 3) := by decide +kernel
theorem dX9_carryOut_59 : decode cX9_carryOut 59 = .ok (.goto 44, 3) := by decide +kernel
theorem dX9_carryOut_62 : decode cX9_carryOut 62 = .ok (.aload_n 0, 1) := by decide +kernel
theorem dX9_carryOut_63 : decode cX9_carryOut 63 = .ok (.getfield 7, 3) := by decide +kernel
theorem dX9_carryOut_66 : decode cX9_carryOut 66 = .ok (.iload_n 2, 1) := by decide +kernel
theorem dX9_carryOut_67 : decode cX9_carryOut 67 = .ok (.iconst 1, 1) := by decide +kernel
theorem dX9_carryOut_68 : decode cX9_carryOut 68 = .ok (.iadd, 1) := by decide +kernel
theorem dX9_carryOut_69 : decode cX9_carryOut 69 = .ok (.iaload, 1) := by decide +kernel
theorem dX9_carryOut_70 : decode cX9_carryOut 70 = .ok (.iconst 1, 1) := by decide +kernel
theorem dX9_carryOut_71 : decode cX9_carryOut 71 = .ok (.if_icmp .ne 18, 3) := by decide +kernel
theorem dX9_carryOut_74 : decode cX9_carryOut 74 = .ok (.aload_n 0, 1) := by decide +kernel
theorem dX9_carryOut_75 : decode cX9_carryOut 75 = .ok (.aload_n 0, 1) := by decide +kernel
theorem dX9_carryOut_76 : decode cX9_carryOut 76 = .ok (.getfield 7, 3) := by decide +kernel
theorem dX9_carryOut_79 : decode cX9_carryOut 79 = .ok (.iload_n 2, 1) := by decide +kernel
theorem dX9_carryOut_80 : decode cX9_carryOut 80 = .ok (.iconst 2, 1) := by decide +kernel
theorem dX9_carryOut_81 : decode cX9_carryOut 81 = .ok (.iadd, 1) := by decide +kernel
theorem dX9_carryOut_82 : decode cX9_carryOut 82 = .ok (.iaload, 1) := by decide +kernel
theorem dX9_carryOut_83 : decode cX9_carryOut 83 = .ok (.invokevirtual 70, 3) := by decide +kernel
theorem dX9_carryOut_86 : decode cX9_carryOut 86 = .ok (.goto 17, 3) := by decide +kernel
theorem dX9_carryOut_89 : decode cX9_carryOut 89 = .ok (.aload_n 0, 1) := by decide +kernel
theorem dX9_carryOut_90 : decode cX9_carryOut 90 = .ok (.getfield 7, 3) := by decide +kernel
theorem dX9_carryOut_93 : decode cX9_carryOut 93 = .ok (.iconst 2, 1) := by decide +kernel
theorem dX9_carryOut_94 : decode cX9_carryOut 94 = .ok (.aload_n 0, 1) := by decide +kernel
theorem dX9_carryOut_95 : decode cX9_carryOut 95 = .ok (.getfield 7, 3) := by decide +kernel
theorem dX9_carryOut_98 : decode cX9_carryOut 98 = .ok (.iload_n 2, 1) := by decide +kernel
theorem dX9_carryOut_99 : decode cX9_carryOut 99 = .ok (.iconst 2, 1) := by decide +kernel
theorem dX9_carryOut_100 : decode cX9_carryOut 100 = .ok (.iadd, 1) := by decide +kernel
theorem dX9_carryOut_101 : decode cX9_carryOut 101 = .ok (.iaload, 1) := by decide +kernel
theorem dX9_carryOut_102 : decode cX9_carryOut 102 = .ok (.iastore, 1) := by decide +kernel
theorem dX9_carryOut_103 : decode cX9_carryOut 103 = .ok (.iinc 1 1, 3) := by decide +kernel
theorem dX9_carryOut_106 : decode cX9_carryOut 106 = .ok (.goto (-104), 3) := by decide +kernel
theorem dX9_carryOut_109 : decode cX9_carryOut 109 = .ok (.return_, 1) := by decide +kernel
def k_X9_carryOut : List pEn := [oConst (0), oIstore 1, oIload 1, oAload 0, oGet 9 0, oConst (49), oIaldN 49, oCge 68, oConst (50), oConst (3), oIload 1, oMul, oAdd, oIstore 2, oAload 0, oGet 9 0, oIload 2, oIald, oAload 0, oGet 9 0, oConst (9), oIaldN 9, oCne 66, oAload 0, oGet 9 0, oIload 2, oConst (1), oAdd, oIald, oIfne 39, oAload 0, oAload 0, oGet 9 0, oIload 2, oConst (2), oAdd, oIald, oCallZ 2 F_X9_breakSheet, oGoto 66, oAload 0, oGet 9 0, oIload 2, oConst (1), oAdd, oIald, oConst (1), oCne 56, oAload 0, oAload 0, oGet 9 0, oIload 2, oConst (2), oAdd, oIald, oCallZ 2 F_X9_changeGrade, oGoto 66, oAload 0, oGet 9 0, oConst (2), oAload 0, oGet 9 0, oIload 2, oConst (2), oAdd, oIald, oIastN 2, oIinc 1 (1), oGoto 2, oVret]
def pc_X9_carryOut (i : Nat) : Nat := ([0, 1, 2, 3, 4, 7, 9, 10, 13, 15, 16, 17, 18, 19, 20, 21, 24, 25, 26, 27, 30, 32, 33, 36, 37, 40, 41, 42, 43, 44, 47, 48, 49, 52, 53, 54, 55, 56, 59, 62, 63, 66, 67, 68, 69, 70, 71, 74, 75, 76, 79, 80, 81, 82, 83, 86, 89, 90, 93, 94, 95, 98, 99, 100, 101, 102, 103, 106, 109] : List Nat).getD i 0
abbrev rm_X9_carryOut : Room := { frames := 1, cells := 0, slots := 0, locals := 21 }
theorem pl_X9_carryOut : pPlain yX9_carryOut 0 := by decide +kernel
set_option maxRecDepth 100000 in
set_option maxHeartbeats 4000000 in
theorem ok_k_X9_carryOut (l : Launch) : ∀ (i : Nat) (en : pEn), k_X9_carryOut[i]? = some en → EOK l cX9_carryOut yX9_carryOut.cls 3 (none) rm_X9_carryOut 0 pc_X9_carryOut i en := by
  refine allOK_at ?_
  refine And.intro (okIconst dX9_carryOut_0 rfl (by first | rfl | decide)) ?_
  refine And.intro (okIstore_n dX9_carryOut_1 rfl rfl (by decide)) ?_
  refine And.intro (okIload_n dX9_carryOut_2 rfl rfl) ?_
  refine And.intro (okAload_n dX9_carryOut_3 rfl rfl) ?_
  refine And.intro (okGet (C := RX9) (T := TX9) (N := 22) dX9_carryOut_4 rfl rfl (by decide) inX9 wm_3_141) ?_
  refine And.intro (okBipush dX9_carryOut_7 rfl (by first | rfl | decide)) ?_
  refine And.intro (okIaldN dX9_carryOut_9 rfl) ?_
  refine And.intro (okCge dX9_carryOut_10 rfl (by rfl)) ?_
  refine And.intro (okBipush dX9_carryOut_13 rfl (by first | rfl | decide)) ?_
  refine And.intro (okIconst dX9_carryOut_15 rfl (by first | rfl | decide)) ?_
  refine And.intro (okIload_n dX9_carryOut_16 rfl rfl) ?_
  refine And.intro (okMul dX9_carryOut_17 rfl) ?_
  refine And.intro (okAdd dX9_carryOut_18 rfl) ?_
  refine And.intro (okIstore_n dX9_carryOut_19 rfl rfl (by decide)) ?_
  refine And.intro (okAload_n dX9_carryOut_20 rfl rfl) ?_
  refine And.intro (okGet (C := RX9) (T := TX9) (N := 22) dX9_carryOut_21 rfl rfl (by decide) inX9 wm_3_141) ?_
  refine And.intro (okIload_n dX9_carryOut_24 rfl rfl) ?_
  refine And.intro (okIald dX9_carryOut_25 rfl) ?_
  refine And.intro (okAload_n dX9_carryOut_26 rfl rfl) ?_
  refine And.intro (okGet (C := RX9) (T := TX9) (N := 22) dX9_carryOut_27 rfl rfl (by decide) inX9 wm_3_141) ?_
  refine And.intro (okBipush dX9_carryOut_30 rfl (by first | rfl | decide)) ?_
  refine And.intro (okIaldN dX9_carryOut_32 rfl) ?_
  refine And.intro (okCne dX9_carryOut_33 rfl (by rfl)) ?_
  refine And.intro (okAload_n dX9_carryOut_36 rfl rfl) ?_
  refine And.intro (okGet (C := RX9) (T := TX9) (N := 22) dX9_carryOut_37 rfl rfl (by decide) inX9 wm_3_141) ?_
  refine And.intro (okIload_n dX9_carryOut_40 rfl rfl) ?_
  refine And.intro (okIconst dX9_carryOut_41 rfl (by first | rfl | decide)) ?_
  refine And.intro (okAdd dX9_carryOut_42 rfl) ?_
  refine And.intro (okIald dX9_carryOut_43 rfl) ?_
  refine And.intro (okIfne dX9_carryOut_44 rfl (by rfl)) ?_
  refine And.intro (okAload_n dX9_carryOut_47 rfl rfl) ?_
  refine And.intro (okAload_n dX9_carryOut_48 rfl rfl) ?_
  refine And.intro (okGet (C := RX9) (T := TX9) (N := 22) dX9_carryOut_49 rfl rfl (by decide) inX9 wm_3_141) ?_
  refine And.intro (okIload_n dX9_carryOut_52 rfl rfl) ?_
  refine And.intro (okIconst dX9_carryOut_53 rfl (by first | rfl | decide)) ?_
  refine And.intro (okAdd dX9_carryOut_54 rfl) ?_
  refine And.intro (okIald dX9_carryOut_55 rfl) ?_
  refine And.intro (okCallV (y := yX9_breakSheet) (T := TX9) (oCallZ_is _ _ _) dX9_carryOut_56 rfl (ok_F_X9_breakSheet l) rc_F_X9_breakSheet rfl wm_3_230 wm_3_232 wp_17 wm_1_10 wm_3_233 pl_X9_breakSheet (by decide)) ?_
  refine And.intro (okGoto dX9_carryOut_59 (by rfl)) ?_
  refine And.intro (okAload_n dX9_carryOut_62 rfl rfl) ?_
  refine And.intro (okGet (C := RX9) (T := TX9) (N := 22) dX9_carryOut_63 rfl rfl (by decide) inX9 wm_3_141) ?_
  refine And.intro (okIload_n dX9_carryOut_66 rfl rfl) ?_
  refine And.intro (okIconst dX9_carryOut_67 rfl (by first | rfl | decide)) ?_
  refine And.intro (okAdd dX9_carryOut_68 rfl) ?_
  refine And.intro (okIald dX9_carryOut_69 rfl) ?_
  refine And.intro (okIconst dX9_carryOut_70 rfl (by first | rfl | decide)) ?_
  refine And.intro (okCne dX9_carryOut_71 rfl (by rfl)) ?_
  refine And.intro (okAload_n dX9_carryOut_74 rfl rfl) ?_
  refine And.intro (okAload_n dX9_carryOut_75 rfl rfl) ?_
  refine And.intro (okGet (C := RX9) (T := TX9) (N := 22) dX9_carryOut_76 rfl rfl (by decide) inX9 wm_3_141) ?_
  refine And.intro (okIload_n dX9_carryOut_79 rfl rfl) ?_
  refine And.intro (okIconst dX9_carryOut_80 rfl (by first | rfl | decide)) ?_
  refine And.intro (okAdd dX9_carryOut_81 rfl) ?_
  refine And.intro (okIald dX9_carryOut_82 rfl) ?_
  refine And.intro (okCallV (y := yX9_changeGrade) (T := TX9) (oCallZ_is _ _ _) dX9_carryOut_83 rfl (ok_F_X9_changeGrade l) rc_F_X9_changeGrade rfl wm_3_238 wm_4_0 wp_18 wm_1_10 wm_4_1 pl_X9_changeGrade (by decide)) ?_
  refine And.intro (okGoto dX9_carryOut_86 (by rfl)) ?_
  refine And.intro (okAload_n dX9_carryOut_89 rfl rfl) ?_
  refine And.intro (okGet (C := RX9) (T := TX9) (N := 22) dX9_carryOut_90 rfl rfl (by decide) inX9 wm_3_141) ?_
  refine And.intro (okIconst dX9_carryOut_93 rfl (by first | rfl | decide)) ?_
  refine And.intro (okAload_n dX9_carryOut_94 rfl rfl) ?_
  refine And.intro (okGet (C := RX9) (T := TX9) (N := 22) dX9_carryOut_95 rfl rfl (by decide) inX9 wm_3_141) ?_
  refine And.intro (okIload_n dX9_carryOut_98 rfl rfl) ?_
  refine And.intro (okIconst dX9_carryOut_99 rfl (by first | rfl | decide)) ?_
  refine And.intro (okAdd dX9_carryOut_100 rfl) ?_
  refine And.intro (okIald dX9_carryOut_101 rfl) ?_
  refine And.intro (okIastN dX9_carryOut_102 rfl) ?_
  refine And.intro (okIinc dX9_carryOut_103 rfl (by first | rfl | decide) (by decide)) ?_
  refine And.intro (okGoto dX9_carryOut_106 (by rfl)) ?_
  refine And.intro (okVret dX9_carryOut_109 rfl) ?_
  exact trivial
set_option maxHeartbeats 3000000 in
theorem lp_co (rg : pRg) (m : pLV) (hc : (m 1 49).toNatClampNeg ≤ 20) : ∀ (d k : Nat), k + d = (m 1 49).toNatClampNeg → ∃ fu, ∀ ls0, (ls0 = [(1, .int (nI k)), (0, .ref 0)] ∨ ∃ z, ls0 = [(1, .int (nI k)), (2, .int z), (0, .ref 0)]) → ex k_X9_carryOut fu 2 ls0 [] (mdl (coI k m)) rg = some (none, mdl (cryM m), rg) := by
  intro d
  induction d with
  | zero =>
    intro k hk
    obtain rfl : k = (m 1 49).toNatClampNeg := by omega
    refine ⟨5, ?_⟩
    intro ls0 hl
    rcases hl with rfl | ⟨z, rfl⟩
    · conv => lhs; whnf
      refine (pif_t (by rw [coI_49]; exact clamp_ge (Nat.le_refl _) (by omega))).trans ?_
      rfl
    · conv => lhs; whnf
      refine (pif_t (by rw [coI_49]; exact clamp_ge (Nat.le_refl _) (by omega))).trans ?_
      rfl
  | succ d ih =>
    intro k hk
    obtain ⟨fu, hm⟩ := ih (k + 1) (by omega)
    by_cases h : coI k m 1 (50 + 3 * k) = coI k m 1 9
    · have e1 : coI (k + 1) m = ce1M (coI k m) k := if_pos h
      by_cases h2 : coI k m 1 (50 + 3 * k + 1) = 0
      · have e2 : coI (k + 1) m = bkM (NM (coI k m)) (coI k m 1 (50 + 3 * k + 2)) := e1.trans (if_pos h2)
        rw [e2] at hm
        refine ⟨fu + 2, fun ls0 hl => ?_⟩
        rcases hl with rfl | ⟨z, rfl⟩
        · conv => lhs; whnf
          refine (pif_f (by rw [coI_49]; exact clamp_le (by omega))).trans ?_
          conv => lhs; whnf
          rw [nI_at]
          refine (pif_f (nI_in (c := 50 + 3 * k) (N := 110) (by omega) (by omega))).trans ?_
          rw [nI_clamp (by omega : 50 + 3 * k < 2 ^ 31)]
          conv => lhs; whnf
          refine (pif_t (h)).trans ?_
          conv => lhs; whnf
          rw [nI_p1]
          refine (pif_f (nI_in (c := 50 + 3 * k + 1) (N := 110) (by omega) (by omega))).trans ?_
          rw [nI_clamp (by omega : 50 + 3 * k + 1 < 2 ^ 31)]
          conv => lhs; whnf
          refine (pif_t (h2)).trans ?_
          conv => lhs; whnf
          rw [nI_p2]
          refine (pif_f (nI_in (c := 50 + 3 * k + 2) (N := 110) (by omega) (by omega))).trans ?_
          rw [nI_clamp (by omega : 50 + 3 * k + 2 < 2 ^ 31)]
          conv => lhs; whnf
          refine (callK_v (cl_X9_breakSheet (coI k m) (coI k m 1 (50 + 3 * k + 2)) rg) (by rfl)).trans ?_
          conv => lhs; whnf
          rw [nI_1]
          exact hm _ (Or.inr ⟨nI (50 + 3 * k), rfl⟩)
        · conv => lhs; whnf
          refine (pif_f (by rw [coI_49]; exact clamp_le (by omega))).trans ?_
          conv => lhs; whnf
          rw [nI_at]
          refine (pif_f (nI_in (c := 50 + 3 * k) (N := 110) (by omega) (by omega))).trans ?_
          rw [nI_clamp (by omega : 50 + 3 * k < 2 ^ 31)]
          conv => lhs; whnf
          refine (pif_t (h)).trans ?_
          conv => lhs; whnf
          rw [nI_p1]
          refine (pif_f (nI_in (c := 50 + 3 * k + 1) (N := 110) (by omega) (by omega))).trans ?_
          rw [nI_clamp (by omega : 50 + 3 * k + 1 < 2 ^ 31)]
          conv => lhs; whnf
          refine (pif_t (h2)).trans ?_
          conv => lhs; whnf
          rw [nI_p2]
          refine (pif_f (nI_in (c := 50 + 3 * k + 2) (N := 110) (by omega) (by omega))).trans ?_
          rw [nI_clamp (by omega : 50 + 3 * k + 2 < 2 ^ 31)]
          conv => lhs; whnf
          refine (callK_v (cl_X9_breakSheet (coI k m) (coI k m 1 (50 + 3 * k + 2)) rg) (by rfl)).trans ?_
          conv => lhs; whnf
          rw [nI_1]
          exact hm _ (Or.inr ⟨nI (50 + 3 * k), rfl⟩)
      · by_cases h3 : coI k m 1 (50 + 3 * k + 1) = 1
        · have e2 : coI (k + 1) m = cgM (NM (coI k m)) (coI k m 1 (50 + 3 * k + 2)) := e1.trans ((if_neg h2).trans (if_pos h3))
          rw [e2] at hm
          refine ⟨fu + 3, fun ls0 hl => ?_⟩
          rcases hl with rfl | ⟨z, rfl⟩
          · conv => lhs; whnf
            refine (pif_f (by rw [coI_49]; exact clamp_le (by omega))).trans ?_
            conv => lhs; whnf
            rw [nI_at]
            refine (pif_f (nI_in (c := 50 + 3 * k) (N := 110) (by omega) (by omega))).trans ?_
            rw [nI_clamp (by omega : 50 + 3 * k < 2 ^ 31)]
            conv => lhs; whnf
            refine (pif_t (h)).trans ?_
            conv => lhs; whnf
            rw [nI_p1]
            refine (pif_f (nI_in (c := 50 + 3 * k + 1) (N := 110) (by omega) (by omega))).trans ?_
            rw [nI_clamp (by omega : 50 + 3 * k + 1 < 2 ^ 31)]
            conv => lhs; whnf
            refine (pif_f (h2)).trans ?_
            conv => lhs; whnf
            rw [nI_p1]
            refine (pif_f (nI_in (c := 50 + 3 * k + 1) (N := 110) (by omega) (by omega))).trans ?_
            rw [nI_clamp (by omega : 50 + 3 * k + 1 < 2 ^ 31)]
            conv => lhs; whnf
            refine (pif_t (h3)).trans ?_
            conv => lhs; whnf
            rw [nI_p2]
            refine (pif_f (nI_in (c := 50 + 3 * k + 2) (N := 110) (by omega) (by omega))).trans ?_
            rw [nI_clamp (by omega : 50 + 3 * k + 2 < 2 ^ 31)]
            conv => lhs; whnf
            refine (callK_v (cl_X9_changeGrade (coI k m) (coI k m 1 (50 + 3 * k + 2)) rg) (by rfl)).trans ?_
            conv => lhs; whnf
            rw [nI_1]
            exact hm _ (Or.inr ⟨nI (50 + 3 * k), rfl⟩)
          · conv => lhs; whnf
            refine (pif_f (by rw [coI_49]; exact clamp_le (by omega))).trans ?_
            conv => lhs; whnf
            rw [nI_at]
            refine (pif_f (nI_in (c := 50 + 3 * k) (N := 110) (by omega) (by omega))).trans ?_
            rw [nI_clamp (by omega : 50 + 3 * k < 2 ^ 31)]
            conv => lhs; whnf
            refine (pif_t (h)).trans ?_
            conv => lhs; whnf
            rw [nI_p1]
            refine (pif_f (nI_in (c := 50 + 3 * k + 1) (N := 110) (by omega) (by omega))).trans ?_
            rw [nI_clamp (by omega : 50 + 3 * k + 1 < 2 ^ 31)]
            conv => lhs; whnf
            refine (pif_f (h2)).trans ?_
            conv => lhs; whnf
            rw [nI_p1]
            refine (pif_f (nI_in (c := 50 + 3 * k + 1) (N := 110) (by omega) (by omega))).trans ?_
            rw [nI_clamp (by omega : 50 + 3 * k + 1 < 2 ^ 31)]
            conv => lhs; whnf
            refine (pif_t (h3)).trans ?_
            conv => lhs; whnf
            rw [nI_p2]
            refine (pif_f (nI_in (c := 50 + 3 * k + 2) (N := 110) (by omega) (by omega))).trans ?_
            rw [nI_clamp (by omega : 50 + 3 * k + 2 < 2 ^ 31)]
            conv => lhs; whnf
            refine (callK_v (cl_X9_changeGrade (coI k m) (coI k m 1 (50 + 3 * k + 2)) rg) (by rfl)).trans ?_
            conv => lhs; whnf
            rw [nI_1]
            exact hm _ (Or.inr ⟨nI (50 + 3 * k), rfl⟩)
        · have e2 : coI (k + 1) m = vA (coI k m) 1 (upd (coI k m 1) 2 (coI k m 1 (50 + 3 * k + 2))) := e1.trans ((if_neg h2).trans (if_neg h3))
          rw [e2] at hm
          refine ⟨fu + 3, fun ls0 hl => ?_⟩
          rcases hl with rfl | ⟨z, rfl⟩
          · conv => lhs; whnf
            refine (pif_f (by rw [coI_49]; exact clamp_le (by omega))).trans ?_
            conv => lhs; whnf
            rw [nI_at]
            refine (pif_f (nI_in (c := 50 + 3 * k) (N := 110) (by omega) (by omega))).trans ?_
            rw [nI_clamp (by omega : 50 + 3 * k < 2 ^ 31)]
            conv => lhs; whnf
            refine (pif_t (h)).trans ?_
            conv => lhs; whnf
            rw [nI_p1]
            refine (pif_f (nI_in (c := 50 + 3 * k + 1) (N := 110) (by omega) (by omega))).trans ?_
            rw [nI_clamp (by omega : 50 + 3 * k + 1 < 2 ^ 31)]
            conv => lhs; whnf
            refine (pif_f (h2)).trans ?_
            conv => lhs; whnf
            rw [nI_p1]
            refine (pif_f (nI_in (c := 50 + 3 * k + 1) (N := 110) (by omega) (by omega))).trans ?_
            rw [nI_clamp (by omega : 50 + 3 * k + 1 < 2 ^ 31)]
            conv => lhs; whnf
            refine (pif_f (h3)).trans ?_
            conv => lhs; whnf
            rw [nI_p2]
            refine (pif_f (nI_in (c := 50 + 3 * k + 2) (N := 110) (by omega) (by omega))).trans ?_
            rw [nI_clamp (by omega : 50 + 3 * k + 2 < 2 ^ 31)]
            conv => lhs; whnf
            rw [nI_1]
            exact hm _ (Or.inr ⟨nI (50 + 3 * k), rfl⟩)
          · conv => lhs; whnf
            refine (pif_f (by rw [coI_49]; exact clamp_le (by omega))).trans ?_
            conv => lhs; whnf
            rw [nI_at]
            refine (pif_f (nI_in (c := 50 + 3 * k) (N := 110) (by omega) (by omega))).trans ?_
            rw [nI_clamp (by omega : 50 + 3 * k < 2 ^ 31)]
            conv => lhs; whnf
            refine (pif_t (h)).trans ?_
            conv => lhs; whnf
            rw [nI_p1]
            refine (pif_f (nI_in (c := 50 + 3 * k + 1) (N := 110) (by omega) (by omega))).trans ?_
            rw [nI_clamp (by omega : 50 + 3 * k + 1 < 2 ^ 31)]
            conv => lhs; whnf
            refine (pif_f (h2)).trans ?_
            conv => lhs; whnf
            rw [nI_p1]
            refine (pif_f (nI_in (c := 50 + 3 * k + 1) (N := 110) (by omega) (by omega))).trans ?_
            rw [nI_clamp (by omega : 50 + 3 * k + 1 < 2 ^ 31)]
            conv => lhs; whnf
            refine (pif_f (h3)).trans ?_
            conv => lhs; whnf
            rw [nI_p2]
            refine (pif_f (nI_in (c := 50 + 3 * k + 2) (N := 110) (by omega) (by omega))).trans ?_
            rw [nI_clamp (by omega : 50 + 3 * k + 2 < 2 ^ 31)]
            conv => lhs; whnf
            rw [nI_1]
            exact hm _ (Or.inr ⟨nI (50 + 3 * k), rfl⟩)
    · have e2 : coI (k + 1) m = coI k m := if_neg h
      rw [e2] at hm
      refine ⟨fu + 2, fun ls0 hl => ?_⟩
      rcases hl with rfl | ⟨z, rfl⟩
      · conv => lhs; whnf
        refine (pif_f (by rw [coI_49]; exact clamp_le (by omega))).trans ?_
        conv => lhs; whnf
        rw [nI_at]
        refine (pif_f (nI_in (c := 50 + 3 * k) (N := 110) (by omega) (by omega))).trans ?_
        rw [nI_clamp (by omega : 50 + 3 * k < 2 ^ 31)]
        conv => lhs; whnf
        refine (pif_f (h)).trans ?_
        conv => lhs; whnf
        rw [nI_1]
        exact hm _ (Or.inr ⟨nI (50 + 3 * k), rfl⟩)
      · conv => lhs; whnf
        refine (pif_f (by rw [coI_49]; exact clamp_le (by omega))).trans ?_
        conv => lhs; whnf
        rw [nI_at]
        refine (pif_f (nI_in (c := 50 + 3 * k) (N := 110) (by omega) (by omega))).trans ?_
        rw [nI_clamp (by omega : 50 + 3 * k < 2 ^ 31)]
        conv => lhs; whnf
        refine (pif_f (h)).trans ?_
        conv => lhs; whnf
        rw [nI_1]
        exact hm _ (Or.inr ⟨nI (50 + 3 * k), rfl⟩)
def G_X9_carryOut : pG := fun args w => match args with
  | [.ref 0] => unM w (fun m => pif ((m 1 49).toNatClampNeg ≤ 20) (some (none, mdl (cryM m))) none)
  | _ => none
set_option maxHeartbeats 400000 in
set_option maxRecDepth 100000 in
theorem run_X9_carryOut (rg : pRg) (m : pLV)  (hc : (m 1 49).toNatClampNeg ≤ 20) : ∃ fu, ex k_X9_carryOut fu 0 [(0, .ref 0)] [] (mdl m) rg = some (none, mdl (cryM m), rg) := by
  obtain ⟨fu, h⟩ := lp_co rg m hc (m 1 49).toNatClampNeg 0 (by omega)
  exact ex_at ⟨fu, h _ (Or.inl rfl)⟩ (fun _ => rfl)
theorem ct_X9_carryOut (l : Launch) : ∀ args0 w0 v0 w1 rg, G_X9_carryOut args0 w0 = some (v0, w1) → pCT l yX9_carryOut (pWs yX9_carryOut cX9_carryOut 3 (none)) rm_X9_carryOut args0 w0 rg (v0, w1, rg) := by
  intro args0 w0 v0 w1 rg h
  unfold G_X9_carryOut at h
  split at h
  next  =>
    obtain ⟨m, hw, h2⟩ := unM_some h
    clear h
    subst hw
    by_cases hc : (m 1 49).toNatClampNeg ≤ 20
    · have h2 := (pif_t hc).symm.trans h2
      cases h2
      exact met_of_exM (by decide) (ok_k_X9_carryOut l) rfl (run_X9_carryOut rg m  hc) (Nat.le_of_ble_eq_true rfl) rfl rfl
    · have h2 := (pif_f hc).symm.trans h2
      cases h2
  next => cases h
def F_X9_carryOut : pF := faN G_X9_carryOut
theorem ok_F_X9_carryOut (l : Launch) : pFOK l yX9_carryOut (pWs yX9_carryOut cX9_carryOut 3 (none)) rm_X9_carryOut F_X9_carryOut := pFOK_fa (fun a b c d rg h => ct_X9_carryOut l a b c d rg h)
theorem rc_F_X9_carryOut : pRcv 9 F_X9_carryOut := pRcv_fa (fun a b c d h => by
  unfold G_X9_carryOut at h
  split at h
  next =>
    obtain ⟨m, rfl, h⟩ := unM_some h
    exact ⟨_, _, _, rfl, rfl⟩
  next => cases h)
theorem cl_X9_carryOut (m : pLV)  (rg : pRg) (hc : ((NM m) 1 49).toNatClampNeg ≤ 20) : F_X9_carryOut [.ref 0] (mdl m) rg = some (none, mdl (cryM (NM m)), rg) := by
  have h : G_X9_carryOut [.ref 0] (mdl m) = some (none, mdl (cryM (NM m))) := pif_t hc
  unfold F_X9_carryOut faN
  rw [h]
end
