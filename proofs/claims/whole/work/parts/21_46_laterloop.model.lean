noncomputable section
def latQ (z : pLV) (p s mc bf q : Int32) : Int32 := if q = 0 then p - apM z else if q = 1 then s - z 1 32 else if q = 2 then mc else bf
def latZ (y : pLV) (q : Int32) : Int32 := latQ (restM (NM y)) (apM y) (y 1 32) (csM 3 y) (y 1 21) q
def latR (m : pLV) (n q : Int32) : Int32 := if inI n 1 300 = 0 then -1 else if inI q 0 3 = 0 then -1 else latZ (tmI n.toNatClampNeg (holdM (NM m))) q
def latM (m : pLV) (n q : Int32) : pLV := if inI n 1 300 = 0 then m else if inI q 0 3 = 0 then m else restM (NM (tmI n.toNatClampNeg (holdM (NM m))))
def latOK (m : pLV) (n q : Int32) : Prop := inI n 1 300 = 0 ∨ inI q 0 3 = 0 ∨ tksOK n.toNatClampNeg (holdM (NM m))
theorem dX9_later_0 : decode cX9_later 0 = .ok (.iload_n 1, 1) := by decide +kernel
theorem dX9_later_1 : decode cX9_later 1 = .ok (.iconst 1, 1) := by decide +kernel
theorem dX9_later_2 : decode cX9_later 2 = .ok (.sipush 300, 3) := by decide +kernel
theorem dX9_later_5 : decode cX9_later 5 = .ok (.invokestatic 41, 3) := by decide +kernel
theorem dX9_later_8 : decode cX9_later 8 = .ok (.ifCond .eq 12, 3) := by decide +kernel
theorem dX9_later_11 : decode cX9_later 11 = .ok (.iload_n 2, 1) := by decide +kernel
theorem dX9_later_12 : decode cX9_later 12 = .ok (.iconst 0, 1) := by decide +kernel
theorem dX9_later_13 : decode cX9_later 13 = .ok (.iconst 3, 1) := by decide +kernel
theorem dX9_later_14 : decode cX9_later 14 = .ok (.invokestatic 41, 3) := by decide +kernel
theorem dX9_later_17 : decode cX9_later 17 = .ok (.ifCond .ne 5, 3) := by decide +kernel
theorem dX9_later_20 : decode cX9_later 20 = .ok (.iconst (-1), 1) := by decide +kernel
theorem dX9_later_21 : decode cX9_later 21 = .ok (.ireturn, 1) := by decide +kernel
theorem dX9_later_22 : decode cX9_later 22 = .ok (.aload_n 0, 1) := by decide +kernel
theorem dX9_later_23 : decode cX9_later 23 = .ok (.invokevirtual 169, 3) := by decide +kernel
theorem dX9_later_26 : decode cX9_later 26 = .ok (.iconst 0, 1) := by decide +kernel
theorem dX9_later_27 : decode cX9_later 27 = .ok (.istore_n 3, 1) := by decide +kernel
theorem dX9_later_28 : decode cX9_later 28 = .ok (.iload_n 3, 1) := by decide +kernel
theorem dX9_later_29 : decode cX9_later 29 = .ok (.iload_n 1, 1) := by decide +kernel
theorem dX9_later_30 : decode cX9_later 30 = .ok (.if_icmp .ge 13, 3) := by decide +kernel
theorem dX9_later_33 : decode cX9_later 33 = .ok (.aload_n 0, 1) := by decide +kernel
theorem dX9_later_34 : decode cX9_later 34 = .ok (.invokevirtual 160, 3) := by decide +kernel
theorem dX9_later_37 : decode cX9_later 37 = .ok (.iinc 3 1, 3) := by decide +kernel
theorem dX9_later_40 : decode cX9_later 40 = .ok (.goto (-12), 3) := by decide +kernel
theorem dX9_later_43 : decode cX9_later 43 = .ok (.aload_n 0, 1) := by decide +kernel
theorem dX9_later_44 : decode cX9_later 44 = .ok (.invokevirtual 156, 3) := by decide +kernel
theorem dX9_later_47 : decode cX9_later 47 = .ok (.istore_n 3, 1) := by decide +kernel
theorem dX9_later_48 : decode cX9_later 48 = .ok (.aload_n 0, 1) := by decide +kernel
theorem dX9_later_49 : decode cX9_later 49 = .ok (.getfield 7, 3) := by decide +kernel
theorem dX9_later_52 : decode cX9_later 52 = .ok (.bipush 32, 2) := by decide +kernel
theorem dX9_later_54 : decode cX9_later 54 = .ok (.iaload, 1) := by decide +kernel
theorem dX9_later_55 : decode cX9_later 55 = .ok (.istore 4, 2) := by decide +kernel
theorem dX9_later_57 : decode cX9_later 57 = .ok (.aload_n 0, 1) := by decide +kernel
theorem dX9_later_58 : decode cX9_later 58 = .ok (.iconst 3, 1) := by decide +kernel
theorem dX9_later_59 : decode cX9_later 59 = .ok (.invokevirtual 77, 3) := by decide +kernel
theorem dX9_later_62 : decode cX9_later 62 = .ok (.istore 5, 2) := by decide +kernel
theorem dX9_later_64 : decode cX9_later 64 = .ok (.aload_n 0, 1) := by decide +kernel
theorem dX9_later_65 : decode cX9_later 65 = .ok (.getfield 7, 3) := by decide +kernel
theorem dX9_later_68 : decode cX9_later 68 = .ok (.bipush 21, 2) := by decide +kernel
theorem dX9_later_70 : decode cX9_later 70 = .ok (.iaload, 1) := by decide +kernel
theorem dX9_later_71 : decode cX9_later 71 = .ok (.istore 6, 2) := by decide +kernel
theorem dX9_later_73 : decode cX9_later 73 = .ok (.aload_n 0, 1) := by decide +kernel
theorem dX9_later_74 : decode cX9_later 74 = .ok (.invokevirtual 172, 3) := by decide +kernel
theorem dX9_later_77 : decode cX9_later 77 = .ok (.iload_n 2, 1) := by decide +kernel
theorem dX9_later_78 : decode cX9_later 78 = .ok (.ifCond .ne 12, 3) := by decide +kernel
theorem dX9_later_81 : decode cX9_later 81 = .ok (.iload_n 3, 1) := by decide +kernel
theorem dX9_later_82 : decode cX9_later 82 = .ok (.aload_n 0, 1) := by decide +kernel
theorem dX9_later_83 : decode cX9_later 83 = .ok (.invokevirtual 156, 3) := by decide +kernel
theorem dX9_later_86 : decode cX9_later 86 = .ok (.isub, 1) := by decide +kernel
theorem dX9_later_87 : decode cX9_later 87 = .ok (.goto 33, 3) := by decide +kernel
theorem dX9_later_90 : decode cX9_later 90 = .ok (.iload_n 2, 1) := by decide +kernel
theorem dX9_later_91 : decode cX9_later 91 = .ok (.iconst 1, 1) := by decide +kernel
theorem dX9_later_92 : decode cX9_later 92 = .ok (.if_icmp .ne 16, 3) := by decide +kernel
theorem dX9_later_95 : decode cX9_later 95 = .ok (.iload 4, 2) := by decide +kernel
theorem dX9_later_97 : decode cX9_later 97 = .ok (.aload_n 0, 1) := by decide +kernel
theorem dX9_later_98 : decode cX9_later 98 = .ok (.getfield 7, 3) := by decide +kernel
theorem dX9_later_101 : decode cX9_later 101 = .ok (.bipush 32, 2) := by decide +kernel
theorem dX9_later_103 : decode cX9_later 103 = .ok (.iaload, 1) := by decide +kernel
theorem dX9_later_104 : decode cX9_later 104 = .ok (.isub, 1) := by decide +kernel
theorem dX9_later_105 : decode cX9_later 105 = .ok (.goto 15, 3) := by decide +kernel
theorem dX9_later_108 : decode cX9_later 108 = .ok (.iload_n 2, 1) := by decide +kernel
theorem dX9_later_109 : decode cX9_later 109 = .ok (.iconst 2, 1) := by decide +kernel
theorem dX9_later_110 : decode cX9_later 110 = .ok (.if_icmp .ne 8, 3) := by decide +kernel
theorem dX9_later_113 : decode cX9_later 113 = .ok (.iload 5, 2) := by decide +kernel
theorem dX9_later_115 : decode cX9_later 115 = .ok (.goto 5, 3) := by decide +kernel
theorem dX9_later_118 : decode cX9_later 118 = .ok (.iload 6, 2) := by decide +kernel
theorem dX9_later_120 : decode cX9_later 120 = .ok (.ireturn, 1) := by decide +kernel
def k_X9_later : List pEn := [oIload 1, oConst (1), oConst (300), oCall 3 F_X9_isIn, oIfeq 10, oIload 2, oConst (0), oConst (3), oCall 3 F_X9_isIn, oIfne 12, oConst (-1), oIret, oAload 0, oCallZ 1 F_X9_hold, oConst (0), oIstore 3, oIload 3, oIload 1, oCge 23, oAload 0, oCallZ 1 F_X9_tick, oIinc 3 (1), oGoto 16, oAload 0, oCallZ 1 F_X9_allPaper, oIstore 3, oAload 0, oGet 9 0, oConst (32), oIaldN 32, oIstore 4, oAload 0, oConst (3), oCallZ 2 F_X9_consistency, oIstore 5, oAload 0, oGet 9 0, oConst (21), oIaldN 21, oIstore 6, oAload 0, oCallZ 1 F_X9_restore, oIload 2, oIfne 49, oIload 3, oAload 0, oCallZ 1 F_X9_allPaper, oSub, oGoto 65, oIload 2, oConst (1), oCne 59, oIload 4, oAload 0, oGet 9 0, oConst (32), oIaldN 32, oSub, oGoto 65, oIload 2, oConst (2), oCne 64, oIload 5, oGoto 65, oIload 6, oIret]
def pc_X9_later (i : Nat) : Nat := ([0, 1, 2, 5, 8, 11, 12, 13, 14, 17, 20, 21, 22, 23, 26, 27, 28, 29, 30, 33, 34, 37, 40, 43, 44, 47, 48, 49, 52, 54, 55, 57, 58, 59, 62, 64, 65, 68, 70, 71, 73, 74, 77, 78, 81, 82, 83, 86, 87, 90, 91, 92, 95, 97, 98, 101, 103, 104, 105, 108, 109, 110, 113, 115, 118, 120] : List Nat).getD i 0
abbrev rm_X9_later : Room := { frames := 5, cells := 0, slots := 0, locals := 120 }
theorem pl_X9_later : pPlain yX9_later 2 := by decide +kernel
set_option maxRecDepth 100000 in
set_option maxHeartbeats 4000000 in
theorem ok_k_X9_later (l : Launch) : ∀ (i : Nat) (en : pEn), k_X9_later[i]? = some en → EOK l cX9_later yX9_later.cls 7 ((some FieldType.int)) rm_X9_later 0 pc_X9_later i en := by
  refine allOK_at ?_
  refine And.intro (okIload_n dX9_later_0 rfl rfl) ?_
  refine And.intro (okIconst dX9_later_1 rfl (by first | rfl | decide)) ?_
  refine And.intro (okSipush dX9_later_2 rfl (by first | rfl | decide)) ?_
  refine And.intro (okCallS (y := yX9_isIn) (oCall_is _ _ _) dX9_later_5 rfl (ok_F_X9_isIn l) wm_3_223 wm_3_224 wm_1_10 wm_3_225 pl_X9_isIn (by decide)) ?_
  refine And.intro (okIfeq dX9_later_8 rfl (by rfl)) ?_
  refine And.intro (okIload_n dX9_later_11 rfl rfl) ?_
  refine And.intro (okIconst dX9_later_12 rfl (by first | rfl | decide)) ?_
  refine And.intro (okIconst dX9_later_13 rfl (by first | rfl | decide)) ?_
  refine And.intro (okCallS (y := yX9_isIn) (oCall_is _ _ _) dX9_later_14 rfl (ok_F_X9_isIn l) wm_3_223 wm_3_224 wm_1_10 wm_3_225 pl_X9_isIn (by decide)) ?_
  refine And.intro (okIfne dX9_later_17 rfl (by rfl)) ?_
  refine And.intro (okIconst dX9_later_20 rfl (by first | rfl | decide)) ?_
  refine And.intro (okIret dX9_later_21 rfl) ?_
  refine And.intro (okAload_n dX9_later_22 rfl rfl) ?_
  refine And.intro (okCallV (y := yX9_hold) (T := TX9) (oCallZ_is _ _ _) dX9_later_23 rfl (ok_F_X9_hold l) rc_F_X9_hold rfl wm_4_152 wm_4_154 wp_38 wm_1_10 wm_4_155 pl_X9_hold (by decide)) ?_
  refine And.intro (okIconst dX9_later_26 rfl (by first | rfl | decide)) ?_
  refine And.intro (okIstore_n dX9_later_27 rfl rfl (by decide)) ?_
  refine And.intro (okIload_n dX9_later_28 rfl rfl) ?_
  refine And.intro (okIload_n dX9_later_29 rfl rfl) ?_
  refine And.intro (okCge dX9_later_30 rfl (by rfl)) ?_
  refine And.intro (okAload_n dX9_later_33 rfl rfl) ?_
  refine And.intro (okCallV (y := yX9_tick) (T := TX9) (oCallZ_is _ _ _) dX9_later_34 rfl (ok_F_X9_tick l) rc_F_X9_tick rfl wm_4_68 wm_4_70 wp_29 wm_1_10 wm_4_71 pl_X9_tick (by decide)) ?_
  refine And.intro (okIinc dX9_later_37 rfl (by first | rfl | decide) (by decide)) ?_
  refine And.intro (okGoto dX9_later_40 (by rfl)) ?_
  refine And.intro (okAload_n dX9_later_43 rfl rfl) ?_
  refine And.intro (okCallV (y := yX9_allPaper) (T := TX9) (oCallZ_is _ _ _) dX9_later_44 rfl (ok_F_X9_allPaper l) rc_F_X9_allPaper rfl wm_4_64 wm_4_66 wp_28 wm_1_10 wm_4_67 pl_X9_allPaper (by decide)) ?_
  refine And.intro (okIstore_n dX9_later_47 rfl rfl (by decide)) ?_
  refine And.intro (okAload_n dX9_later_48 rfl rfl) ?_
  refine And.intro (okGet (C := RX9) (T := TX9) (N := 22) dX9_later_49 rfl rfl (by decide) inX9 wm_3_141) ?_
  refine And.intro (okBipush dX9_later_52 rfl (by first | rfl | decide)) ?_
  refine And.intro (okIaldN dX9_later_54 rfl) ?_
  refine And.intro (okIstore dX9_later_55 rfl (by decide)) ?_
  refine And.intro (okAload_n dX9_later_57 rfl rfl) ?_
  refine And.intro (okIconst dX9_later_58 rfl (by first | rfl | decide)) ?_
  refine And.intro (okCallV (y := yX9_consistency) (T := TX9) (oCallZ_is _ _ _) dX9_later_59 rfl (ok_F_X9_consistency l) rc_F_X9_consistency rfl wm_4_88 wm_4_90 wp_34 wm_1_10 wm_4_91 pl_X9_consistency (by decide)) ?_
  refine And.intro (okIstore dX9_later_62 rfl (by decide)) ?_
  refine And.intro (okAload_n dX9_later_64 rfl rfl) ?_
  refine And.intro (okGet (C := RX9) (T := TX9) (N := 22) dX9_later_65 rfl rfl (by decide) inX9 wm_3_141) ?_
  refine And.intro (okBipush dX9_later_68 rfl (by first | rfl | decide)) ?_
  refine And.intro (okIaldN dX9_later_70 rfl) ?_
  refine And.intro (okIstore dX9_later_71 rfl (by decide)) ?_
  refine And.intro (okAload_n dX9_later_73 rfl rfl) ?_
  refine And.intro (okCallV (y := yX9_restore) (T := TX9) (oCallZ_is _ _ _) dX9_later_74 rfl (ok_F_X9_restore l) rc_F_X9_restore rfl wm_4_156 wm_4_158 wp_39 wm_1_10 wm_4_159 pl_X9_restore (by decide)) ?_
  refine And.intro (okIload_n dX9_later_77 rfl rfl) ?_
  refine And.intro (okIfne dX9_later_78 rfl (by rfl)) ?_
  refine And.intro (okIload_n dX9_later_81 rfl rfl) ?_
  refine And.intro (okAload_n dX9_later_82 rfl rfl) ?_
  refine And.intro (okCallV (y := yX9_allPaper) (T := TX9) (oCallZ_is _ _ _) dX9_later_83 rfl (ok_F_X9_allPaper l) rc_F_X9_allPaper rfl wm_4_64 wm_4_66 wp_28 wm_1_10 wm_4_67 pl_X9_allPaper (by decide)) ?_
  refine And.intro (okSub dX9_later_86 rfl) ?_
  refine And.intro (okGoto dX9_later_87 (by rfl)) ?_
  refine And.intro (okIload_n dX9_later_90 rfl rfl) ?_
  refine And.intro (okIconst dX9_later_91 rfl (by first | rfl | decide)) ?_
  refine And.intro (okCne dX9_later_92 rfl (by rfl)) ?_
  refine And.intro (okIload dX9_later_95 rfl) ?_
  refine And.intro (okAload_n dX9_later_97 rfl rfl) ?_
  refine And.intro (okGet (C := RX9) (T := TX9) (N := 22) dX9_later_98 rfl rfl (by decide) inX9 wm_3_141) ?_
  refine And.intro (okBipush dX9_later_101 rfl (by first | rfl | decide)) ?_
  refine And.intro (okIaldN dX9_later_103 rfl) ?_
  refine And.intro (okSub dX9_later_104 rfl) ?_
  refine And.intro (okGoto dX9_later_105 (by rfl)) ?_
  refine And.intro (okIload_n dX9_later_108 rfl rfl) ?_
  refine And.intro (okIconst dX9_later_109 rfl (by first | rfl | decide)) ?_
  refine And.intro (okCne dX9_later_110 rfl (by rfl)) ?_
  refine And.intro (okIload dX9_later_113 rfl) ?_
  refine And.intro (okGoto dX9_later_115 (by rfl)) ?_
  refine And.intro (okIload dX9_later_118 rfl) ?_
  refine And.intro (okIret dX9_later_120 rfl) ?_
  exact trivial
set_option maxHeartbeats 400000 in
theorem lp_later (rg : pRg) (x : pLV) (n : Int32) (q : Int32) (hT : tksOK n.toNatClampNeg x) : ∀ (d k : Nat), k + d = n.toNatClampNeg → ∃ fu, ex k_X9_later fu 16 [(3, .int (nI k)), (0, .ref 0), (1, .int n), (2, .int q)] [] (mdl (tmI k x)) rg = some (some (.int (latZ (tmI n.toNatClampNeg x) q)), mdl (restM (NM (tmI n.toNatClampNeg x))), rg) := by
  intro d
  induction d with
  | zero =>
    intro k hk
    obtain rfl : k = n.toNatClampNeg := by omega
    refine ⟨15, ?_⟩
    conv => lhs; whnf
    refine (pif_t (clamp_ge (Nat.le_refl _) (clamp_lt n))).trans ?_
    generalize tmI n.toNatClampNeg x = y
    revert y; refine id ?_; intro y
    conv => lhs; whnf
    refine (callK_r (cl_X9_allPaper y rg) (by rfl)).trans ?_
    conv => lhs; whnf
    refine (callK_r (cl_X9_consistency3 y rg) (by rfl)).trans ?_
    conv => lhs; whnf
    refine (callK_v (cl_X9_restore y rg) (by rfl)).trans ?_
    unfold latZ
    rw [show apM (NM y) = apM y from rfl, show csM 3 (NM y) = csM 3 y from rfl]
    generalize apM y = p
    generalize csM 3 y = mc
    generalize restM (NM y) = z
    revert p mc z; refine id ?_; intro p mc z
    conv => lhs; whnf
    refine pif_c (fun g1 => ?_) (fun g1 => ?_)
    · rw [show latQ z p (y 1 32) mc (y 1 21) q = _ from if_pos g1]
      conv => lhs; whnf
      refine (callK_r (cl_X9_allPaper z rg) (by rfl)).trans ?_
      rfl
    · conv => lhs; whnf
      refine pif_c (fun g2 => ?_) (fun g2 => ?_)
      · rw [show latQ z p (y 1 32) mc (y 1 21) q = _ from (if_neg g1).trans (if_pos g2)] <;> rfl
      · conv => lhs; whnf
        refine pif_c (fun g3 => ?_) (fun g3 => ?_)
        · rw [show latQ z p (y 1 32) mc (y 1 21) q = _ from (if_neg g1).trans ((if_neg g2).trans (if_pos g3))] <;> rfl
        · rw [show latQ z p (y 1 32) mc (y 1 21) q = _ from (if_neg g1).trans ((if_neg g2).trans (if_neg g3))] <;> rfl
  | succ d ih =>
    intro k hk
    obtain ⟨m0, hm⟩ := ih (k + 1) (by omega)
    refine ⟨m0 + 1, ?_⟩
    conv => lhs; whnf
    refine (pif_f (clamp_le (by omega))).trans ?_
    conv => lhs; whnf
    refine (callK_v (cl_X9_tick (tmI k x) rg (hT k (by omega))) (by rfl)).trans ?_
    conv => lhs; whnf
    rw [nI_1]
    exact hm
def G_X9_later : pG := fun args w => match args with
  | [.ref 0, .int n, .int q] => unM w (fun m => pif (latOK m n q) (some (some (.int (latR m n q)), mdl (latM m n q))) none)
  | _ => none
set_option maxHeartbeats 400000 in
set_option maxRecDepth 100000 in
theorem run_X9_later (rg : pRg) (m : pLV) (n q : Int32) (hc : latOK m n q) : ∃ fu, ex k_X9_later fu 0 [(0, .ref 0), (1, .int n), (2, .int q)] [] (mdl m) rg = some (some (.int (latR m n q)), mdl (latM m n q), rg) := by
  by_cases h : inI n 1 300 = 0
  · refine ⟨5, ?_⟩
    rw [show latR m n q = _ from if_pos h, show latM m n q = _ from if_pos h]
    conv => lhs; whnf
    refine (pif_t (h)).trans ?_
    rfl
  · by_cases h2 : inI q 0 3 = 0
    · refine ⟨5, ?_⟩
      rw [show latR m n q = _ from (if_neg h).trans (if_pos h2), show latM m n q = _ from (if_neg h).trans (if_pos h2)]
      conv => lhs; whnf
      refine (pif_f (h)).trans ?_
      conv => lhs; whnf
      refine (pif_t (h2)).trans ?_
      rfl
    · have hT := (hc.resolve_left h).resolve_left h2
      obtain ⟨fu, hf⟩ := lp_later rg (holdM (NM m)) n q hT n.toNatClampNeg 0 (by omega)
      obtain ⟨f1, rfl⟩ := ex_pos hf
      refine ⟨f1 + 2, ?_⟩
      rw [show latR m n q = _ from (if_neg h).trans (if_neg h2), show latM m n q = _ from (if_neg h).trans (if_neg h2)]
      conv => lhs; whnf
      refine (pif_f (h)).trans ?_
      conv => lhs; whnf
      refine (pif_f (h2)).trans ?_
      conv => lhs; whnf
      refine (callK_v (cl_X9_hold m rg) (by rfl)).trans ?_
      clear hT hc
      revert hf
      generalize holdM (NM m) = x
      revert x; refine id ?_; intro x hf
      conv at hf => lhs; whnf
      conv => lhs; whnf
      exact hf
theorem ct_X9_later (l : Launch) : ∀ args0 w0 v0 w1 rg, G_X9_later args0 w0 = some (v0, w1) → pCT l yX9_later (pWs yX9_later cX9_later 7 ((some FieldType.int))) rm_X9_later args0 w0 rg (v0, w1, rg) := by
  intro args0 w0 v0 w1 rg h
  unfold G_X9_later at h
  split at h
  next n q =>
    obtain ⟨m, hw, h2⟩ := unM_some h
    clear h
    subst hw
    by_cases hc : latOK m n q
    · have h2 := (pif_t hc).symm.trans h2
      cases h2
      exact met_of_exM (by decide) (ok_k_X9_later l) rfl (run_X9_later rg m n q hc) (Nat.le_of_ble_eq_true rfl) rfl rfl
    · have h2 := (pif_f hc).symm.trans h2
      cases h2
  next => cases h
def F_X9_later : pF := faN G_X9_later
theorem ok_F_X9_later (l : Launch) : pFOK l yX9_later (pWs yX9_later cX9_later 7 ((some FieldType.int))) rm_X9_later F_X9_later := pFOK_fa (fun a b c d rg h => ct_X9_later l a b c d rg h)
theorem rc_F_X9_later : pRcv 9 F_X9_later := pRcv_fa (fun a b c d h => by
  unfold G_X9_later at h
  split at h
  next =>
    obtain ⟨m, rfl, h⟩ := unM_some h
    exact ⟨_, _, _, rfl, rfl⟩
  next => cases h)
theorem cl_X9_later (m : pLV) (n q : Int32) (rg : pRg) (hc : latOK (NM m) n q) : F_X9_later [.ref 0, .int n, .int q] (mdl m) rg = some (some (.int (latR (NM m) n q)), mdl (latM (NM m) n q), rg) := by
  have h : G_X9_later [.ref 0, .int n, .int q] (mdl m) = some (some (.int (latR (NM m) n q)), mdl (latM (NM m) n q)) := pif_t hc
  unfold F_X9_later faN
  rw [h]
end
