noncomputable section
def bl1 (x : pLV) (l : Int32) : pLV := vA x 1 (upd (x 1) 3 l)
def blS (n : Nat) (x : pLV) : Nat → pLV
  | 0 => x
  | j + 1 => restM (NM (tmI n (bl1 (blS n x j) (nI (50 * j)))))
def blP (n : Nat) (x : pLV) (j : Nat) : Int32 := apM (tmI n (bl1 (blS n x j) (nI (50 * j))))
def blT (n : Nat) (x : pLV) : Nat → Int32
  | 0 => -1
  | j + 1 => if blP n x j ≤ blT n x j then blT n x j else blP n x j
def blB (n : Nat) (x : pLV) : Nat → Int32
  | 0 => 0
  | j + 1 => if blP n x j ≤ blT n x j then blB n x j else nI (50 * j)
def blOK (n : Nat) (x : pLV) : Prop := ∀ j, j < 21 → tksOK n (bl1 (blS n x j) (nI (50 * j)))
def besR (m : pLV) (n : Int32) : Int32 := if inI n 1 100 = 0 then -1 else blB n.toNatClampNeg (holdM (NM m)) 21
def besM (m : pLV) (n : Int32) : pLV := if inI n 1 100 = 0 then m else blS n.toNatClampNeg (holdM (NM m)) 21
def besOK (m : pLV) (n : Int32) : Prop := inI n 1 100 = 0 ∨ blOK n.toNatClampNeg (holdM (NM m))
theorem dX9_bestLimit_0 : decode cX9_bestLimit 0 = .ok (.iload_n 1, 1) := by decide +kernel
theorem dX9_bestLimit_1 : decode cX9_bestLimit 1 = .ok (.iconst 1, 1) := by decide +kernel
theorem dX9_bestLimit_2 : decode cX9_bestLimit 2 = .ok (.bipush 100, 2) := by decide +kernel
theorem dX9_bestLimit_4 : decode cX9_bestLimit 4 = .ok (.invokestatic 41, 3) := by decide +kernel
theorem dX9_bestLimit_7 : decode cX9_bestLimit 7 = .ok (.ifCond .ne 5, 3) := by decide +kernel
theorem dX9_bestLimit_10 : decode cX9_bestLimit 10 = .ok (.iconst (-1), 1) := by decide +kernel
theorem dX9_bestLimit_11 : decode cX9_bestLimit 11 = .ok (.ireturn, 1) := by decide +kernel
theorem dX9_bestLimit_12 : decode cX9_bestLimit 12 = .ok (.iconst 0, 1) := by decide +kernel
theorem dX9_bestLimit_13 : decode cX9_bestLimit 13 = .ok (.istore_n 2, 1) := by decide +kernel
theorem dX9_bestLimit_14 : decode cX9_bestLimit 14 = .ok (.iconst (-1), 1) := by decide +kernel
theorem dX9_bestLimit_15 : decode cX9_bestLimit 15 = .ok (.istore_n 3, 1) := by decide +kernel
theorem dX9_bestLimit_16 : decode cX9_bestLimit 16 = .ok (.aload_n 0, 1) := by decide +kernel
theorem dX9_bestLimit_17 : decode cX9_bestLimit 17 = .ok (.invokevirtual 169, 3) := by decide +kernel
theorem dX9_bestLimit_20 : decode cX9_bestLimit 20 = .ok (.iconst 0, 1) := by decide +kernel
theorem dX9_bestLimit_21 : decode cX9_bestLimit 21 = .ok (.istore 4, 2) := by decide +kernel
theorem dX9_bestLimit_23 : decode cX9_bestLimit 23 = .ok (.iload 4, 2) := by decide +kernel
theorem dX9_bestLimit_25 : decode cX9_bestLimit 25 = .ok (.sipush 1000, 3) := by decide +kernel
theorem dX9_bestLimit_28 : decode cX9_bestLimit 28 = .ok (.if_icmp .gt 72, 3) := by decide +kernel
theorem dX9_bestLimit_31 : decode cX9_bestLimit 31 = .ok (.aload_n 0, 1) := by decide +kernel
theorem dX9_bestLimit_32 : decode cX9_bestLimit 32 = .ok (.getfield 7, 3) := by decide +kernel
theorem dX9_bestLimit_35 : decode cX9_bestLimit 35 = .ok (.iconst 3, 1) := by decide +kernel
theorem dX9_bestLimit_36 : decode cX9_bestLimit 36 = .ok (.iload 4, 2) := by decide +kernel
theorem dX9_bestLimit_38 : decode cX9_bestLimit 38 = .ok (.iastore, 1) := by decide +kernel
theorem dX9_bestLimit_39 : decode cX9_bestLimit 39 = .ok (.iconst 0, 1) := by decide +kernel
theorem dX9_bestLimit_40 : decode cX9_bestLimit 40 = .ok (.istore 5, 2) := by decide +kernel
theorem dX9_bestLimit_42 : decode cX9_bestLimit 42 = .ok (.iload 5, 2) := by decide +kernel
theorem dX9_bestLimit_44 : decode cX9_bestLimit 44 = .ok (.iload_n 1, 1) := by decide +kernel
theorem dX9_bestLimit_45 : decode cX9_bestLimit 45 = .ok (.if_icmp .ge 13, 3) := by decide +kernel
theorem dX9_bestLimit_48 : decode cX9_bestLimit 48 = .ok (.aload_n 0, 1) := by decide +kernel
theorem dX9_bestLimit_49 : decode cX9_bestLimit 49 = .ok (.invokevirtual 160, 3) := by decide +kernel
theorem dX9_bestLimit_52 : decode cX9_bestLimit 52 = .ok (.iinc 5 1, 3) := by decide +kernel
theorem dX9_bestLimit_55 : decode cX9_bestLimit 55 = .ok (.goto (-13), 3) := by decide +kernel
theorem dX9_bestLimit_58 : decode cX9_bestLimit 58 = .ok (.aload_n 0, 1) := by decide +kernel
theorem dX9_bestLimit_59 : decode cX9_bestLimit 59 = .ok (.invokevirtual 156, 3) := by decide +kernel
theorem dX9_bestLimit_62 : decode cX9_bestLimit 62 = .ok (.iload_n 3, 1) := by decide +kernel
theorem dX9_bestLimit_63 : decode cX9_bestLimit 63 = .ok (.if_icmp .le 8, 3) := by decide +kernel
theorem dX9_bestLimit_66 : decode cX9_bestLimit 66 = .ok (.iload 4, 2) := by decide +kernel
theorem dX9_bestLimit_68 : decode cX9_bestLimit 68 = .ok (.goto 4, 3) := by decide +kernel
theorem dX9_bestLimit_71 : decode cX9_bestLimit 71 = .ok (.iload_n 2, 1) := by decide +kernel
theorem dX9_bestLimit_72 : decode cX9_bestLimit 72 = .ok (.istore_n 2, 1) := by decide +kernel
theorem dX9_bestLimit_73 : decode cX9_bestLimit 73 = .ok (.aload_n 0, 1) := by decide +kernel
theorem dX9_bestLimit_74 : decode cX9_bestLimit 74 = .ok (.invokevirtual 156, 3) := by decide +kernel
theorem dX9_bestLimit_77 : decode cX9_bestLimit 77 = .ok (.iload_n 3, 1) := by decide +kernel
theorem dX9_bestLimit_78 : decode cX9_bestLimit 78 = .ok (.if_icmp .le 10, 3) := by decide +kernel
theorem dX9_bestLimit_81 : decode cX9_bestLimit 81 = .ok (.aload_n 0, 1) := by decide +kernel
theorem dX9_bestLimit_82 : decode cX9_bestLimit 82 = .ok (.invokevirtual 156, 3) := by decide +kernel
theorem dX9_bestLimit_85 : decode cX9_bestLimit 85 = .ok (.goto 4, 3) := by decide +kernel
theorem dX9_bestLimit_88 : decode cX9_bestLimit 88 = .ok (.iload_n 3, 1) := by decide +kernel
theorem dX9_bestLimit_89 : decode cX9_bestLimit 89 = .ok (.istore_n 3, 1) := by decide +kernel
theorem dX9_bestLimit_90 : decode cX9_bestLimit 90 = .ok (.aload_n 0, 1) := by decide +kernel
theorem dX9_bestLimit_91 : decode cX9_bestLimit 91 = .ok (.invokevirtual 172, 3) := by decide +kernel
theorem dX9_bestLimit_94 : decode cX9_bestLimit 94 = .ok (.iinc 4 50, 3) := by decide +kernel
theorem dX9_bestLimit_97 : decode cX9_bestLimit 97 = .ok (.goto (-74), 3) := by decide +kernel
theorem dX9_bestLimit_100 : decode cX9_bestLimit 100 = .ok (.iload_n 2, 1) := by decide +kernel
theorem dX9_bestLimit_101 : decode cX9_bestLimit 101 = .ok (.ireturn, 1) := by decide +kernel
def k_X9_bestLimit : List pEn := [oIload 1, oConst (1), oConst (100), oCall 3 F_X9_isIn, oIfne 7, oConst (-1), oIret, oConst (0), oIstore 2, oConst (-1), oIstore 3, oAload 0, oCallZ 1 F_X9_hold, oConst (0), oIstore 4, oIload 4, oConst (1000), oCgt 53, oAload 0, oGet 9 0, oConst (3), oIload 4, oIastN 3, oConst (0), oIstore 5, oIload 5, oIload 1, oCge 32, oAload 0, oCallZ 1 F_X9_tick, oIinc 5 (1), oGoto 25, oAload 0, oCallZ 1 F_X9_allPaper, oIload 3, oCle 38, oIload 4, oGoto 39, oIload 2, oIstore 2, oAload 0, oCallZ 1 F_X9_allPaper, oIload 3, oCle 47, oAload 0, oCallZ 1 F_X9_allPaper, oGoto 48, oIload 3, oIstore 3, oAload 0, oCallZ 1 F_X9_restore, oIinc 4 (50), oGoto 15, oIload 2, oIret]
def pc_X9_bestLimit (i : Nat) : Nat := ([0, 1, 2, 4, 7, 10, 11, 12, 13, 14, 15, 16, 17, 20, 21, 23, 25, 28, 31, 32, 35, 36, 38, 39, 40, 42, 44, 45, 48, 49, 52, 55, 58, 59, 62, 63, 66, 68, 71, 72, 73, 74, 77, 78, 81, 82, 85, 88, 89, 90, 91, 94, 97, 100, 101] : List Nat).getD i 0
abbrev rm_X9_bestLimit : Room := { frames := 5, cells := 0, slots := 0, locals := 120 }
theorem pl_X9_bestLimit : pPlain yX9_bestLimit 1 := by decide +kernel
set_option maxRecDepth 100000 in
set_option maxHeartbeats 4000000 in
theorem ok_k_X9_bestLimit (l : Launch) : ∀ (i : Nat) (en : pEn), k_X9_bestLimit[i]? = some en → EOK l cX9_bestLimit yX9_bestLimit.cls 6 ((some FieldType.int)) rm_X9_bestLimit 0 pc_X9_bestLimit i en := by
  refine allOK_at ?_
  refine And.intro (okIload_n dX9_bestLimit_0 rfl rfl) ?_
  refine And.intro (okIconst dX9_bestLimit_1 rfl (by first | rfl | decide)) ?_
  refine And.intro (okBipush dX9_bestLimit_2 rfl (by first | rfl | decide)) ?_
  refine And.intro (okCallS (y := yX9_isIn) (oCall_is _ _ _) dX9_bestLimit_4 rfl (ok_F_X9_isIn l) wm_3_223 wm_3_224 wm_1_10 wm_3_225 pl_X9_isIn (by decide)) ?_
  refine And.intro (okIfne dX9_bestLimit_7 rfl (by rfl)) ?_
  refine And.intro (okIconst dX9_bestLimit_10 rfl (by first | rfl | decide)) ?_
  refine And.intro (okIret dX9_bestLimit_11 rfl) ?_
  refine And.intro (okIconst dX9_bestLimit_12 rfl (by first | rfl | decide)) ?_
  refine And.intro (okIstore_n dX9_bestLimit_13 rfl rfl (by decide)) ?_
  refine And.intro (okIconst dX9_bestLimit_14 rfl (by first | rfl | decide)) ?_
  refine And.intro (okIstore_n dX9_bestLimit_15 rfl rfl (by decide)) ?_
  refine And.intro (okAload_n dX9_bestLimit_16 rfl rfl) ?_
  refine And.intro (okCallV (y := yX9_hold) (T := TX9) (oCallZ_is _ _ _) dX9_bestLimit_17 rfl (ok_F_X9_hold l) rc_F_X9_hold rfl wm_4_152 wm_4_154 wp_38 wm_1_10 wm_4_155 pl_X9_hold (by decide)) ?_
  refine And.intro (okIconst dX9_bestLimit_20 rfl (by first | rfl | decide)) ?_
  refine And.intro (okIstore dX9_bestLimit_21 rfl (by decide)) ?_
  refine And.intro (okIload dX9_bestLimit_23 rfl) ?_
  refine And.intro (okSipush dX9_bestLimit_25 rfl (by first | rfl | decide)) ?_
  refine And.intro (okCgt dX9_bestLimit_28 rfl (by rfl)) ?_
  refine And.intro (okAload_n dX9_bestLimit_31 rfl rfl) ?_
  refine And.intro (okGet (C := RX9) (T := TX9) (N := 22) dX9_bestLimit_32 rfl rfl (by decide) inX9 wm_3_141) ?_
  refine And.intro (okIconst dX9_bestLimit_35 rfl (by first | rfl | decide)) ?_
  refine And.intro (okIload dX9_bestLimit_36 rfl) ?_
  refine And.intro (okIastN dX9_bestLimit_38 rfl) ?_
  refine And.intro (okIconst dX9_bestLimit_39 rfl (by first | rfl | decide)) ?_
  refine And.intro (okIstore dX9_bestLimit_40 rfl (by decide)) ?_
  refine And.intro (okIload dX9_bestLimit_42 rfl) ?_
  refine And.intro (okIload_n dX9_bestLimit_44 rfl rfl) ?_
  refine And.intro (okCge dX9_bestLimit_45 rfl (by rfl)) ?_
  refine And.intro (okAload_n dX9_bestLimit_48 rfl rfl) ?_
  refine And.intro (okCallV (y := yX9_tick) (T := TX9) (oCallZ_is _ _ _) dX9_bestLimit_49 rfl (ok_F_X9_tick l) rc_F_X9_tick rfl wm_4_68 wm_4_70 wp_29 wm_1_10 wm_4_71 pl_X9_tick (by decide)) ?_
  refine And.intro (okIinc dX9_bestLimit_52 rfl (by first | rfl | decide) (by decide)) ?_
  refine And.intro (okGoto dX9_bestLimit_55 (by rfl)) ?_
  refine And.intro (okAload_n dX9_bestLimit_58 rfl rfl) ?_
  refine And.intro (okCallV (y := yX9_allPaper) (T := TX9) (oCallZ_is _ _ _) dX9_bestLimit_59 rfl (ok_F_X9_allPaper l) rc_F_X9_allPaper rfl wm_4_64 wm_4_66 wp_28 wm_1_10 wm_4_67 pl_X9_allPaper (by decide)) ?_
  refine And.intro (okIload_n dX9_bestLimit_62 rfl rfl) ?_
  refine And.intro (okCle dX9_bestLimit_63 rfl (by rfl)) ?_
  refine And.intro (okIload dX9_bestLimit_66 rfl) ?_
  refine And.intro (okGoto dX9_bestLimit_68 (by rfl)) ?_
  refine And.intro (okIload_n dX9_bestLimit_71 rfl rfl) ?_
  refine And.intro (okIstore_n dX9_bestLimit_72 rfl rfl (by decide)) ?_
  refine And.intro (okAload_n dX9_bestLimit_73 rfl rfl) ?_
  refine And.intro (okCallV (y := yX9_allPaper) (T := TX9) (oCallZ_is _ _ _) dX9_bestLimit_74 rfl (ok_F_X9_allPaper l) rc_F_X9_allPaper rfl wm_4_64 wm_4_66 wp_28 wm_1_10 wm_4_67 pl_X9_allPaper (by decide)) ?_
  refine And.intro (okIload_n dX9_bestLimit_77 rfl rfl) ?_
  refine And.intro (okCle dX9_bestLimit_78 rfl (by rfl)) ?_
  refine And.intro (okAload_n dX9_bestLimit_81 rfl rfl) ?_
  refine And.intro (okCallV (y := yX9_allPaper) (T := TX9) (oCallZ_is _ _ _) dX9_bestLimit_82 rfl (ok_F_X9_allPaper l) rc_F_X9_allPaper rfl wm_4_64 wm_4_66 wp_28 wm_1_10 wm_4_67 pl_X9_allPaper (by decide)) ?_
  refine And.intro (okGoto dX9_bestLimit_85 (by rfl)) ?_
  refine And.intro (okIload_n dX9_bestLimit_88 rfl rfl) ?_
  refine And.intro (okIstore_n dX9_bestLimit_89 rfl rfl (by decide)) ?_
  refine And.intro (okAload_n dX9_bestLimit_90 rfl rfl) ?_
  refine And.intro (okCallV (y := yX9_restore) (T := TX9) (oCallZ_is _ _ _) dX9_bestLimit_91 rfl (ok_F_X9_restore l) rc_F_X9_restore rfl wm_4_156 wm_4_158 wp_39 wm_1_10 wm_4_159 pl_X9_restore (by decide)) ?_
  refine And.intro (okIinc dX9_bestLimit_94 rfl (by first | rfl | decide) (by decide)) ?_
  refine And.intro (okGoto dX9_bestLimit_97 (by rfl)) ?_
  refine And.intro (okIload_n dX9_bestLimit_100 rfl rfl) ?_
  refine And.intro (okIret dX9_bestLimit_101 rfl) ?_
  exact trivial
set_option maxHeartbeats 400000 in
theorem lp_bli (rg : pRg) (x : pLV) (n u t b : Int32) (hT : tksOK n.toNatClampNeg x) (o : pOut) (hE : ∃ fu, ex k_X9_bestLimit fu 32 [(5, .int (nI n.toNatClampNeg)), (4, .int u), (3, .int t), (2, .int b), (0, .ref 0), (1, .int n)] [] (mdl (tmI n.toNatClampNeg x)) rg = some o) : ∀ (d k : Nat), k + d = n.toNatClampNeg → ∃ fu, ex k_X9_bestLimit fu 25 [(5, .int (nI k)), (4, .int u), (3, .int t), (2, .int b), (0, .ref 0), (1, .int n)] [] (mdl (tmI k x)) rg = some o := by
  intro d
  induction d with
  | zero =>
    intro k hk
    obtain rfl : k = n.toNatClampNeg := by omega
    obtain ⟨fu, hf⟩ := hE
    refine ⟨fu + 1, ?_⟩
    conv => lhs; whnf
    refine (pif_t (clamp_ge (Nat.le_refl _) (clamp_lt n))).trans ?_
    exact hf
  | succ d ih =>
    intro k hk
    obtain ⟨m0, hm⟩ := ih (k + 1) (by omega)
    refine ⟨m0 + 1, ?_⟩
    conv => lhs; whnf
    refine (pif_f (clamp_le (by omega))).trans ?_
    conv => lhs; whnf
    refine (callK_v (cl_X9_tick (tmI k x) rg (hT k (by omega))) (by rfl)).trans ?_
    conv => lhs; whnf
    rw [nI_1]
    exact hm
set_option maxHeartbeats 400000 in
theorem lp_ble1 (rg : pRg) (y : pLV) (n u t b z : Int32) (o : pOut) (h : apM y ≤ t) (hH : ∃ fu, ex k_X9_bestLimit fu 15 [(4, .int (u + 50)), (3, .int (t)), (2, .int (b)), (5, .int z), (0, .ref 0), (1, .int n)] [] (mdl (restM (NM y))) rg = some o) : ∃ fu, ex k_X9_bestLimit fu 32 [(5, .int z), (4, .int u), (3, .int t), (2, .int b), (0, .ref 0), (1, .int n)] [] (mdl y) rg = some o := by
  obtain ⟨fu, hf⟩ := hH
  refine ⟨fu + 3, ?_⟩
  conv => lhs; whnf
  refine (callK_r (cl_X9_allPaper y rg) (by rfl)).trans ?_
  conv => lhs; whnf
  refine (pif_t h).trans ?_
  conv => lhs; whnf
  refine (callK_r (cl_X9_allPaper y rg) (by rfl)).trans ?_
  conv => lhs; whnf
  refine (pif_t h).trans ?_
  conv => lhs; whnf
  refine (callK_v (cl_X9_restore y rg) (by rfl)).trans ?_
  exact hf
set_option maxHeartbeats 400000 in
theorem lp_ble2 (rg : pRg) (y : pLV) (n u t b z : Int32) (o : pOut) (h : ¬ apM y ≤ t) (hH : ∃ fu, ex k_X9_bestLimit fu 15 [(4, .int (u + 50)), (3, .int (apM y)), (2, .int (u)), (5, .int z), (0, .ref 0), (1, .int n)] [] (mdl (restM (NM y))) rg = some o) : ∃ fu, ex k_X9_bestLimit fu 32 [(5, .int z), (4, .int u), (3, .int t), (2, .int b), (0, .ref 0), (1, .int n)] [] (mdl y) rg = some o := by
  obtain ⟨fu, hf⟩ := hH
  refine ⟨fu + 3, ?_⟩
  conv => lhs; whnf
  refine (callK_r (cl_X9_allPaper y rg) (by rfl)).trans ?_
  conv => lhs; whnf
  refine (pif_f h).trans ?_
  conv => lhs; whnf
  refine (callK_r (cl_X9_allPaper y rg) (by rfl)).trans ?_
  conv => lhs; whnf
  refine (pif_f h).trans ?_
  conv => lhs; whnf
  refine (callK_r (cl_X9_allPaper y rg) (by rfl)).trans ?_
  conv => lhs; whnf
  refine (callK_v (cl_X9_restore y rg) (by rfl)).trans ?_
  exact hf
set_option maxHeartbeats 400000 in
theorem lp_blo (rg : pRg) (x : pLV) (n : Int32) (N : Nat) (hN : N = n.toNatClampNeg) (hO : blOK N x) : ∀ (d j : Nat), j + d = 21 → ∀ ls0, (ls0 = [(4, .int (nI (50 * j))), (3, .int (blT N x j)), (2, .int (blB N x j)), (0, .ref 0), (1, .int n)] ∨ ∃ z, ls0 = [(4, .int (nI (50 * j))), (3, .int (blT N x j)), (2, .int (blB N x j)), (5, .int z), (0, .ref 0), (1, .int n)]) → ∃ fu, ex k_X9_bestLimit fu 15 ls0 [] (mdl (blS N x j)) rg = some (some (.int (blB N x 21)), mdl (blS N x 21), rg) := by
  intro d
  induction d with
  | zero =>
    intro j hj ls0 hl
    obtain rfl : j = 21 := by omega
    rcases hl with rfl | ⟨z, rfl⟩
    · refine ⟨5, ?_⟩
      conv => lhs; whnf
      refine (pif_t (by decide)).trans ?_
      rfl
    · refine ⟨5, ?_⟩
      conv => lhs; whnf
      refine (pif_t (by decide)).trans ?_
      rfl
  | succ d ih =>
    intro j hj ls0 hl
    have hT := hO j (by omega)
    have hI : ∃ fu, ex k_X9_bestLimit fu 25 [(5, .int (nI 0)), (4, .int (nI (50 * j))), (3, .int (blT N x j)), (2, .int (blB N x j)), (0, .ref 0), (1, .int n)] [] (mdl (tmI 0 (bl1 (blS N x j) (nI (50 * j))))) rg = some (some (.int (blB N x 21)), mdl (blS N x 21), rg) := by
      subst hN
      refine lp_bli rg (bl1 (blS n.toNatClampNeg x j) (nI (50 * j))) n (nI (50 * j)) (blT n.toNatClampNeg x j) (blB n.toNatClampNeg x j) hT _ ?_ n.toNatClampNeg 0 (by omega)
      have hn := ih (j + 1) (by omega) _ (Or.inr ⟨nI n.toNatClampNeg, rfl⟩)
      have e50 : nI (50 * (j + 1)) = nI (50 * j) + 50 := (nI_plus (50 * j) 50).symm
      rw [e50] at hn
      by_cases h : blP n.toNatClampNeg x j ≤ blT n.toNatClampNeg x j
      · rw [show blT n.toNatClampNeg x (j + 1) = _ from if_pos h, show blB n.toNatClampNeg x (j + 1) = _ from if_pos h] at hn
        exact lp_ble1 rg _ n (nI (50 * j)) _ _ _ _ h hn
      · rw [show blT n.toNatClampNeg x (j + 1) = _ from if_neg h, show blB n.toNatClampNeg x (j + 1) = _ from if_neg h] at hn
        exact lp_ble2 rg _ n (nI (50 * j)) _ _ _ _ h hn
    rcases hl with rfl | ⟨z, rfl⟩
    · obtain ⟨fu, hf⟩ := hI
      obtain ⟨f1, rfl⟩ := ex_pos hf
      refine ⟨f1 + 1, ?_⟩
      conv => lhs; whnf
      refine (pif_f (nI_nlt (a := 1000) (b := 50 * j) (by omega) (by omega))).trans ?_
      conv at hf => lhs; whnf
      conv => lhs; whnf
      exact hf
    · obtain ⟨fu, hf⟩ := hI
      obtain ⟨f1, rfl⟩ := ex_pos hf
      refine ⟨f1 + 1, ?_⟩
      conv => lhs; whnf
      refine (pif_f (nI_nlt (a := 1000) (b := 50 * j) (by omega) (by omega))).trans ?_
      conv at hf => lhs; whnf
      conv => lhs; whnf
      exact hf
def G_X9_bestLimit : pG := fun args w => match args with
  | [.ref 0, .int n] => unM w (fun m => pif (besOK m n) (some (some (.int (besR m n)), mdl (besM m n))) none)
  | _ => none
set_option maxHeartbeats 400000 in
set_option maxRecDepth 100000 in
theorem run_X9_bestLimit (rg : pRg) (m : pLV) (n : Int32) (hc : besOK m n) : ∃ fu, ex k_X9_bestLimit fu 0 [(0, .ref 0), (1, .int n)] [] (mdl m) rg = some (some (.int (besR m n)), mdl (besM m n), rg) := by
  by_cases h : inI n 1 100 = 0
  · refine ⟨5, ?_⟩
    rw [show besR m n = _ from if_pos h, show besM m n = _ from if_pos h]
    conv => lhs; whnf
    refine (pif_t (h)).trans ?_
    rfl
  · obtain ⟨fu, hf⟩ := lp_blo rg (holdM (NM m)) n _ rfl (hc.resolve_left h) 21 0 (by omega) _ (Or.inl rfl)
    obtain ⟨f1, rfl⟩ := ex_pos hf
    refine ⟨f1 + 2, ?_⟩
    clear hc
    rw [show besR m n = _ from if_neg h, show besM m n = _ from if_neg h]
    conv => lhs; whnf
    refine (pif_f (h)).trans ?_
    conv => lhs; whnf
    refine (callK_v (cl_X9_hold m rg) (by rfl)).trans ?_
    revert hf
    generalize holdM (NM m) = x
    revert x; refine id ?_; intro x hf
    conv at hf => lhs; whnf
    conv => lhs; whnf
    exact hf
theorem ct_X9_bestLimit (l : Launch) : ∀ args0 w0 v0 w1 rg, G_X9_bestLimit args0 w0 = some (v0, w1) → pCT l yX9_bestLimit (pWs yX9_bestLimit cX9_bestLimit 6 ((some FieldType.int))) rm_X9_bestLimit args0 w0 rg (v0, w1, rg) := by
  intro args0 w0 v0 w1 rg h
  unfold G_X9_bestLimit at h
  split at h
  next n =>
    obtain ⟨m, hw, h2⟩ := unM_some h
    clear h
    subst hw
    by_cases hc : besOK m n
    · have h2 := (pif_t hc).symm.trans h2
      cases h2
      exact met_of_exM (by decide) (ok_k_X9_bestLimit l) rfl (run_X9_bestLimit rg m n hc) (Nat.le_of_ble_eq_true rfl) rfl rfl
    · have h2 := (pif_f hc).symm.trans h2
      cases h2
  next => cases h
def F_X9_bestLimit : pF := faN G_X9_bestLimit
theorem ok_F_X9_bestLimit (l : Launch) : pFOK l yX9_bestLimit (pWs yX9_bestLimit cX9_bestLimit 6 ((some FieldType.int))) rm_X9_bestLimit F_X9_bestLimit := pFOK_fa (fun a b c d rg h => ct_X9_bestLimit l a b c d rg h)
theorem rc_F_X9_bestLimit : pRcv 9 F_X9_bestLimit := pRcv_fa (fun a b c d h => by
  unfold G_X9_bestLimit at h
  split at h
  next =>
    obtain ⟨m, rfl, h⟩ := unM_some h
    exact ⟨_, _, _, rfl, rfl⟩
  next => cases h)
theorem cl_X9_bestLimit (m : pLV) (n : Int32) (rg : pRg) (hc : besOK (NM m) n) : F_X9_bestLimit [.ref 0, .int n] (mdl m) rg = some (some (.int (besR (NM m) n)), mdl (besM (NM m) n), rg) := by
  have h : G_X9_bestLimit [.ref 0, .int n] (mdl m) = some (some (.int (besR (NM m) n)), mdl (besM (NM m) n)) := pif_t hc
  unfold F_X9_bestLimit faN
  rw [h]
end
