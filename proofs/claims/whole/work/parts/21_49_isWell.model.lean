noncomputable section
def kOK (k : Int32) : Prop := 0 ≤ k ∧ k ≤ 119
def r19 (m : pLV) : Prop := 0 ≤ m 0 13 ∧ m 0 13 ≤ 19
theorem e3_in {r : Int32} (j : Int32) (n : Nat) (hj : j = nI n) (hn : n ≤ 2) (h0 : 0 ≤ r) (h : r ≤ 19) : 3 * r + j = nI (3 * r.toNatClampNeg + n) := by
  have e := nI_ofN h0
  rw [hj]
  rw [show (3 : Int32) * r = nI (3 * r.toNatClampNeg) from by rw [← nI_tim, ← e]; rfl, nI_plus]
theorem e3_z {r : Int32} (h0 : 0 ≤ r) : 3 * r = nI (3 * r.toNatClampNeg) := by
  have e := nI_ofN h0
  rw [← nI_tim, ← e]; rfl
theorem e3_b {r : Int32} (j : Int32) (n : Nat) (hj : j = nI n) (hn : n ≤ 2) (h0 : 0 ≤ r) (h : r ≤ 19) : ¬ (3 * r + j < 0 ∨ 60 ≤ (3 * r + j).toNatClampNeg) := by
  have h2 := clamp_b 19 (n := 19) rfl h
  rw [e3_in j n hj hn h0 h]
  exact nI_in (by omega) (by omega)
theorem e3_bz {r : Int32} (h0 : 0 ≤ r) (h : r ≤ 19) : ¬ (3 * r < 0 ∨ 60 ≤ (3 * r).toNatClampNeg) := by
  have h2 := clamp_b 19 (n := 19) rfl h
  rw [e3_z h0]
  exact nI_in (by omega) (by omega)
theorem k_in {k : Int32} (h : kOK k) : ¬ (k < 0 ∨ 120 ≤ k.toNatClampNeg) := by
  have h2 := clamp_b 119 (n := 119) rfl h.2
  rintro (q | q)
  · exact Int32.not_lt.mpr h.1 q
  · omega
def iwR (m : pLV) : Int32 := if m 0 17 = 2 then inI (m 0 20) 1 9999 else if m 5 (3 * m 0 13 + 1).toNatClampNeg = 0 then inI (m 0 20) 1 50 else if m 5 (3 * m 0 13 + 1).toNatClampNeg = 1 then inI (m 0 20) 0 3 else inI (m 0 20) 0 2000
def iwM (m : pLV) (r : Int32) : pLV := if r = 0 then faM (NM m) 2 (m 0 19) else m
theorem dX9_isWell_0 : decode cX9_isWell 0 = .ok (.aload_n 0, 1) := by decide +kernel
theorem dX9_isWell_1 : decode cX9_isWell 1 = .ok (.getfield 29, 3) := by decide +kernel
theorem dX9_isWell_4 : decode cX9_isWell 4 = .ok (.iconst 3, 1) := by decide +kernel
theorem dX9_isWell_5 : decode cX9_isWell 5 = .ok (.aload_n 0, 1) := by decide +kernel
theorem dX9_isWell_6 : decode cX9_isWell 6 = .ok (.getfield 104, 3) := by decide +kernel
theorem dX9_isWell_9 : decode cX9_isWell 9 = .ok (.imul, 1) := by decide +kernel
theorem dX9_isWell_10 : decode cX9_isWell 10 = .ok (.iconst 1, 1) := by decide +kernel
theorem dX9_isWell_11 : decode cX9_isWell 11 = .ok (.iadd, 1) := by decide +kernel
theorem dX9_isWell_12 : decode cX9_isWell 12 = .ok (.iaload, 1) := by decide +kernel
theorem dX9_isWell_13 : decode cX9_isWell 13 = .ok (.istore_n 1, 1) := by decide +kernel
theorem dX9_isWell_14 : decode cX9_isWell 14 = .ok (.aload_n 0, 1) := by decide +kernel
theorem dX9_isWell_15 : decode cX9_isWell 15 = .ok (.getfield 107, 3) := by decide +kernel
theorem dX9_isWell_18 : decode cX9_isWell 18 = .ok (.iconst 2, 1) := by decide +kernel
theorem dX9_isWell_19 : decode cX9_isWell 19 = .ok (.if_icmp .ne 17, 3) := by decide +kernel
theorem dX9_isWell_22 : decode cX9_isWell 22 = .ok (.aload_n 0, 1) := by decide +kernel
theorem dX9_isWell_23 : decode cX9_isWell 23 = .ok (.getfield 110, 3) := by decide +kernel
theorem dX9_isWell_26 : decode cX9_isWell 26 = .ok (.iconst 1, 1) := by decide +kernel
theorem dX9_isWell_27 : decode cX9_isWell 27 = .ok (.sipush 9999, 3) := by decide +kernel
theorem dX9_isWell_30 : decode cX9_isWell 30 = .ok (.invokestatic 41, 3) := by decide +kernel
theorem dX9_isWell_33 : decode cX9_isWell 33 = .ok (.goto 48, 3) := by decide +kernel
theorem dX9_isWell_36 : decode cX9_isWell 36 = .ok (.iload_n 1, 1) := by decide +kernel
theorem dX9_isWell_37 : decode cX9_isWell 37 = .ok (.ifCond .ne 16, 3) := by decide +kernel
theorem dX9_isWell_40 : decode cX9_isWell 40 = .ok (.aload_n 0, 1) := by decide +kernel
theorem dX9_isWell_41 : decode cX9_isWell 41 = .ok (.getfield 110, 3) := by decide +kernel
theorem dX9_isWell_44 : decode cX9_isWell 44 = .ok (.iconst 1, 1) := by decide +kernel
theorem dX9_isWell_45 : decode cX9_isWell 45 = .ok (.bipush 50, 2) := by decide +kernel
theorem dX9_isWell_47 : decode cX9_isWell 47 = .ok (.invokestatic 41, 3) := by decide +kernel
theorem dX9_isWell_50 : decode cX9_isWell 50 = .ok (.goto 31, 3) := by decide +kernel
theorem dX9_isWell_53 : decode cX9_isWell 53 = .ok (.iload_n 1, 1) := by decide +kernel
theorem dX9_isWell_54 : decode cX9_isWell 54 = .ok (.iconst 1, 1) := by decide +kernel
theorem dX9_isWell_55 : decode cX9_isWell 55 = .ok (.if_icmp .ne 15, 3) := by decide +kernel
theorem dX9_isWell_58 : decode cX9_isWell 58 = .ok (.aload_n 0, 1) := by decide +kernel
theorem dX9_isWell_59 : decode cX9_isWell 59 = .ok (.getfield 110, 3) := by decide +kernel
theorem dX9_isWell_62 : decode cX9_isWell 62 = .ok (.iconst 0, 1) := by decide +kernel
theorem dX9_isWell_63 : decode cX9_isWell 63 = .ok (.iconst 3, 1) := by decide +kernel
theorem dX9_isWell_64 : decode cX9_isWell 64 = .ok (.invokestatic 41, 3) := by decide +kernel
theorem dX9_isWell_67 : decode cX9_isWell 67 = .ok (.goto 14, 3) := by decide +kernel
theorem dX9_isWell_70 : decode cX9_isWell 70 = .ok (.aload_n 0, 1) := by decide +kernel
theorem dX9_isWell_71 : decode cX9_isWell 71 = .ok (.getfield 110, 3) := by decide +kernel
theorem dX9_isWell_74 : decode cX9_isWell 74 = .ok (.iconst 0, 1) := by decide +kernel
theorem dX9_isWell_75 : decode cX9_isWell 75 = .ok (.sipush 2000, 3) := by decide +kernel
theorem dX9_isWell_78 : decode cX9_isWell 78 = .ok (.invokestatic 41, 3) := by decide +kernel
theorem dX9_isWell_81 : decode cX9_isWell 81 = .ok (.istore_n 2, 1) := by decide +kernel
theorem dX9_isWell_82 : decode cX9_isWell 82 = .ok (.iload_n 2, 1) := by decide +kernel
theorem dX9_isWell_83 : decode cX9_isWell 83 = .ok (.ifCond .ne 12, 3) := by decide +kernel
theorem dX9_isWell_86 : decode cX9_isWell 86 = .ok (.aload_n 0, 1) := by decide +kernel
theorem dX9_isWell_87 : decode cX9_isWell 87 = .ok (.iconst 2, 1) := by decide +kernel
theorem dX9_isWell_88 : decode cX9_isWell 88 = .ok (.aload_n 0, 1) := by decide +kernel
theorem dX9_isWell_89 : decode cX9_isWell 89 = .ok (.getfield 113, 3) := by decide +kernel
theorem dX9_isWell_92 : decode cX9_isWell 92 = .ok (.invokevirtual 116, 3) := by decide +kernel
theorem dX9_isWell_95 : decode cX9_isWell 95 = .ok (.iload_n 2, 1) := by decide +kernel
theorem dX9_isWell_96 : decode cX9_isWell 96 = .ok (.ireturn, 1) := by decide +kernel
def k_X9_isWell : List pEn := [oAload 0, oGet 9 14, oConst (3), oAload 0, oGet 9 13, oMul, oConst (1), oAdd, oIald, oIstore 1, oAload 0, oGet 9 17, oConst (2), oCne 20, oAload 0, oGet 9 20, oConst (1), oConst (9999), oCall 3 F_X9_isIn, oGoto 42, oIload 1, oIfne 28, oAload 0, oGet 9 20, oConst (1), oConst (50), oCall 3 F_X9_isIn, oGoto 42, oIload 1, oConst (1), oCne 37, oAload 0, oGet 9 20, oConst (0), oConst (3), oCall 3 F_X9_isIn, oGoto 42, oAload 0, oGet 9 20, oConst (0), oConst (2000), oCall 3 F_X9_isIn, oIstore 2, oIload 2, oIfne 50, oAload 0, oConst (2), oAload 0, oGet 9 19, oCallZ 3 F_X9_fails, oIload 2, oZret]
def pc_X9_isWell (i : Nat) : Nat := ([0, 1, 4, 5, 6, 9, 10, 11, 12, 13, 14, 15, 18, 19, 22, 23, 26, 27, 30, 33, 36, 37, 40, 41, 44, 45, 47, 50, 53, 54, 55, 58, 59, 62, 63, 64, 67, 70, 71, 74, 75, 78, 81, 82, 83, 86, 87, 88, 89, 92, 95, 96] : List Nat).getD i 0
abbrev rm_X9_isWell : Room := { frames := 1, cells := 0, slots := 0, locals := 22 }
theorem pl_X9_isWell : pPlain yX9_isWell 0 := by decide +kernel
set_option maxRecDepth 100000 in
set_option maxHeartbeats 4000000 in
theorem ok_k_X9_isWell (l : Launch) : ∀ (i : Nat) (en : pEn), k_X9_isWell[i]? = some en → EOK l cX9_isWell yX9_isWell.cls 3 ((some FieldType.boolean)) rm_X9_isWell 0 pc_X9_isWell i en := by
  refine allOK_at ?_
  refine And.intro (okAload_n dX9_isWell_0 rfl rfl) ?_
  refine And.intro (okGet (C := RX9) (T := TX9) (N := 22) dX9_isWell_1 rfl rfl (by decide) inX9 wm_3_155) ?_
  refine And.intro (okIconst dX9_isWell_4 rfl (by first | rfl | decide)) ?_
  refine And.intro (okAload_n dX9_isWell_5 rfl rfl) ?_
  refine And.intro (okGet (C := RX9) (T := TX9) (N := 22) dX9_isWell_6 rfl rfl (by decide) inX9 wm_3_154) ?_
  refine And.intro (okMul dX9_isWell_9 rfl) ?_
  refine And.intro (okIconst dX9_isWell_10 rfl (by first | rfl | decide)) ?_
  refine And.intro (okAdd dX9_isWell_11 rfl) ?_
  refine And.intro (okIald dX9_isWell_12 rfl) ?_
  refine And.intro (okIstore_n dX9_isWell_13 rfl rfl (by decide)) ?_
  refine And.intro (okAload_n dX9_isWell_14 rfl rfl) ?_
  refine And.intro (okGet (C := RX9) (T := TX9) (N := 22) dX9_isWell_15 rfl rfl (by decide) inX9 wm_3_158) ?_
  refine And.intro (okIconst dX9_isWell_18 rfl (by first | rfl | decide)) ?_
  refine And.intro (okCne dX9_isWell_19 rfl (by rfl)) ?_
  refine And.intro (okAload_n dX9_isWell_22 rfl rfl) ?_
  refine And.intro (okGet (C := RX9) (T := TX9) (N := 22) dX9_isWell_23 rfl rfl (by decide) inX9 wm_3_161) ?_
  refine And.intro (okIconst dX9_isWell_26 rfl (by first | rfl | decide)) ?_
  refine And.intro (okSipush dX9_isWell_27 rfl (by first | rfl | decide)) ?_
  refine And.intro (okCallS (y := yX9_isIn) (oCall_is _ _ _) dX9_isWell_30 rfl (ok_F_X9_isIn l) wm_3_223 wm_3_224 wm_1_10 wm_3_225 pl_X9_isIn (by decide)) ?_
  refine And.intro (okGoto dX9_isWell_33 (by rfl)) ?_
  refine And.intro (okIload_n dX9_isWell_36 rfl rfl) ?_
  refine And.intro (okIfne dX9_isWell_37 rfl (by rfl)) ?_
  refine And.intro (okAload_n dX9_isWell_40 rfl rfl) ?_
  refine And.intro (okGet (C := RX9) (T := TX9) (N := 22) dX9_isWell_41 rfl rfl (by decide) inX9 wm_3_161) ?_
  refine And.intro (okIconst dX9_isWell_44 rfl (by first | rfl | decide)) ?_
  refine And.intro (okBipush dX9_isWell_45 rfl (by first | rfl | decide)) ?_
  refine And.intro (okCallS (y := yX9_isIn) (oCall_is _ _ _) dX9_isWell_47 rfl (ok_F_X9_isIn l) wm_3_223 wm_3_224 wm_1_10 wm_3_225 pl_X9_isIn (by decide)) ?_
  refine And.intro (okGoto dX9_isWell_50 (by rfl)) ?_
  refine And.intro (okIload_n dX9_isWell_53 rfl rfl) ?_
  refine And.intro (okIconst dX9_isWell_54 rfl (by first | rfl | decide)) ?_
  refine And.intro (okCne dX9_isWell_55 rfl (by rfl)) ?_
  refine And.intro (okAload_n dX9_isWell_58 rfl rfl) ?_
  refine And.intro (okGet (C := RX9) (T := TX9) (N := 22) dX9_isWell_59 rfl rfl (by decide) inX9 wm_3_161) ?_
  refine And.intro (okIconst dX9_isWell_62 rfl (by first | rfl | decide)) ?_
  refine And.intro (okIconst dX9_isWell_63 rfl (by first | rfl | decide)) ?_
  refine And.intro (okCallS (y := yX9_isIn) (oCall_is _ _ _) dX9_isWell_64 rfl (ok_F_X9_isIn l) wm_3_223 wm_3_224 wm_1_10 wm_3_225 pl_X9_isIn (by decide)) ?_
  refine And.intro (okGoto dX9_isWell_67 (by rfl)) ?_
  refine And.intro (okAload_n dX9_isWell_70 rfl rfl) ?_
  refine And.intro (okGet (C := RX9) (T := TX9) (N := 22) dX9_isWell_71 rfl rfl (by decide) inX9 wm_3_161) ?_
  refine And.intro (okIconst dX9_isWell_74 rfl (by first | rfl | decide)) ?_
  refine And.intro (okSipush dX9_isWell_75 rfl (by first | rfl | decide)) ?_
  refine And.intro (okCallS (y := yX9_isIn) (oCall_is _ _ _) dX9_isWell_78 rfl (ok_F_X9_isIn l) wm_3_223 wm_3_224 wm_1_10 wm_3_225 pl_X9_isIn (by decide)) ?_
  refine And.intro (okIstore_n dX9_isWell_81 rfl rfl (by decide)) ?_
  refine And.intro (okIload_n dX9_isWell_82 rfl rfl) ?_
  refine And.intro (okIfne dX9_isWell_83 rfl (by rfl)) ?_
  refine And.intro (okAload_n dX9_isWell_86 rfl rfl) ?_
  refine And.intro (okIconst dX9_isWell_87 rfl (by first | rfl | decide)) ?_
  refine And.intro (okAload_n dX9_isWell_88 rfl rfl) ?_
  refine And.intro (okGet (C := RX9) (T := TX9) (N := 22) dX9_isWell_89 rfl rfl (by decide) inX9 wm_3_160) ?_
  refine And.intro (okCallV (y := yX9_fails) (T := TX9) (oCallZ_is _ _ _) dX9_isWell_92 rfl (ok_F_X9_fails l) rc_F_X9_fails rfl wm_4_37 wm_4_39 wp_23 wm_1_10 wm_4_40 pl_X9_fails (by decide)) ?_
  refine And.intro (okIload_n dX9_isWell_95 rfl rfl) ?_
  refine And.intro (okZret dX9_isWell_96 rfl) ?_
  exact trivial
def G_X9_isWell : pG := fun args w => match args with
  | [.ref 0] => unM w (fun m => pif (r19 m) (some (some (.int (iwR m)), mdl (iwM m (iwR m)))) none)
  | _ => none
set_option maxHeartbeats 400000 in
set_option maxRecDepth 100000 in
theorem run_X9_isWell (rg : pRg) (m : pLV)  (hc : r19 m) : ∃ fu, ex k_X9_isWell fu 0 [(0, .ref 0)] [] (mdl m) rg = some (some (.int (iwR m)), mdl (iwM m (iwR m)), rg) := by
  refine ⟨60, ?_⟩
  conv => lhs; whnf
  refine (pif_f (e3_b 1 1 rfl (by decide) hc.1 hc.2)).trans ?_
  conv => lhs; whnf
  refine pif_c (fun h1 => ?_) (fun h1 => ?_)
  · rw [show iwR m = inI (m 0 20) 1 9999 from if_pos h1]
    conv => lhs; whnf
    refine pif_c (fun g => ?_) (fun g => ?_)
    · rw [show iwM m (inI (m 0 20) 1 9999) = _ from if_pos g]
      conv => lhs; whnf
      refine (callK_v (cl_X9_fails m 2 (m 0 19) rg) (by rfl)).trans ?_
      conv => lhs; whnf
      refine (pif_t (inI_01 (m 0 20) 1 9999)).trans ?_
      rfl
    · rw [show iwM m (inI (m 0 20) 1 9999) = _ from if_neg g]
      conv => lhs; whnf
      refine (pif_t (inI_01 (m 0 20) 1 9999)).trans ?_
      rfl
  · conv => lhs; whnf
    refine pif_c (fun h2 => ?_) (fun h2 => ?_)
    · rw [show iwR m = inI (m 0 20) 1 50 from (if_neg h1).trans (if_pos h2)]
      conv => lhs; whnf
      refine pif_c (fun g => ?_) (fun g => ?_)
      · rw [show iwM m (inI (m 0 20) 1 50) = _ from if_pos g]
        conv => lhs; whnf
        refine (callK_v (cl_X9_fails m 2 (m 0 19) rg) (by rfl)).trans ?_
        conv => lhs; whnf
        refine (pif_t (inI_01 (m 0 20) 1 50)).trans ?_
        rfl
      · rw [show iwM m (inI (m 0 20) 1 50) = _ from if_neg g]
        conv => lhs; whnf
        refine (pif_t (inI_01 (m 0 20) 1 50)).trans ?_
        rfl
    · conv => lhs; whnf
      refine pif_c (fun h3 => ?_) (fun h3 => ?_)
      · rw [show iwR m = inI (m 0 20) 0 3 from (if_neg h1).trans ((if_neg h2).trans (if_pos h3))]
        conv => lhs; whnf
        refine pif_c (fun g => ?_) (fun g => ?_)
        · rw [show iwM m (inI (m 0 20) 0 3) = _ from if_pos g]
          conv => lhs; whnf
          refine (callK_v (cl_X9_fails m 2 (m 0 19) rg) (by rfl)).trans ?_
          conv => lhs; whnf
          refine (pif_t (inI_01 (m 0 20) 0 3)).trans ?_
          rfl
        · rw [show iwM m (inI (m 0 20) 0 3) = _ from if_neg g]
          conv => lhs; whnf
          refine (pif_t (inI_01 (m 0 20) 0 3)).trans ?_
          rfl
      · rw [show iwR m = inI (m 0 20) 0 2000 from (if_neg h1).trans ((if_neg h2).trans (if_neg h3))]
        conv => lhs; whnf
        refine pif_c (fun g => ?_) (fun g => ?_)
        · rw [show iwM m (inI (m 0 20) 0 2000) = _ from if_pos g]
          conv => lhs; whnf
          refine (callK_v (cl_X9_fails m 2 (m 0 19) rg) (by rfl)).trans ?_
          conv => lhs; whnf
          refine (pif_t (inI_01 (m 0 20) 0 2000)).trans ?_
          rfl
        · rw [show iwM m (inI (m 0 20) 0 2000) = _ from if_neg g]
          conv => lhs; whnf
          refine (pif_t (inI_01 (m 0 20) 0 2000)).trans ?_
          rfl
theorem ct_X9_isWell (l : Launch) : ∀ args0 w0 v0 w1 rg, G_X9_isWell args0 w0 = some (v0, w1) → pCT l yX9_isWell (pWs yX9_isWell cX9_isWell 3 ((some FieldType.boolean))) rm_X9_isWell args0 w0 rg (v0, w1, rg) := by
  intro args0 w0 v0 w1 rg h
  unfold G_X9_isWell at h
  split at h
  next  =>
    obtain ⟨m, hw, h2⟩ := unM_some h
    clear h
    subst hw
    by_cases hc : r19 m
    · have h2 := (pif_t hc).symm.trans h2
      cases h2
      exact met_of_exM (by decide) (ok_k_X9_isWell l) rfl (run_X9_isWell rg m  hc) (Nat.le_of_ble_eq_true rfl) rfl rfl
    · have h2 := (pif_f hc).symm.trans h2
      cases h2
  next => cases h
def F_X9_isWell : pF := faN G_X9_isWell
theorem ok_F_X9_isWell (l : Launch) : pFOK l yX9_isWell (pWs yX9_isWell cX9_isWell 3 ((some FieldType.boolean))) rm_X9_isWell F_X9_isWell := pFOK_fa (fun a b c d rg h => ct_X9_isWell l a b c d rg h)
theorem rc_F_X9_isWell : pRcv 9 F_X9_isWell := pRcv_fa (fun a b c d h => by
  unfold G_X9_isWell at h
  split at h
  next =>
    obtain ⟨m, rfl, h⟩ := unM_some h
    exact ⟨_, _, _, rfl, rfl⟩
  next => cases h)
theorem cl_X9_isWell (m : pLV)  (rg : pRg) (hc : r19 (NM m)) : F_X9_isWell [.ref 0] (mdl m) rg = some (some (.int (iwR (NM m))), mdl (iwM (NM m) (iwR (NM m))), rg) := by
  have h : G_X9_isWell [.ref 0] (mdl m) = some (some (.int (iwR (NM m))), mdl (iwM (NM m) (iwR (NM m)))) := pif_t hc
  unfold F_X9_isWell faN
  rw [h]
end
