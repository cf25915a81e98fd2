noncomputable section
theorem dX9_back_0 : decode cX9_back 0 = .ok (.iload_n 1, 1) := by decide +kernel
theorem dX9_back_1 : decode cX9_back 1 = .ok (.invokestatic 175, 3) := by decide +kernel
theorem dX9_back_4 : decode cX9_back 4 = .ok (.ifCond .ne 5, 3) := by decide +kernel
theorem dX9_back_7 : decode cX9_back 7 = .ok (.iconst (-1), 1) := by decide +kernel
theorem dX9_back_8 : decode cX9_back 8 = .ok (.ireturn, 1) := by decide +kernel
theorem dX9_back_9 : decode cX9_back 9 = .ok (.aload_n 0, 1) := by decide +kernel
theorem dX9_back_10 : decode cX9_back 10 = .ok (.getfield 178, 3) := by decide +kernel
theorem dX9_back_13 : decode cX9_back 13 = .ok (.iload_n 1, 1) := by decide +kernel
theorem dX9_back_14 : decode cX9_back 14 = .ok (.ishr, 1) := by decide +kernel
theorem dX9_back_15 : decode cX9_back 15 = .ok (.iconst 1, 1) := by decide +kernel
theorem dX9_back_16 : decode cX9_back 16 = .ok (.iand, 1) := by decide +kernel
theorem dX9_back_17 : decode cX9_back 17 = .ok (.ifCond .ne 6, 3) := by decide +kernel
theorem dX9_back_20 : decode cX9_back 20 = .ok (.bipush (-2), 2) := by decide +kernel
theorem dX9_back_22 : decode cX9_back 22 = .ok (.ireturn, 1) := by decide +kernel
theorem dX9_back_23 : decode cX9_back 23 = .ok (.aload_n 0, 1) := by decide +kernel
theorem dX9_back_24 : decode cX9_back 24 = .ok (.invokevirtual 141, 3) := by decide +kernel
theorem dX9_back_27 : decode cX9_back 27 = .ok (.iconst 0, 1) := by decide +kernel
theorem dX9_back_28 : decode cX9_back 28 = .ok (.istore_n 2, 1) := by decide +kernel
theorem dX9_back_29 : decode cX9_back 29 = .ok (.iload_n 2, 1) := by decide +kernel
theorem dX9_back_30 : decode cX9_back 30 = .ok (.bipush 110, 2) := by decide +kernel
theorem dX9_back_32 : decode cX9_back 32 = .ok (.if_icmp .ge 26, 3) := by decide +kernel
theorem dX9_back_35 : decode cX9_back 35 = .ok (.aload_n 0, 1) := by decide +kernel
theorem dX9_back_36 : decode cX9_back 36 = .ok (.getfield 7, 3) := by decide +kernel
theorem dX9_back_39 : decode cX9_back 39 = .ok (.iload_n 2, 1) := by decide +kernel
theorem dX9_back_40 : decode cX9_back 40 = .ok (.aload_n 0, 1) := by decide +kernel
theorem dX9_back_41 : decode cX9_back 41 = .ok (.getfield 16, 3) := by decide +kernel
theorem dX9_back_44 : decode cX9_back 44 = .ok (.bipush 110, 2) := by decide +kernel
theorem dX9_back_46 : decode cX9_back 46 = .ok (.iload_n 1, 1) := by decide +kernel
theorem dX9_back_47 : decode cX9_back 47 = .ok (.imul, 1) := by decide +kernel
theorem dX9_back_48 : decode cX9_back 48 = .ok (.iload_n 2, 1) := by decide +kernel
theorem dX9_back_49 : decode cX9_back 49 = .ok (.iadd, 1) := by decide +kernel
theorem dX9_back_50 : decode cX9_back 50 = .ok (.iaload, 1) := by decide +kernel
theorem dX9_back_51 : decode cX9_back 51 = .ok (.iastore, 1) := by decide +kernel
theorem dX9_back_52 : decode cX9_back 52 = .ok (.iinc 2 1, 3) := by decide +kernel
theorem dX9_back_55 : decode cX9_back 55 = .ok (.goto (-26), 3) := by decide +kernel
theorem dX9_back_58 : decode cX9_back 58 = .ok (.aload_n 0, 1) := by decide +kernel
theorem dX9_back_59 : decode cX9_back 59 = .ok (.getfield 7, 3) := by decide +kernel
theorem dX9_back_62 : decode cX9_back 62 = .ok (.bipush 9, 2) := by decide +kernel
theorem dX9_back_64 : decode cX9_back 64 = .ok (.iaload, 1) := by decide +kernel
theorem dX9_back_65 : decode cX9_back 65 = .ok (.ireturn, 1) := by decide +kernel
def k_X9_back : List pEn := [oIload 1, oCall 1 F_X9_isImage, oIfne 5, oConst (-1), oIret, oAload 0, oGet 9 4, oIload 1, oShr, oConst (1), oAnd, oIfne 14, oConst (-2), oIret, oAload 0, oCallZ 1 F_X9_remember, oConst (0), oIstore 2, oIload 2, oConst (110), oCge 35, oAload 0, oGet 9 0, oIload 2, oAload 0, oGet 9 3, oConst (110), oIload 1, oMul, oIload 2, oAdd, oIald, oIast, oIinc 2 (1), oGoto 18, oAload 0, oGet 9 0, oConst (9), oIaldN 9, oIret]
def pc_X9_back (i : Nat) : Nat := ([0, 1, 4, 7, 8, 9, 10, 13, 14, 15, 16, 17, 20, 22, 23, 24, 27, 28, 29, 30, 32, 35, 36, 39, 40, 41, 44, 46, 47, 48, 49, 50, 51, 52, 55, 58, 59, 62, 64, 65] : List Nat).getD i 0
abbrev rm_X9_back : Room := { frames := 2, cells := 0, slots := 0, locals := 42 }
theorem pl_X9_back : pPlain yX9_back 1 := by decide +kernel
set_option maxRecDepth 100000 in
set_option maxHeartbeats 4000000 in
theorem ok_k_X9_back (l : Launch) : ∀ (i : Nat) (en : pEn), k_X9_back[i]? = some en → EOK l cX9_back yX9_back.cls 3 ((some FieldType.int)) rm_X9_back 0 pc_X9_back i en := by
  refine allOK_at ?_
  refine And.intro (okIload_n dX9_back_0 rfl rfl) ?_
  refine And.intro (okCallS (y := yX9_isImage) (oCall_is _ _ _) dX9_back_1 rfl (ok_F_X9_isImage l) wm_4_172 wm_4_173 wm_1_10 wm_4_174 pl_X9_isImage (by decide)) ?_
  refine And.intro (okIfne dX9_back_4 rfl (by rfl)) ?_
  refine And.intro (okIconst dX9_back_7 rfl (by first | rfl | decide)) ?_
  refine And.intro (okIret dX9_back_8 rfl) ?_
  refine And.intro (okAload_n dX9_back_9 rfl rfl) ?_
  refine And.intro (okGet (C := RX9) (T := TX9) (N := 22) dX9_back_10 rfl rfl (by decide) inX9 wm_3_145) ?_
  refine And.intro (okIload_n dX9_back_13 rfl rfl) ?_
  refine And.intro (okShr dX9_back_14 rfl) ?_
  refine And.intro (okIconst dX9_back_15 rfl (by first | rfl | decide)) ?_
  refine And.intro (okAnd dX9_back_16 rfl) ?_
  refine And.intro (okIfne dX9_back_17 rfl (by rfl)) ?_
  refine And.intro (okBipush dX9_back_20 rfl (by first | rfl | decide)) ?_
  refine And.intro (okIret dX9_back_22 rfl) ?_
  refine And.intro (okAload_n dX9_back_23 rfl rfl) ?_
  refine And.intro (okCallV (y := yX9_remember) (T := TX9) (oCallZ_is _ _ _) dX9_back_24 rfl (ok_F_X9_remember l) rc_F_X9_remember rfl wm_3_212 wm_3_214 wp_16 wm_1_10 wm_3_215 pl_X9_remember (by decide)) ?_
  refine And.intro (okIconst dX9_back_27 rfl (by first | rfl | decide)) ?_
  refine And.intro (okIstore_n dX9_back_28 rfl rfl (by decide)) ?_
  refine And.intro (okIload_n dX9_back_29 rfl rfl) ?_
  refine And.intro (okBipush dX9_back_30 rfl (by first | rfl | decide)) ?_
  refine And.intro (okCge dX9_back_32 rfl (by rfl)) ?_
  refine And.intro (okAload_n dX9_back_35 rfl rfl) ?_
  refine And.intro (okGet (C := RX9) (T := TX9) (N := 22) dX9_back_36 rfl rfl (by decide) inX9 wm_3_141) ?_
  refine And.intro (okIload_n dX9_back_39 rfl rfl) ?_
  refine And.intro (okAload_n dX9_back_40 rfl rfl) ?_
  refine And.intro (okGet (C := RX9) (T := TX9) (N := 22) dX9_back_41 rfl rfl (by decide) inX9 wm_3_144) ?_
  refine And.intro (okBipush dX9_back_44 rfl (by first | rfl | decide)) ?_
  refine And.intro (okIload_n dX9_back_46 rfl rfl) ?_
  refine And.intro (okMul dX9_back_47 rfl) ?_
  refine And.intro (okIload_n dX9_back_48 rfl rfl) ?_
  refine And.intro (okAdd dX9_back_49 rfl) ?_
  refine And.intro (okIald dX9_back_50 rfl) ?_
  refine And.intro (okIast dX9_back_51 rfl) ?_
  refine And.intro (okIinc dX9_back_52 rfl (by first | rfl | decide) (by decide)) ?_
  refine And.intro (okGoto dX9_back_55 (by rfl)) ?_
  refine And.intro (okAload_n dX9_back_58 rfl rfl) ?_
  refine And.intro (okGet (C := RX9) (T := TX9) (N := 22) dX9_back_59 rfl rfl (by decide) inX9 wm_3_141) ?_
  refine And.intro (okBipush dX9_back_62 rfl (by first | rfl | decide)) ?_
  refine And.intro (okIaldN dX9_back_64 rfl) ?_
  refine And.intro (okIret dX9_back_65 rfl) ?_
  exact trivial
set_option maxHeartbeats 400000 in
theorem lp_back0 (rg : pRg) (m : pLV) : ∀ (d k : Nat), 0 ≤ k → k + d = 110 → ∃ fu, ex k_X9_back fu 18 [(2, .int (nI k)), (0, .ref 0), (1, .int 0)] [] (mdl (bkW k 0 m)) rg = some (some (.int (bkW 110 0 m 1 9)), mdl (bkW 110 0 m), rg) := by
  intro d
  induction d with
  | zero =>
    intro k hk0 hk
    obtain rfl : k = 110 := by omega
    refine ⟨5, ?_⟩
    conv => lhs; whnf
    refine (pif_t (by decide)).trans ?_
    rfl
  | succ d ih =>
    intro k hk0 hk
    obtain ⟨m0, hm⟩ := ih (k + 1) (by omega) (by omega)
    refine ⟨m0 + 1, ?_⟩
    conv => lhs; whnf
    refine (pif_f (nI_ge (a := k) (b := 110) (by omega) (by omega))).trans ?_
    conv => lhs; whnf
    rw [kp_cl0]
    refine (pif_f (nI_in (c := 110 * 0 + k) (N := 220) (by omega) (by omega))).trans ?_
    conv => lhs; whnf
    refine (pif_f (nI_in (c := k) (N := 110) (by omega) (by omega))).trans ?_
    conv => lhs; whnf
    rw [nI_clamp (by omega : k < 2 ^ 31), nI_1]
    have e : upd (cpN k (fun j => m 3 (110 * 0 + j)) (m 1)) k (m 3 (nI (110 * 0 + k)).toNatClampNeg) = cpN (k + 1) (fun j => m 3 (110 * 0 + j)) (m 1) := by
      rw [nI_clamp (by omega : 110 * 0 + k < 2 ^ 31)]
      exact cpN_s k _ _
    unfold bkW at hm ⊢
    rw [← e] at hm
    exact hm
set_option maxHeartbeats 400000 in
theorem lp_back1 (rg : pRg) (m : pLV) : ∀ (d k : Nat), 0 ≤ k → k + d = 110 → ∃ fu, ex k_X9_back fu 18 [(2, .int (nI k)), (0, .ref 0), (1, .int 1)] [] (mdl (bkW k 1 m)) rg = some (some (.int (bkW 110 1 m 1 9)), mdl (bkW 110 1 m), rg) := by
  intro d
  induction d with
  | zero =>
    intro k hk0 hk
    obtain rfl : k = 110 := by omega
    refine ⟨5, ?_⟩
    conv => lhs; whnf
    refine (pif_t (by decide)).trans ?_
    rfl
  | succ d ih =>
    intro k hk0 hk
    obtain ⟨m0, hm⟩ := ih (k + 1) (by omega) (by omega)
    refine ⟨m0 + 1, ?_⟩
    conv => lhs; whnf
    refine (pif_f (nI_ge (a := k) (b := 110) (by omega) (by omega))).trans ?_
    conv => lhs; whnf
    rw [kp_cl1]
    refine (pif_f (nI_in (c := 110 * 1 + k) (N := 220) (by omega) (by omega))).trans ?_
    conv => lhs; whnf
    refine (pif_f (nI_in (c := k) (N := 110) (by omega) (by omega))).trans ?_
    conv => lhs; whnf
    rw [nI_clamp (by omega : k < 2 ^ 31), nI_1]
    have e : upd (cpN k (fun j => m 3 (110 * 1 + j)) (m 1)) k (m 3 (nI (110 * 1 + k)).toNatClampNeg) = cpN (k + 1) (fun j => m 3 (110 * 1 + j)) (m 1) := by
      rw [nI_clamp (by omega : 110 * 1 + k < 2 ^ 31)]
      exact cpN_s k _ _
    unfold bkW at hm ⊢
    rw [← e] at hm
    exact hm
def G_X9_back : pG := fun args w => match args with
  | [.ref 0, .int i] => unM w (fun m => pif (pOK m) (some (some (.int (bacR m i)), mdl (bacM m i))) none)
  | _ => none
set_option maxHeartbeats 400000 in
set_option maxRecDepth 100000 in
theorem run_X9_back (rg : pRg) (m : pLV) (i : Int32) (hc : pOK m) : ∃ fu, ex k_X9_back fu 0 [(0, .ref 0), (1, .int i)] [] (mdl m) rg = some (some (.int (bacR m i)), mdl (bacM m i), rg) := by
  by_cases h : inI i 0 1 = 0
  · refine ⟨5, ?_⟩
    rw [show bacR m i = _ from if_pos h, show bacM m i = _ from if_pos h]
    conv => lhs; whnf
    refine (pif_t (h)).trans ?_
    rfl
  · by_cases h2 : m 0 4 >>> (i &&& 31) &&& 1 = 0
    · refine ⟨5, ?_⟩
      rw [show bacR m i = _ from (if_neg h).trans (if_pos h2), show bacM m i = _ from (if_neg h).trans (if_pos h2)]
      conv => lhs; whnf
      refine (pif_f (h)).trans ?_
      conv => lhs; whnf
      refine (pif_t (h2)).trans ?_
      rfl
    · rcases inI_02 h with rfl | rfl
      · obtain ⟨fu, hf⟩ := lp_back0 rg (rememM (NM m)) 110 0 (by omega) (by omega)
        have hp : bkW 0 0 (rememM (NM m)) = vA (rememM (NM m)) 1 (rememM (NM m) 1) := congrArg (vA (rememM (NM m)) 1) (cpN_0 _ _)
        rw [hp] at hf
        obtain ⟨f1, rfl⟩ := ex_pos hf
        refine ⟨f1 + 3, ?_⟩
        rw [show bacR m 0 = _ from (if_neg h).trans (if_neg h2), show bacM m 0 = _ from (if_neg h).trans (if_neg h2)]
        conv => lhs; whnf
        refine (pif_f (h)).trans ?_
        conv => lhs; whnf
        refine (pif_f (h2)).trans ?_
        conv => lhs; whnf
        refine (callK_v (cl_X9_remember m rg hc) (by rfl)).trans ?_
        revert hf
        rw [show ((0 : Int32)).toNatClampNeg = 0 from rfl]
        generalize rememM (NM m) = x
        revert x; refine id ?_; intro x hf
        conv at hf => lhs; whnf
        conv => lhs; whnf
        exact hf
      · obtain ⟨fu, hf⟩ := lp_back1 rg (rememM (NM m)) 110 0 (by omega) (by omega)
        have hp : bkW 0 1 (rememM (NM m)) = vA (rememM (NM m)) 1 (rememM (NM m) 1) := congrArg (vA (rememM (NM m)) 1) (cpN_0 _ _)
        rw [hp] at hf
        obtain ⟨f1, rfl⟩ := ex_pos hf
        refine ⟨f1 + 3, ?_⟩
        rw [show bacR m 1 = _ from (if_neg h).trans (if_neg h2), show bacM m 1 = _ from (if_neg h).trans (if_neg h2)]
        conv => lhs; whnf
        refine (pif_f (h)).trans ?_
        conv => lhs; whnf
        refine (pif_f (h2)).trans ?_
        conv => lhs; whnf
        refine (callK_v (cl_X9_remember m rg hc) (by rfl)).trans ?_
        revert hf
        rw [show ((1 : Int32)).toNatClampNeg = 1 from rfl]
        generalize rememM (NM m) = x
        revert x; refine id ?_; intro x hf
        conv at hf => lhs; whnf
        conv => lhs; whnf
        exact hf
theorem ct_X9_back (l : Launch) : ∀ args0 w0 v0 w1 rg, G_X9_back args0 w0 = some (v0, w1) → pCT l yX9_back (pWs yX9_back cX9_back 3 ((some FieldType.int))) rm_X9_back args0 w0 rg (v0, w1, rg) := by
  intro args0 w0 v0 w1 rg h
  unfold G_X9_back at h
  split at h
  next i =>
    obtain ⟨m, hw, h2⟩ := unM_some h
    clear h
    subst hw
    by_cases hc : pOK m
    · have h2 := (pif_t hc).symm.trans h2
      cases h2
      exact met_of_exM (by decide) (ok_k_X9_back l) rfl (run_X9_back rg m i hc) (Nat.le_of_ble_eq_true rfl) rfl rfl
    · have h2 := (pif_f hc).symm.trans h2
      cases h2
  next => cases h
def F_X9_back : pF := faN G_X9_back
theorem ok_F_X9_back (l : Launch) : pFOK l yX9_back (pWs yX9_back cX9_back 3 ((some FieldType.int))) rm_X9_back F_X9_back := pFOK_fa (fun a b c d rg h => ct_X9_back l a b c d rg h)
theorem rc_F_X9_back : pRcv 9 F_X9_back := pRcv_fa (fun a b c d h => by
  unfold G_X9_back at h
  split at h
  next =>
    obtain ⟨m, rfl, h⟩ := unM_some h
    exact ⟨_, _, _, rfl, rfl⟩
  next => cases h)
theorem cl_X9_back (m : pLV) (i : Int32) (rg : pRg) (hc : pOK (NM m)) : F_X9_back [.ref 0, .int i] (mdl m) rg = some (some (.int (bacR (NM m) i)), mdl (bacM (NM m) i), rg) := by
  have h : G_X9_back [.ref 0, .int i] (mdl m) = some (some (.int (bacR (NM m) i)), mdl (bacM (NM m) i)) := pif_t hc
  unfold F_X9_back faN
  rw [h]
end
