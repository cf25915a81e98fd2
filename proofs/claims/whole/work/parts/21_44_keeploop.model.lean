noncomputable section
theorem inI_02 {c : Int32} (h : ¬ inI c 0 1 = 0) : c = 0 ∨ c = 1 := by
  have e1 := Int32.le_iff_toInt_le.mp (inI_le h).1
  have e2 := Int32.le_iff_toInt_le.mp (inI_le h).2
  have e3 : (1 : Int32).toInt = 1 := by decide
  rw [Int32.toInt_zero] at e1
  have : c.toInt = 0 ∨ c.toInt = 1 := by omega
  rcases this with q | q
  · exact Or.inl (Int32.toInt_inj.mp (q.trans (by decide)))
  · exact Or.inr (Int32.toInt_inj.mp (q.trans (by decide)))
def kpW (k i : Nat) (m : pLV) : pLV := vA m 3 (cpR k (110 * i) (m 1) (m 3))
def kp1 (m : pLV) (i : Int32) : pLV := vS (kpW 110 i.toNatClampNeg m) 4 (m 0 4 ||| 1 <<< (i &&& 31))
def kepR (m : pLV) (i : Int32) : Int32 := if inI i 0 1 = 0 then -1 else m 1 9
def kepM (m : pLV) (i : Int32) : pLV := if inI i 0 1 = 0 then m else kp1 m i
def bkW (k i : Nat) (m : pLV) : pLV := vA m 1 (cpN k (fun j => m 3 (110 * i + j)) (m 1))
def bacR (m : pLV) (i : Int32) : Int32 := if inI i 0 1 = 0 then -1 else if m 0 4 >>> (i &&& 31) &&& 1 = 0 then -2 else bkW 110 i.toNatClampNeg (rememM (NM m)) 1 9
def bacM (m : pLV) (i : Int32) : pLV := if inI i 0 1 = 0 then m else if m 0 4 >>> (i &&& 31) &&& 1 = 0 then m else bkW 110 i.toNatClampNeg (rememM (NM m))
theorem dX9_keep_0 : decode cX9_keep 0 = .ok (.iload_n 1, 1) := by decide +kernel
theorem dX9_keep_1 : decode cX9_keep 1 = .ok (.invokestatic 175, 3) := by decide +kernel
theorem dX9_keep_4 : decode cX9_keep 4 = .ok (.ifCond .ne 5, 3) := by decide +kernel
theorem dX9_keep_7 : decode cX9_keep 7 = .ok (.iconst (-1), 1) := by decide +kernel
theorem dX9_keep_8 : decode cX9_keep 8 = .ok (.ireturn, 1) := by decide +kernel
theorem dX9_keep_9 : decode cX9_keep 9 = .ok (.iconst 0, 1) := by decide +kernel
theorem dX9_keep_10 : decode cX9_keep 10 = .ok (.istore_n 2, 1) := by decide +kernel
theorem dX9_keep_11 : decode cX9_keep 11 = .ok (.iload_n 2, 1) := by decide +kernel
theorem dX9_keep_12 : decode cX9_keep 12 = .ok (.bipush 110, 2) := by decide +kernel
theorem dX9_keep_14 : decode cX9_keep 14 = .ok (.if_icmp .ge 26, 3) := by decide +kernel
theorem dX9_keep_17 : decode cX9_keep 17 = .ok (.aload_n 0, 1) := by decide +kernel
theorem dX9_keep_18 : decode cX9_keep 18 = .ok (.getfield 16, 3) := by decide +kernel
theorem dX9_keep_21 : decode cX9_keep 21 = .ok (.bipush 110, 2) := by decide +kernel
theorem dX9_keep_23 : decode cX9_keep 23 = .ok (.iload_n 1, 1) := by decide +kernel
theorem dX9_keep_24 : decode cX9_keep 24 = .ok (.imul, 1) := by decide +kernel
theorem dX9_keep_25 : decode cX9_keep 25 = .ok (.iload_n 2, 1) := by decide +kernel
theorem dX9_keep_26 : decode cX9_keep 26 = .ok (.iadd, 1) := by decide +kernel
theorem dX9_keep_27 : decode cX9_keep 27 = .ok (.aload_n 0, 1) := by decide +kernel
theorem dX9_keep_28 : decode cX9_keep 28 = .ok (.getfield 7, 3) := by decide +kernel
theorem dX9_keep_31 : decode cX9_keep 31 = .ok (.iload_n 2, 1) := by decide +kernel
theorem dX9_keep_32 : decode cX9_keep 32 = .ok (.iaload, 1) := by decide +kernel
theorem dX9_keep_33 : decode cX9_keep 33 = .ok (.iastore, 1) := by decide +kernel
theorem dX9_keep_34 : decode cX9_keep 34 = .ok (.iinc 2 1, 3) := by decide +kernel
theorem dX9_keep_37 : decode cX9_keep 37 = .ok (.goto (-26), 3) := by decide +kernel
theorem dX9_keep_40 : decode cX9_keep 40 = .ok (.aload_n 0, 1) := by decide +kernel
theorem dX9_keep_41 : decode cX9_keep 41 = .ok (.dup, 1) := by decide +kernel
theorem dX9_keep_42 : decode cX9_keep 42 = .ok (.getfield 178, 3) := by decide +kernel
theorem dX9_keep_45 : decode cX9_keep 45 = .ok (.iconst 1, 1) := by decide +kernel
theorem dX9_keep_46 : decode cX9_keep 46 = .ok (.iload_n 1, 1) := by decide +kernel
theorem dX9_keep_47 : decode cX9_keep 47 = .ok (.ishl, 1) := by decide +kernel
theorem dX9_keep_48 : decode cX9_keep 48 = .ok (.ior, 1) := by decide +kernel
theorem dX9_keep_49 : decode cX9_keep 49 = .ok (.putfield 178, 3) := by decide +kernel
theorem dX9_keep_52 : decode cX9_keep 52 = .ok (.aload_n 0, 1) := by decide +kernel
theorem dX9_keep_53 : decode cX9_keep 53 = .ok (.getfield 7, 3) := by decide +kernel
theorem dX9_keep_56 : decode cX9_keep 56 = .ok (.bipush 9, 2) := by decide +kernel
theorem dX9_keep_58 : decode cX9_keep 58 = .ok (.iaload, 1) := by decide +kernel
theorem dX9_keep_59 : decode cX9_keep 59 = .ok (.ireturn, 1) := by decide +kernel
def k_X9_keep : List pEn := [oIload 1, oCall 1 F_X9_isImage, oIfne 5, oConst (-1), oIret, oConst (0), oIstore 2, oIload 2, oConst (110), oCge 24, oAload 0, oGet 9 3, oConst (110), oIload 1, oMul, oIload 2, oAdd, oAload 0, oGet 9 0, oIload 2, oIald, oIast, oIinc 2 (1), oGoto 7, oAload 0, oDup, oGet 9 4, oConst (1), oIload 1, oShl, oOr, oPut 9 4, oAload 0, oGet 9 0, oConst (9), oIaldN 9, oIret]
def pc_X9_keep (i : Nat) : Nat := ([0, 1, 4, 7, 8, 9, 10, 11, 12, 14, 17, 18, 21, 23, 24, 25, 26, 27, 28, 31, 32, 33, 34, 37, 40, 41, 42, 45, 46, 47, 48, 49, 52, 53, 56, 58, 59] : List Nat).getD i 0
abbrev rm_X9_keep : Room := { frames := 2, cells := 0, slots := 0, locals := 42 }
theorem pl_X9_keep : pPlain yX9_keep 1 := by decide +kernel
set_option maxRecDepth 100000 in
set_option maxHeartbeats 4000000 in
theorem ok_k_X9_keep (l : Launch) : ∀ (i : Nat) (en : pEn), k_X9_keep[i]? = some en → EOK l cX9_keep yX9_keep.cls 3 ((some FieldType.int)) rm_X9_keep 0 pc_X9_keep i en := by
  refine allOK_at ?_
  refine And.intro (okIload_n dX9_keep_0 rfl rfl) ?_
  refine And.intro (okCallS (y := yX9_isImage) (oCall_is _ _ _) dX9_keep_1 rfl (ok_F_X9_isImage l) wm_4_172 wm_4_173 wm_1_10 wm_4_174 pl_X9_isImage (by decide)) ?_
  refine And.intro (okIfne dX9_keep_4 rfl (by rfl)) ?_
  refine And.intro (okIconst dX9_keep_7 rfl (by first | rfl | decide)) ?_
  refine And.intro (okIret dX9_keep_8 rfl) ?_
  refine And.intro (okIconst dX9_keep_9 rfl (by first | rfl | decide)) ?_
  refine And.intro (okIstore_n dX9_keep_10 rfl rfl (by decide)) ?_
  refine And.intro (okIload_n dX9_keep_11 rfl rfl) ?_
  refine And.intro (okBipush dX9_keep_12 rfl (by first | rfl | decide)) ?_
  refine And.intro (okCge dX9_keep_14 rfl (by rfl)) ?_
  refine And.intro (okAload_n dX9_keep_17 rfl rfl) ?_
  refine And.intro (okGet (C := RX9) (T := TX9) (N := 22) dX9_keep_18 rfl rfl (by decide) inX9 wm_3_144) ?_
  refine And.intro (okBipush dX9_keep_21 rfl (by first | rfl | decide)) ?_
  refine And.intro (okIload_n dX9_keep_23 rfl rfl) ?_
  refine And.intro (okMul dX9_keep_24 rfl) ?_
  refine And.intro (okIload_n dX9_keep_25 rfl rfl) ?_
  refine And.intro (okAdd dX9_keep_26 rfl) ?_
  refine And.intro (okAload_n dX9_keep_27 rfl rfl) ?_
  refine And.intro (okGet (C := RX9) (T := TX9) (N := 22) dX9_keep_28 rfl rfl (by decide) inX9 wm_3_141) ?_
  refine And.intro (okIload_n dX9_keep_31 rfl rfl) ?_
  refine And.intro (okIald dX9_keep_32 rfl) ?_
  refine And.intro (okIast dX9_keep_33 rfl) ?_
  refine And.intro (okIinc dX9_keep_34 rfl (by first | rfl | decide) (by decide)) ?_
  refine And.intro (okGoto dX9_keep_37 (by rfl)) ?_
  refine And.intro (okAload_n dX9_keep_40 rfl rfl) ?_
  refine And.intro (okDup dX9_keep_41 rfl) ?_
  refine And.intro (okGet (C := RX9) (T := TX9) (N := 22) dX9_keep_42 rfl rfl (by decide) inX9 wm_3_145) ?_
  refine And.intro (okIconst dX9_keep_45 rfl (by first | rfl | decide)) ?_
  refine And.intro (okIload_n dX9_keep_46 rfl rfl) ?_
  refine And.intro (okShl dX9_keep_47 rfl) ?_
  refine And.intro (okOr dX9_keep_48 rfl) ?_
  refine And.intro (okPut (C := RX9) (T := TX9) (N := 22) dX9_keep_49 rfl rfl (by decide) inX9 tyX9_ok nmX9 rfl rfl wm_3_145) ?_
  refine And.intro (okAload_n dX9_keep_52 rfl rfl) ?_
  refine And.intro (okGet (C := RX9) (T := TX9) (N := 22) dX9_keep_53 rfl rfl (by decide) inX9 wm_3_141) ?_
  refine And.intro (okBipush dX9_keep_56 rfl (by first | rfl | decide)) ?_
  refine And.intro (okIaldN dX9_keep_58 rfl) ?_
  refine And.intro (okIret dX9_keep_59 rfl) ?_
  exact trivial
theorem kp_cl0 (k : Nat) : (110 : Int32) * 0 + nI k = nI (110 * 0 + k) := nI_pk 0 k
set_option maxHeartbeats 400000 in
theorem lp_keep0 (rg : pRg) (m : pLV) : ∀ (d k : Nat), 0 ≤ k → k + d = 110 → ∃ fu, ex k_X9_keep fu 7 [(2, .int (nI k)), (0, .ref 0), (1, .int 0)] [] (mdl (kpW k 0 m)) rg = some (some (.int (m 1 9)), mdl (kp1 m 0), rg) := by
  intro d
  induction d with
  | zero =>
    intro k hk0 hk
    obtain rfl : k = 110 := by omega
    refine ⟨5, ?_⟩
    conv => lhs; whnf
    refine (pif_t (by decide)).trans ?_
    rfl
  | succ d ih =>
    intro k hk0 hk
    obtain ⟨m0, hm⟩ := ih (k + 1) (by omega) (by omega)
    refine ⟨m0 + 1, ?_⟩
    conv => lhs; whnf
    refine (pif_f (nI_ge (a := k) (b := 110) (by omega) (by omega))).trans ?_
    conv => lhs; whnf
    refine (pif_f (nI_in (c := k) (N := 110) (by omega) (by omega))).trans ?_
    conv => lhs; whnf
    rw [kp_cl0]
    refine (pif_f (nI_in (c := 110 * 0 + k) (N := 220) (by omega) (by omega))).trans ?_
    conv => lhs; whnf
    rw [nI_clamp (by omega : k < 2 ^ 31), nI_1]
    unfold kpW at hm
    rw [nI_clamp (by omega : 110 * 0 + k < 2 ^ 31)]
    rw [← cpR_s] at hm
    exact hm
theorem kp_cl1 (k : Nat) : (110 : Int32) * 1 + nI k = nI (110 * 1 + k) := nI_pk 1 k
set_option maxHeartbeats 400000 in
theorem lp_keep1 (rg : pRg) (m : pLV) : ∀ (d k : Nat), 0 ≤ k → k + d = 110 → ∃ fu, ex k_X9_keep fu 7 [(2, .int (nI k)), (0, .ref 0), (1, .int 1)] [] (mdl (kpW k 1 m)) rg = some (some (.int (m 1 9)), mdl (kp1 m 1), rg) := by
  intro d
  induction d with
  | zero =>
    intro k hk0 hk
    obtain rfl : k = 110 := by omega
    refine ⟨5, ?_⟩
    conv => lhs; whnf
    refine (pif_t (by decide)).trans ?_
    rfl
  | succ d ih =>
    intro k hk0 hk
    obtain ⟨m0, hm⟩ := ih (k + 1) (by omega) (by omega)
    refine ⟨m0 + 1, ?_⟩
    conv => lhs; whnf
    refine (pif_f (nI_ge (a := k) (b := 110) (by omega) (by omega))).trans ?_
    conv => lhs; whnf
    refine (pif_f (nI_in (c := k) (N := 110) (by omega) (by omega))).trans ?_
    conv => lhs; whnf
    rw [kp_cl1]
    refine (pif_f (nI_in (c := 110 * 1 + k) (N := 220) (by omega) (by omega))).trans ?_
    conv => lhs; whnf
    rw [nI_clamp (by omega : k < 2 ^ 31), nI_1]
    unfold kpW at hm
    rw [nI_clamp (by omega : 110 * 1 + k < 2 ^ 31)]
    rw [← cpR_s] at hm
    exact hm
def G_X9_keep : pG := fun args w => match args with
  | [.ref 0, .int i] => unM w (fun m => some (some (.int (kepR m i)), mdl (kepM m i)))
  | _ => none
set_option maxHeartbeats 400000 in
set_option maxRecDepth 100000 in
theorem run_X9_keep (rg : pRg) (m : pLV) (i : Int32)  : ∃ fu, ex k_X9_keep fu 0 [(0, .ref 0), (1, .int i)] [] (mdl m) rg = some (some (.int (kepR m i)), mdl (kepM m i), rg) := by
  by_cases h : inI i 0 1 = 0
  · refine ⟨5, ?_⟩
    rw [show kepR m i = _ from if_pos h, show kepM m i = _ from if_pos h]
    conv => lhs; whnf
    refine (pif_t (h)).trans ?_
    rfl
  · rcases inI_02 h with rfl | rfl
    · obtain ⟨fu, hf⟩ := lp_keep0 rg m 110 0 (by omega) (by omega)
      have hp : kpW 0 0 m = vA m 3 (m 3) := congrArg (vA m 3) (cpR_0 _ _ _)
      rw [hp] at hf
      obtain ⟨f1, rfl⟩ := ex_pos hf
      refine ⟨f1 + 2, ?_⟩
      rw [show kepR m 0 = _ from if_neg h, show kepM m 0 = _ from if_neg h]
      conv => lhs; whnf
      refine (pif_f (h)).trans ?_
      conv at hf => lhs; whnf
      conv => lhs; whnf
      exact hf
    · obtain ⟨fu, hf⟩ := lp_keep1 rg m 110 0 (by omega) (by omega)
      have hp : kpW 0 1 m = vA m 3 (m 3) := congrArg (vA m 3) (cpR_0 _ _ _)
      rw [hp] at hf
      obtain ⟨f1, rfl⟩ := ex_pos hf
      refine ⟨f1 + 2, ?_⟩
      rw [show kepR m 1 = _ from if_neg h, show kepM m 1 = _ from if_neg h]
      conv => lhs; whnf
      refine (pif_f (h)).trans ?_
      conv at hf => lhs; whnf
      conv => lhs; whnf
      exact hf
theorem ct_X9_keep (l : Launch) : ∀ args0 w0 v0 w1 rg, G_X9_keep args0 w0 = some (v0, w1) → pCT l yX9_keep (pWs yX9_keep cX9_keep 3 ((some FieldType.int))) rm_X9_keep args0 w0 rg (v0, w1, rg) := by
  intro args0 w0 v0 w1 rg h
  unfold G_X9_keep at h
  split at h
  next i =>
    obtain ⟨m, hw, h2⟩ := unM_some h
    clear h
    subst hw
    cases h2
    exact met_of_exM (by decide) (ok_k_X9_keep l) rfl (run_X9_keep rg m i ) (Nat.le_of_ble_eq_true rfl) rfl rfl
  next => cases h
def F_X9_keep : pF := faN G_X9_keep
theorem ok_F_X9_keep (l : Launch) : pFOK l yX9_keep (pWs yX9_keep cX9_keep 3 ((some FieldType.int))) rm_X9_keep F_X9_keep := pFOK_fa (fun a b c d rg h => ct_X9_keep l a b c d rg h)
theorem rc_F_X9_keep : pRcv 9 F_X9_keep := pRcv_fa (fun a b c d h => by
  unfold G_X9_keep at h
  split at h
  next =>
    obtain ⟨m, rfl, h⟩ := unM_some h
    exact ⟨_, _, _, rfl, rfl⟩
  next => cases h)
theorem cl_X9_keep (m : pLV) (i : Int32) (rg : pRg) : F_X9_keep [.ref 0, .int i] (mdl m) rg = some (some (.int (kepR (NM m) i)), mdl (kepM (NM m) i), rg) := rfl
end
