noncomputable section
def entR (m : pLV) (e q : Int32) : Int32 := if inI e 0 (m 1 49 - 1) = 0 then -1 else if inI q 0 2 = 0 then -1 else m 1 (50 + 3 * e + q).toNatClampNeg
def tOK20 (m : pLV) : Prop := 0 ≤ m 1 49 ∧ m 1 49 ≤ 20
theorem i32_p1 {t : Int32} {n : Nat} (h : t = nI (n + 1)) : t - 1 = nI n := by
  subst h
  rw [nI_succ]
  exact Int32.add_sub_cancel (nI n) 1
theorem ent_in {e q t : Int32} (ht0 : 0 ≤ t) (ht : t ≤ 20) (he : 0 ≤ e) (he2 : e ≤ t - 1) (hq : 0 ≤ q) (hq2 : q ≤ 2) : ∃ a b, a < 20 ∧ b ≤ 2 ∧ a < t.toNatClampNeg ∧ e = nI a ∧ q = nI b := by
  have e0 := nI_ofN he
  have e1 := nI_ofN hq
  have l2 := clamp_b 2 (n := 2) rfl hq2
  have l3 := clamp_b 20 (n := 20) rfl ht
  have e2 := nI_ofN ht0
  have hz : t.toNatClampNeg ≠ 0 := by
    intro z
    have : t = 0 := by rw [z] at e2; exact e2
    subst this
    have a1 := Int32.le_iff_toInt_le.mp he
    have a2 := Int32.le_iff_toInt_le.mp he2
    have a3 : ((0 : Int32) - 1).toInt = -1 := by decide
    rw [Int32.toInt_zero] at a1
    omega
  have e4 : t - 1 = nI (t.toNatClampNeg - 1) := i32_p1 (by rw [show t.toNatClampNeg - 1 + 1 = t.toNatClampNeg by omega]; exact e2)
  rw [e4] at he2
  have l1 := clamp_b (nI (t.toNatClampNeg - 1)) (nI_toInt (by omega)) he2
  exact ⟨e.toNatClampNeg, q.toNatClampNeg, by omega, l2, by omega, e0, e1⟩
theorem nI_ent (a b : Nat) : (50 : Int32) + 3 * nI a + nI b = nI (50 + 3 * a + b) := by rw [nI_at, nI_plus]
theorem dX9_entry_0 : decode cX9_entry 0 = .ok (.iload_n 1, 1) := by decide +kernel
theorem dX9_entry_1 : decode cX9_entry 1 = .ok (.iconst 0, 1) := by decide +kernel
theorem dX9_entry_2 : decode cX9_entry 2 = .ok (.aload_n 0, 1) := by decide +kernel
theorem dX9_entry_3 : decode cX9_entry 3 = .ok (.getfield 7, 3) := by decide +kernel
theorem dX9_entry_6 : decode cX9_entry 6 = .ok (.bipush 49, 2) := by decide +kernel
theorem dX9_entry_8 : decode cX9_entry 8 = .ok (.iaload, 1) := by decide +kernel
theorem dX9_entry_9 : decode cX9_entry 9 = .ok (.iconst 1, 1) := by decide +kernel
theorem dX9_entry_10 : decode cX9_entry 10 = .ok (.isub, 1) := by decide +kernel
theorem dX9_entry_11 : decode cX9_entry 11 = .ok (.invokestatic 41, 3) := by decide +kernel
theorem dX9_entry_14 : decode cX9_entry 14 = .ok (.ifCond .eq 28, 3) := by decide +kernel
theorem dX9_entry_17 : decode cX9_entry 17 = .ok (.iload_n 2, 1) := by decide +kernel
theorem dX9_entry_18 : decode cX9_entry 18 = .ok (.iconst 0, 1) := by decide +kernel
theorem dX9_entry_19 : decode cX9_entry 19 = .ok (.iconst 2, 1) := by decide +kernel
theorem dX9_entry_20 : decode cX9_entry 20 = .ok (.invokestatic 41, 3) := by decide +kernel
theorem dX9_entry_23 : decode cX9_entry 23 = .ok (.ifCond .eq 19, 3) := by decide +kernel
theorem dX9_entry_26 : decode cX9_entry 26 = .ok (.aload_n 0, 1) := by decide +kernel
theorem dX9_entry_27 : decode cX9_entry 27 = .ok (.getfield 7, 3) := by decide +kernel
theorem dX9_entry_30 : decode cX9_entry 30 = .ok (.bipush 50, 2) := by decide +kernel
theorem dX9_entry_32 : decode cX9_entry 32 = .ok (.iconst 3, 1) := by decide +kernel
theorem dX9_entry_33 : decode cX9_entry 33 = .ok (.iload_n 1, 1) := by decide +kernel
theorem dX9_entry_34 : decode cX9_entry 34 = .ok (.imul, 1) := by decide +kernel
theorem dX9_entry_35 : decode cX9_entry 35 = .ok (.iadd, 1) := by decide +kernel
theorem dX9_entry_36 : decode cX9_entry 36 = .ok (.iload_n 2, 1) := by decide +kernel
theorem dX9_entry_37 : decode cX9_entry 37 = .ok (.iadd, 1) := by decide +kernel
theorem dX9_entry_38 : decode cX9_entry 38 = .ok (.iaload, 1) := by decide +kernel
theorem dX9_entry_39 : decode cX9_entry 39 = .ok (.goto 4, 3) := by decide +kernel
theorem dX9_entry_42 : decode cX9_entry 42 = .ok (.iconst (-1), 1) := by decide +kernel
theorem dX9_entry_43 : decode cX9_entry 43 = .ok (.ireturn, 1) := by decide +kernel
def k_X9_entry : List pEn := [oIload 1, oConst (0), oAload 0, oGet 9 0, oConst (49), oIaldN 49, oConst (1), oSub, oCall 3 F_X9_isIn, oIfeq 26, oIload 2, oConst (0), oConst (2), oCall 3 F_X9_isIn, oIfeq 26, oAload 0, oGet 9 0, oConst (50), oConst (3), oIload 1, oMul, oAdd, oIload 2, oAdd, oIald, oGoto 27, oConst (-1), oIret]
def pc_X9_entry (i : Nat) : Nat := ([0, 1, 2, 3, 6, 8, 9, 10, 11, 14, 17, 18, 19, 20, 23, 26, 27, 30, 32, 33, 34, 35, 36, 37, 38, 39, 42, 43] : List Nat).getD i 0
abbrev rm_X9_entry : Room := { frames := 1, cells := 0, slots := 0, locals := 22 }
theorem pl_X9_entry : pPlain yX9_entry 2 := by decide +kernel
set_option maxRecDepth 100000 in
set_option maxHeartbeats 4000000 in
theorem ok_k_X9_entry (l : Launch) : ∀ (i : Nat) (en : pEn), k_X9_entry[i]? = some en → EOK l cX9_entry yX9_entry.cls 3 ((some FieldType.int)) rm_X9_entry 0 pc_X9_entry i en := by
  refine allOK_at ?_
  refine And.intro (okIload_n dX9_entry_0 rfl rfl) ?_
  refine And.intro (okIconst dX9_entry_1 rfl (by first | rfl | decide)) ?_
  refine And.intro (okAload_n dX9_entry_2 rfl rfl) ?_
  refine And.intro (okGet (C := RX9) (T := TX9) (N := 22) dX9_entry_3 rfl rfl (by decide) inX9 wm_3_141) ?_
  refine And.intro (okBipush dX9_entry_6 rfl (by first | rfl | decide)) ?_
  refine And.intro (okIaldN dX9_entry_8 rfl) ?_
  refine And.intro (okIconst dX9_entry_9 rfl (by first | rfl | decide)) ?_
  refine And.intro (okSub dX9_entry_10 rfl) ?_
  refine And.intro (okCallS (y := yX9_isIn) (oCall_is _ _ _) dX9_entry_11 rfl (ok_F_X9_isIn l) wm_3_223 wm_3_224 wm_1_10 wm_3_225 pl_X9_isIn (by decide)) ?_
  refine And.intro (okIfeq dX9_entry_14 rfl (by rfl)) ?_
  refine And.intro (okIload_n dX9_entry_17 rfl rfl) ?_
  refine And.intro (okIconst dX9_entry_18 rfl (by first | rfl | decide)) ?_
  refine And.intro (okIconst dX9_entry_19 rfl (by first | rfl | decide)) ?_
  refine And.intro (okCallS (y := yX9_isIn) (oCall_is _ _ _) dX9_entry_20 rfl (ok_F_X9_isIn l) wm_3_223 wm_3_224 wm_1_10 wm_3_225 pl_X9_isIn (by decide)) ?_
  refine And.intro (okIfeq dX9_entry_23 rfl (by rfl)) ?_
  refine And.intro (okAload_n dX9_entry_26 rfl rfl) ?_
  refine And.intro (okGet (C := RX9) (T := TX9) (N := 22) dX9_entry_27 rfl rfl (by decide) inX9 wm_3_141) ?_
  refine And.intro (okBipush dX9_entry_30 rfl (by first | rfl | decide)) ?_
  refine And.intro (okIconst dX9_entry_32 rfl (by first | rfl | decide)) ?_
  refine And.intro (okIload_n dX9_entry_33 rfl rfl) ?_
  refine And.intro (okMul dX9_entry_34 rfl) ?_
  refine And.intro (okAdd dX9_entry_35 rfl) ?_
  refine And.intro (okIload_n dX9_entry_36 rfl rfl) ?_
  refine And.intro (okAdd dX9_entry_37 rfl) ?_
  refine And.intro (okIald dX9_entry_38 rfl) ?_
  refine And.intro (okGoto dX9_entry_39 (by rfl)) ?_
  refine And.intro (okIconst dX9_entry_42 rfl (by first | rfl | decide)) ?_
  refine And.intro (okIret dX9_entry_43 rfl) ?_
  exact trivial
def G_X9_entry : pG := fun args w => match args with
  | [.ref 0, .int e, .int q] => unM w (fun m => pif (tOK20 m) (some (some (.int (entR m e q)), mdl (m))) none)
  | _ => none
set_option maxHeartbeats 400000 in
set_option maxRecDepth 100000 in
theorem run_X9_entry (rg : pRg) (m : pLV) (e q : Int32) (hc : tOK20 m) : ∃ fu, ex k_X9_entry fu 0 [(0, .ref 0), (1, .int e), (2, .int q)] [] (mdl m) rg = some (some (.int (entR m e q)), mdl (m), rg) := by
  refine ⟨60, ?_⟩
  conv => lhs; whnf
  refine pif_c (fun h0 => ?_) (fun h0 => ?_)
  · rw [show entR m e q = _ from if_pos h0] <;> rfl
  · conv => lhs; whnf
    refine pif_c (fun h1 => ?_) (fun h1 => ?_)
    · rw [show entR m e q = _ from (if_neg h0).trans (if_pos h1)] <;> rfl
    · rw [show entR m e q = _ from (if_neg h0).trans (if_neg h1)]
      obtain ⟨a, b, l1, l2, l3, rfl, rfl⟩ := ent_in hc.1 hc.2 (inI_le h0).1 (inI_le h0).2 (inI_le h1).1 (inI_le h1).2
      conv => lhs; whnf
      rw [nI_ent]
      refine (pif_f (nI_in (c := 50 + 3 * a + b) (N := 110) (by omega) (by omega))).trans ?_
      rfl
theorem ct_X9_entry (l : Launch) : ∀ args0 w0 v0 w1 rg, G_X9_entry args0 w0 = some (v0, w1) → pCT l yX9_entry (pWs yX9_entry cX9_entry 3 ((some FieldType.int))) rm_X9_entry args0 w0 rg (v0, w1, rg) := by
  intro args0 w0 v0 w1 rg h
  unfold G_X9_entry at h
  split at h
  next e q =>
    obtain ⟨m, hw, h2⟩ := unM_some h
    clear h
    subst hw
    by_cases hc : tOK20 m
    · have h2 := (pif_t hc).symm.trans h2
      cases h2
      exact met_of_exM (by decide) (ok_k_X9_entry l) rfl (run_X9_entry rg m e q hc) (Nat.le_of_ble_eq_true rfl) rfl rfl
    · have h2 := (pif_f hc).symm.trans h2
      cases h2
  next => cases h
def F_X9_entry : pF := faN G_X9_entry
theorem ok_F_X9_entry (l : Launch) : pFOK l yX9_entry (pWs yX9_entry cX9_entry 3 ((some FieldType.int))) rm_X9_entry F_X9_entry := pFOK_fa (fun a b c d rg h => ct_X9_entry l a b c d rg h)
theorem rc_F_X9_entry : pRcv 9 F_X9_entry := pRcv_fa (fun a b c d h => by
  unfold G_X9_entry at h
  split at h
  next =>
    obtain ⟨m, rfl, h⟩ := unM_some h
    exact ⟨_, _, _, rfl, rfl⟩
  next => cases h)
theorem cl_X9_entry (m : pLV) (e q : Int32) (rg : pRg) (hc : tOK20 (NM m)) : F_X9_entry [.ref 0, .int e, .int q] (mdl m) rg = some (some (.int (entR (NM m) e q)), mdl ((NM m)), rg) := by
  have h : G_X9_entry [.ref 0, .int e, .int q] (mdl m) = some (some (.int (entR (NM m) e q)), mdl ((NM m))) := pif_t hc
  unfold F_X9_entry faN
  rw [h]
end
