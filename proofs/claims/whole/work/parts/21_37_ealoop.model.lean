noncomputable section
def eaI : Nat → pLV → Int32
  | 0, _ => 0
  | k + 1, m => eaI k m + (if m 1 (50 + 3 * k) ≤ m 1 9 then 0 else 1)
def eaR (m : pLV) : Int32 := eaI (m 1 49).toNatClampNeg m
theorem eaI_NM : ∀ (k : Nat) (m : pLV), eaI k (NM m) = eaI k m
  | 0, _ => rfl
  | k + 1, m => by
    show eaI k (NM m) + _ = eaI k m + _
    rw [eaI_NM k m]
    rfl
theorem eaR_NM (m : pLV) : eaR (NM m) = eaR m := eaI_NM _ m
def eOK (m : pLV) : Prop := (m 1 49).toNatClampNeg ≤ 20
theorem dX9_entriesAhead_0 : decode cX9_entriesAhead 0 = .ok (.iconst 0, 1) := by decide +kernel
theorem dX9_entriesAhead_1 : decode cX9_entriesAhead 1 = .ok (.istore_n 1, 1) := by decide +kernel
theorem dX9_entriesAhead_2 : decode cX9_entriesAhead 2 = .ok (.iconst 0, 1) := by decide +kernel
theorem dX9_entriesAhead_3 : decode cX9_entriesAhead 3 = .ok (.istore_n 2, 1) := by decide +kernel
theorem dX9_entriesAhead_4 : decode cX9_entriesAhead 4 = .ok (.iload_n 2, 1) := by decide +kernel
theorem dX9_entriesAhead_5 : decode cX9_entriesAhead 5 = .ok (.aload_n 0, 1) := by decide +kernel
theorem dX9_entriesAhead_6 : decode cX9_entriesAhead 6 = .ok (.getfield 7, 3) := by decide +kernel
theorem dX9_entriesAhead_9 : decode cX9_entriesAhead 9 = .ok (.bipush 49, 2) := by decide +kernel
theorem dX9_entriesAhead_11 : decode cX9_entriesAhead 11 = .ok (.iaload, 1) := by decide +kernel
theorem dX9_entriesAhead_12 : decode cX9_entriesAhead 12 = .ok (.if_icmp .ge 38, 3) := by decide +kernel
theorem dX9_entriesAhead_15 : decode cX9_entriesAhead 15 = .ok (.iload_n 1, 1) := by decide +kernel
theorem dX9_entriesAhead_16 : decode cX9_entriesAhead 16 = .ok (.aload_n 0, 1) := by decide +kernel
theorem dX9_entriesAhead_17 : decode cX9_entriesAhead 17 = .ok (.getfield 7, 3) := by decide +kernel
theorem dX9_entriesAhead_20 : decode cX9_entriesAhead 20 = .ok (.bipush 50, 2) := by decide +kernel
theorem dX9_entriesAhead_22 : decode cX9_entriesAhead 22 = .ok (.iconst 3, 1) := by decide +kernel
theorem dX9_entriesAhead_23 : decode cX9_entriesAhead 23 = .ok (.iload_n 2, 1) := by decide +kernel
theorem dX9_entriesAhead_24 : decode cX9_entriesAhead 24 = .ok (.imul, 1) := by decide +kernel
theorem dX9_entriesAhead_25 : decode cX9_entriesAhead 25 = .ok (.iadd, 1) := by decide +kernel
theorem dX9_entriesAhead_26 : decode cX9_entriesAhead 26 = .ok (.iaload, 1) := by decide +kernel
theorem dX9_entriesAhead_27 : decode cX9_entriesAhead 27 = .ok (.aload_n 0, 1) := by decide +kernel
theorem dX9_entriesAhead_28 : decode cX9_entriesAhead 28 = .ok (.getfield 7, 3) := by decide +kernel
theorem dX9_entriesAhead_31 : decode cX9_entriesAhead 31 = .ok (.bipush 9, 2) := by decide +kernel
theorem dX9_entriesAhead_33 : decode cX9_entriesAhead 33 = .ok (.iaload, 1) := by decide +kernel
theorem dX9_entriesAhead_34 : decode cX9_entriesAhead 34 = .ok (.if_icmp .le 7, 3) := by decide +kernel
theorem dX9_entriesAhead_37 : decode cX9_entriesAhead 37 = .ok (.iconst 1, 1) := by decide +kernel
theorem dX9_entriesAhead_38 : decode cX9_entriesAhead 38 = .ok (.goto 4, 3) := by decide +kernel
theorem dX9_entriesAhead_41 : decode cX9_entriesAhead 41 = .ok (.iconst 0, 1) := by decide +kernel
theorem dX9_entriesAhead_42 : decode cX9_entriesAhead 42 = .ok (.iadd, 1) := by decide +kernel
theorem dX9_entriesAhead_43 : decode cX9_entriesAhead 43 = .ok (.istore_n 1, 1) := by decide +kernel
theorem dX9_entriesAhead_44 : decode cX9_entriesAhead 44 = .ok (.iinc 2 1, 3) := by decide +kernel
theorem dX9_entriesAhead_47 : decode cX9_entriesAhead 47 = .ok (.goto (-43), 3) := by decide +kernel
theorem dX9_entriesAhead_50 : decode cX9_entriesAhead 50 = .ok (.iload_n 1, 1) := by decide +kernel
theorem dX9_entriesAhead_51 : decode cX9_entriesAhead 51 = .ok (.ireturn, 1) := by decide +kernel
def k_X9_entriesAhead : List pEn := [oConst (0), oIstore 1, oConst (0), oIstore 2, oIload 2, oAload 0, oGet 9 0, oConst (49), oIaldN 49, oCge 31, oIload 1, oAload 0, oGet 9 0, oConst (50), oConst (3), oIload 2, oMul, oAdd, oIald, oAload 0, oGet 9 0, oConst (9), oIaldN 9, oCle 26, oConst (1), oGoto 27, oConst (0), oAdd, oIstore 1, oIinc 2 (1), oGoto 4, oIload 1, oIret]
def pc_X9_entriesAhead (i : Nat) : Nat := ([0, 1, 2, 3, 4, 5, 6, 9, 11, 12, 15, 16, 17, 20, 22, 23, 24, 25, 26, 27, 28, 31, 33, 34, 37, 38, 41, 42, 43, 44, 47, 50, 51] : List Nat).getD i 0
abbrev rm_X9_entriesAhead : Room := { frames := 0, cells := 0, slots := 0, locals := 0 }
theorem pl_X9_entriesAhead : pPlain yX9_entriesAhead 0 := by decide +kernel
set_option maxRecDepth 100000 in
set_option maxHeartbeats 4000000 in
theorem ok_k_X9_entriesAhead (l : Launch) : ∀ (i : Nat) (en : pEn), k_X9_entriesAhead[i]? = some en → EOK l cX9_entriesAhead yX9_entriesAhead.cls 3 ((some FieldType.int)) rm_X9_entriesAhead 0 pc_X9_entriesAhead i en := by
  refine allOK_at ?_
  refine And.intro (okIconst dX9_entriesAhead_0 rfl (by first | rfl | decide)) ?_
  refine And.intro (okIstore_n dX9_entriesAhead_1 rfl rfl (by decide)) ?_
  refine And.intro (okIconst dX9_entriesAhead_2 rfl (by first | rfl | decide)) ?_
  refine And.intro (okIstore_n dX9_entriesAhead_3 rfl rfl (by decide)) ?_
  refine And.intro (okIload_n dX9_entriesAhead_4 rfl rfl) ?_
  refine And.intro (okAload_n dX9_entriesAhead_5 rfl rfl) ?_
  refine And.intro (okGet (C := RX9) (T := TX9) (N := 22) dX9_entriesAhead_6 rfl rfl (by decide) inX9 wm_3_141) ?_
  refine And.intro (okBipush dX9_entriesAhead_9 rfl (by first | rfl | decide)) ?_
  refine And.intro (okIaldN dX9_entriesAhead_11 rfl) ?_
  refine And.intro (okCge dX9_entriesAhead_12 rfl (by rfl)) ?_
  refine And.intro (okIload_n dX9_entriesAhead_15 rfl rfl) ?_
  refine And.intro (okAload_n dX9_entriesAhead_16 rfl rfl) ?_
  refine And.intro (okGet (C := RX9) (T := TX9) (N := 22) dX9_entriesAhead_17 rfl rfl (by decide) inX9 wm_3_141) ?_
  refine And.intro (okBipush dX9_entriesAhead_20 rfl (by first | rfl | decide)) ?_
  refine And.intro (okIconst dX9_entriesAhead_22 rfl (by first | rfl | decide)) ?_
  refine And.intro (okIload_n dX9_entriesAhead_23 rfl rfl) ?_
  refine And.intro (okMul dX9_entriesAhead_24 rfl) ?_
  refine And.intro (okAdd dX9_entriesAhead_25 rfl) ?_
  refine And.intro (okIald dX9_entriesAhead_26 rfl) ?_
  refine And.intro (okAload_n dX9_entriesAhead_27 rfl rfl) ?_
  refine And.intro (okGet (C := RX9) (T := TX9) (N := 22) dX9_entriesAhead_28 rfl rfl (by decide) inX9 wm_3_141) ?_
  refine And.intro (okBipush dX9_entriesAhead_31 rfl (by first | rfl | decide)) ?_
  refine And.intro (okIaldN dX9_entriesAhead_33 rfl) ?_
  refine And.intro (okCle dX9_entriesAhead_34 rfl (by rfl)) ?_
  refine And.intro (okIconst dX9_entriesAhead_37 rfl (by first | rfl | decide)) ?_
  refine And.intro (okGoto dX9_entriesAhead_38 (by rfl)) ?_
  refine And.intro (okIconst dX9_entriesAhead_41 rfl (by first | rfl | decide)) ?_
  refine And.intro (okAdd dX9_entriesAhead_42 rfl) ?_
  refine And.intro (okIstore_n dX9_entriesAhead_43 rfl rfl (by decide)) ?_
  refine And.intro (okIinc dX9_entriesAhead_44 rfl (by first | rfl | decide) (by decide)) ?_
  refine And.intro (okGoto dX9_entriesAhead_47 (by rfl)) ?_
  refine And.intro (okIload_n dX9_entriesAhead_50 rfl rfl) ?_
  refine And.intro (okIret dX9_entriesAhead_51 rfl) ?_
  exact trivial
set_option maxHeartbeats 400000 in
theorem lp_ea (rg : pRg) (m : pLV) (hc : (m 1 49).toNatClampNeg ≤ 20) : ∀ (d k : Nat), k + d = (m 1 49).toNatClampNeg → ∃ fu, ex k_X9_entriesAhead fu 4 [(2, .int (nI k)), (1, .int (eaI k m)), (0, .ref 0)] [] (mdl m) rg = some (some (.int (eaR m)), mdl m, rg) := by
  intro d
  induction d with
  | zero =>
    intro k hk
    obtain rfl : k = (m 1 49).toNatClampNeg := by omega
    refine ⟨5, ?_⟩
    conv => lhs; whnf
    refine (pif_t (clamp_ge (Nat.le_refl _) (by omega))).trans ?_
    rfl
  | succ d ih =>
    intro k hk
    obtain ⟨m0, hm⟩ := ih (k + 1) (by omega)
    refine ⟨m0 + 2, ?_⟩
    by_cases h : m 1 (50 + 3 * k) ≤ m 1 9
    · rw [show eaI (k + 1) m = eaI k m + 0 from congrArg (eaI k m + ·) (if_pos h)] at hm
      conv => lhs; whnf
      refine (pif_f (clamp_le (by omega))).trans ?_
      conv => lhs; whnf
      rw [nI_at]
      refine (pif_f (nI_in (c := 50 + 3 * k) (N := 110) (by omega) (by omega))).trans ?_
      rw [nI_clamp (by omega : 50 + 3 * k < 2 ^ 31)]
      conv => lhs; whnf
      refine (pif_t h).trans ?_
      conv => lhs; whnf
      rw [nI_1]
      exact hm
    · rw [show eaI (k + 1) m = eaI k m + 1 from congrArg (eaI k m + ·) (if_neg h)] at hm
      conv => lhs; whnf
      refine (pif_f (clamp_le (by omega))).trans ?_
      conv => lhs; whnf
      rw [nI_at]
      refine (pif_f (nI_in (c := 50 + 3 * k) (N := 110) (by omega) (by omega))).trans ?_
      rw [nI_clamp (by omega : 50 + 3 * k < 2 ^ 31)]
      conv => lhs; whnf
      refine (pif_f h).trans ?_
      conv => lhs; whnf
      rw [nI_1]
      exact hm
def G_X9_entriesAhead : pG := fun args w => match args with
  | [.ref 0] => unM w (fun m => pif (eOK m) (some (some (.int (eaR m)), mdl (m))) none)
  | _ => none
set_option maxHeartbeats 400000 in
set_option maxRecDepth 100000 in
theorem run_X9_entriesAhead (rg : pRg) (m : pLV)  (hc : eOK m) : ∃ fu, ex k_X9_entriesAhead fu 0 [(0, .ref 0)] [] (mdl m) rg = some (some (.int (eaR m)), mdl (m), rg) := by
  have h := lp_ea rg m hc (m 1 49).toNatClampNeg 0 (by omega)
  exact ex_at h (fun _ => rfl)
theorem ct_X9_entriesAhead (l : Launch) : ∀ args0 w0 v0 w1 rg, G_X9_entriesAhead args0 w0 = some (v0, w1) → pCT l yX9_entriesAhead (pWs yX9_entriesAhead cX9_entriesAhead 3 ((some FieldType.int))) rm_X9_entriesAhead args0 w0 rg (v0, w1, rg) := by
  intro args0 w0 v0 w1 rg h
  unfold G_X9_entriesAhead at h
  split at h
  next  =>
    obtain ⟨m, hw, h2⟩ := unM_some h
    clear h
    subst hw
    by_cases hc : eOK m
    · have h2 := (pif_t hc).symm.trans h2
      cases h2
      exact met_of_exM (by decide) (ok_k_X9_entriesAhead l) rfl (run_X9_entriesAhead rg m  hc) (Nat.le_of_ble_eq_true rfl) rfl rfl
    · have h2 := (pif_f hc).symm.trans h2
      cases h2
  next => cases h
def F_X9_entriesAhead : pF := faN G_X9_entriesAhead
theorem ok_F_X9_entriesAhead (l : Launch) : pFOK l yX9_entriesAhead (pWs yX9_entriesAhead cX9_entriesAhead 3 ((some FieldType.int))) rm_X9_entriesAhead F_X9_entriesAhead := pFOK_fa (fun a b c d rg h => ct_X9_entriesAhead l a b c d rg h)
theorem rc_F_X9_entriesAhead : pRcv 9 F_X9_entriesAhead := pRcv_fa (fun a b c d h => by
  unfold G_X9_entriesAhead at h
  split at h
  next =>
    obtain ⟨m, rfl, h⟩ := unM_some h
    exact ⟨_, _, _, rfl, rfl⟩
  next => cases h)
theorem cl_X9_entriesAhead (m : pLV)  (rg : pRg) (hc : eOK (NM m)) : F_X9_entriesAhead [.ref 0] (mdl m) rg = some (some (.int (eaR (NM m))), mdl ((NM m)), rg) := by
  have h : G_X9_entriesAhead [.ref 0] (mdl m) = some (some (.int (eaR (NM m))), mdl ((NM m))) := pif_t hc
  unfold F_X9_entriesAhead faN
  rw [h]
end
