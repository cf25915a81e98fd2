noncomputable section
theorem dX7_countAfter_0 : decode cX7_countAfter 0 = .ok (.iconst 0, 1) := by decide +kernel
theorem dX7_countAfter_1 : decode cX7_countAfter 1 = .ok (.istore_n 2, 1) := by decide +kernel
theorem dX7_countAfter_2 : decode cX7_countAfter 2 = .ok (.iconst 0, 1) := by decide +kernel
theorem dX7_countAfter_3 : decode cX7_countAfter 3 = .ok (.istore_n 3, 1) := by decide +kernel
theorem dX7_countAfter_4 : decode cX7_countAfter 4 = .ok (.iload_n 3, 1) := by decide +kernel
theorem dX7_countAfter_5 : decode cX7_countAfter 5 = .ok (.aload_n 0, 1) := by decide +kernel
theorem dX7_countAfter_6 : decode cX7_countAfter 6 = .ok (.getfield 21, 3) := by decide +kernel
theorem dX7_countAfter_9 : decode cX7_countAfter 9 = .ok (.if_icmp .ge 28, 3) := by decide +kernel
theorem dX7_countAfter_12 : decode cX7_countAfter 12 = .ok (.iload_n 3, 1) := by decide +kernel
theorem dX7_countAfter_13 : decode cX7_countAfter 13 = .ok (.bipush 20, 2) := by decide +kernel
theorem dX7_countAfter_15 : decode cX7_countAfter 15 = .ok (.if_icmp .ge 22, 3) := by decide +kernel
theorem dX7_countAfter_18 : decode cX7_countAfter 18 = .ok (.aload_n 0, 1) := by decide +kernel
theorem dX7_countAfter_19 : decode cX7_countAfter 19 = .ok (.getfield 9, 3) := by decide +kernel
theorem dX7_countAfter_22 : decode cX7_countAfter 22 = .ok (.iload_n 3, 1) := by decide +kernel
theorem dX7_countAfter_23 : decode cX7_countAfter 23 = .ok (.iaload, 1) := by decide +kernel
theorem dX7_countAfter_24 : decode cX7_countAfter 24 = .ok (.iload_n 1, 1) := by decide +kernel
theorem dX7_countAfter_25 : decode cX7_countAfter 25 = .ok (.if_icmp .le 6, 3) := by decide +kernel
theorem dX7_countAfter_28 : decode cX7_countAfter 28 = .ok (.iinc 2 1, 3) := by decide +kernel
theorem dX7_countAfter_31 : decode cX7_countAfter 31 = .ok (.iinc 3 1, 3) := by decide +kernel
theorem dX7_countAfter_34 : decode cX7_countAfter 34 = .ok (.goto (-30), 3) := by decide +kernel
theorem dX7_countAfter_37 : decode cX7_countAfter 37 = .ok (.iload_n 2, 1) := by decide +kernel
theorem dX7_countAfter_38 : decode cX7_countAfter 38 = .ok (.ireturn, 1) := by decide +kernel
def k_X7_countAfter : List pEn := [oConst (0), oIstore 2, oConst (0), oIstore 3, oIload 3, oAload 0, oGet 7 3, oCge 20, oIload 3, oConst (20), oCge 20, oAload 0, oGet 7 0, oIload 3, oIald, oIload 1, oCle 18, oIinc 2 (1), oIinc 3 (1), oGoto 4, oIload 2, oIret]
def pc_X7_countAfter (i : Nat) : Nat := ([0, 1, 2, 3, 4, 5, 6, 9, 12, 13, 15, 18, 19, 22, 23, 24, 25, 28, 31, 34, 37, 38] : List Nat).getD i 0
abbrev rm_X7_countAfter : Room := { frames := 0, cells := 0, slots := 0, locals := 0 }
theorem pl_X7_countAfter : pPlain yX7_countAfter 1 := by decide +kernel
set_option maxRecDepth 100000 in
set_option maxHeartbeats 4000000 in
theorem ok_k_X7_countAfter (l : Launch) : ∀ (i : Nat) (en : pEn), k_X7_countAfter[i]? = some en → EOK l cX7_countAfter yX7_countAfter.cls 4 ((some FieldType.int)) rm_X7_countAfter 0 pc_X7_countAfter i en := by
  refine allOK_at ?_
  refine And.intro (okIconst dX7_countAfter_0 rfl (by first | rfl | decide)) ?_
  refine And.intro (okIstore_n dX7_countAfter_1 rfl rfl (by decide)) ?_
  refine And.intro (okIconst dX7_countAfter_2 rfl (by first | rfl | decide)) ?_
  refine And.intro (okIstore_n dX7_countAfter_3 rfl rfl (by decide)) ?_
  refine And.intro (okIload_n dX7_countAfter_4 rfl rfl) ?_
  refine And.intro (okAload_n dX7_countAfter_5 rfl rfl) ?_
  refine And.intro (okGet (C := RX7) (T := TX7) (N := 4) dX7_countAfter_6 rfl rfl (by decide) inX7 wm_1_118) ?_
  refine And.intro (okCge dX7_countAfter_9 rfl (by rfl)) ?_
  refine And.intro (okIload_n dX7_countAfter_12 rfl rfl) ?_
  refine And.intro (okBipush dX7_countAfter_13 rfl (by first | rfl | decide)) ?_
  refine And.intro (okCge dX7_countAfter_15 rfl (by rfl)) ?_
  refine And.intro (okAload_n dX7_countAfter_18 rfl rfl) ?_
  refine And.intro (okGet (C := RX7) (T := TX7) (N := 4) dX7_countAfter_19 rfl rfl (by decide) inX7 wm_1_109) ?_
  refine And.intro (okIload_n dX7_countAfter_22 rfl rfl) ?_
  refine And.intro (okIald dX7_countAfter_23 rfl) ?_
  refine And.intro (okIload_n dX7_countAfter_24 rfl rfl) ?_
  refine And.intro (okCle dX7_countAfter_25 rfl (by rfl)) ?_
  refine And.intro (okIinc dX7_countAfter_28 rfl (by first | rfl | decide) (by decide)) ?_
  refine And.intro (okIinc dX7_countAfter_31 rfl (by first | rfl | decide) (by decide)) ?_
  refine And.intro (okGoto dX7_countAfter_34 (by rfl)) ?_
  refine And.intro (okIload_n dX7_countAfter_37 rfl rfl) ?_
  refine And.intro (okIret dX7_countAfter_38 rfl) ?_
  exact trivial
def caI (f : Nat → Int32) (t : Int32) : Nat → Int32
  | 0 => 0
  | k + 1 => if f k ≤ t then caI f t k else caI f t k + 1
def caK (n : Int32) : Nat := min 20 n.toNatClampNeg
set_option maxHeartbeats 800000 in
theorem lp_ca (rg : pRg) (n t : Int32) (f g e : Nat → Int32) : ∀ (d k : Nat), k + d = caK n → ∀ ls0, (ls0 = [(3, .int (nI k)), (2, .int (caI f t k)), (0, .ref 0), (1, .int t)] ∨ ls0 = [(2, .int (caI f t k)), (3, .int (nI k)), (0, .ref 0), (1, .int t)]) → ∃ m, ex k_X7_countAfter m 4 ls0 [] [.inr (7, [.ref 1, .ref 2, .ref 3, .int n]), .inl (0, 20, .inl f), .inl (0, 20, .inl g), .inl (0, 20, .inl e)] rg = some (some (.int (caI f t (caK n))), [.inr (7, [.ref 1, .ref 2, .ref 3, .int n]), .inl (0, 20, .inl f), .inl (0, 20, .inl g), .inl (0, 20, .inl e)], rg) := by
  intro d
  induction d with
  | zero =>
    intro k hk ls0 hl
    obtain rfl : k = caK n := by omega
    have hK : caK n ≤ 20 := Nat.min_le_left _ _
    refine ⟨5, ?_⟩
    by_cases h : n.toNatClampNeg ≤ caK n
    · have h2 := clamp_ge h (by omega)
      rcases hl with rfl | rfl
      · conv => lhs; whnf
        refine (pif_t h2).trans ?_
        rfl
      · conv => lhs; whnf
        refine (pif_t h2).trans ?_
        rfl
    · have h2 : caK n = 20 := by unfold caK at h ⊢; omega
      have h3 := clamp_le (x := n) (k := caK n) (by omega)
      rcases hl with rfl | rfl
      · conv => lhs; whnf
        refine (pif_f h3).trans ?_
        conv => lhs; whnf
        refine (pif_t (by rw [h2]; decide)).trans ?_
        rfl
      · conv => lhs; whnf
        refine (pif_f h3).trans ?_
        conv => lhs; whnf
        refine (pif_t (by rw [h2]; decide)).trans ?_
        rfl
  | succ d ih =>
    intro k hk ls0 hl
    have hK : caK n ≤ 20 := Nat.min_le_left _ _
    have hK2 : caK n ≤ n.toNatClampNeg := Nat.min_le_right _ _
    have h3 := clamp_le (x := n) (k := k) (by omega)
    by_cases h : f k ≤ t
    · have e1 : caI f t (k + 1) = caI f t k := if_pos h
      obtain ⟨m, hm⟩ := ih (k + 1) (by omega) _ (Or.inl rfl)
      rw [e1] at hm
      refine ⟨m + 2, ?_⟩
      rcases hl with rfl | rfl
      · conv => lhs; whnf
        refine (pif_f h3).trans ?_
        conv => lhs; whnf
        refine (pif_f (nI_ge (a := k) (b := 20) (by omega) (by omega))).trans ?_
        conv => lhs; whnf
        refine (pif_f (nI_in (c := k) (N := 20) (by omega) (by omega))).trans ?_
        rw [nI_clamp (by omega : k < 2 ^ 31)]
        conv => lhs; whnf
        refine (pif_t h).trans ?_
        conv => lhs; whnf
        rw [nI_1]
        exact hm
      · conv => lhs; whnf
        refine (pif_f h3).trans ?_
        conv => lhs; whnf
        refine (pif_f (nI_ge (a := k) (b := 20) (by omega) (by omega))).trans ?_
        conv => lhs; whnf
        refine (pif_f (nI_in (c := k) (N := 20) (by omega) (by omega))).trans ?_
        rw [nI_clamp (by omega : k < 2 ^ 31)]
        conv => lhs; whnf
        refine (pif_t h).trans ?_
        conv => lhs; whnf
        rw [nI_1]
        exact hm
    · have e1 : caI f t (k + 1) = caI f t k + 1 := if_neg h
      obtain ⟨m, hm⟩ := ih (k + 1) (by omega) _ (Or.inl rfl)
      rw [e1] at hm
      refine ⟨m + 1, ?_⟩
      rcases hl with rfl | rfl
      · conv => lhs; whnf
        refine (pif_f h3).trans ?_
        conv => lhs; whnf
        refine (pif_f (nI_ge (a := k) (b := 20) (by omega) (by omega))).trans ?_
        conv => lhs; whnf
        refine (pif_f (nI_in (c := k) (N := 20) (by omega) (by omega))).trans ?_
        rw [nI_clamp (by omega : k < 2 ^ 31)]
        conv => lhs; whnf
        refine (pif_f h).trans ?_
        conv => lhs; whnf
        rw [nI_1]
        exact hm
      · conv => lhs; whnf
        refine (pif_f h3).trans ?_
        conv => lhs; whnf
        refine (pif_f (nI_ge (a := k) (b := 20) (by omega) (by omega))).trans ?_
        conv => lhs; whnf
        refine (pif_f (nI_in (c := k) (N := 20) (by omega) (by omega))).trans ?_
        rw [nI_clamp (by omega : k < 2 ^ 31)]
        conv => lhs; whnf
        refine (pif_f h).trans ?_
        conv => lhs; whnf
        rw [nI_1]
        exact hm
def G_X7_countAfter : pG := fun args w => match args, w with
  | [.ref 0, .int t], [.inr (7, [.ref 1, .ref 2, .ref 3, .int n]), .inl (0, 20, .inl f), .inl (0, 20, .inl g), .inl (0, 20, .inl e)] => some (some (.int (caI f t (caK n))), [.inr (7, [.ref 1, .ref 2, .ref 3, .int n]), .inl (0, 20, .inl f), .inl (0, 20, .inl g), .inl (0, 20, .inl e)])
  | _, _ => none
set_option maxHeartbeats 400000 in
set_option maxRecDepth 100000 in
theorem run_X7_countAfter (rg : pRg) (n : Int32) (f g e : Nat → Int32) (t : Int32) : ∃ fu, ex k_X7_countAfter fu 0 [(0, .ref 0), (1, .int t)] [] [.inr (7, [.ref 1, .ref 2, .ref 3, .int n]), .inl (0, 20, .inl f), .inl (0, 20, .inl g), .inl (0, 20, .inl e)] rg = some (some (.int (caI f t (caK n))), [.inr (7, [.ref 1, .ref 2, .ref 3, .int n]), .inl (0, 20, .inl f), .inl (0, 20, .inl g), .inl (0, 20, .inl e)], rg) := by
  exact ex_at (lp_ca rg n t f g e (caK n) 0 (by omega) _ (Or.inl rfl)) (fun _ => rfl)
theorem ct_X7_countAfter (l : Launch) : ∀ args0 w0 v0 w1 rg, G_X7_countAfter args0 w0 = some (v0, w1) → pCT l yX7_countAfter (pWs yX7_countAfter cX7_countAfter 4 ((some FieldType.int))) rm_X7_countAfter args0 w0 rg (v0, w1, rg) := by
  intro args0 w0 v0 w1 rg h
  unfold G_X7_countAfter at h
  split at h
  next =>
    cases h
    exact met_of_ex (by decide) (ok_k_X7_countAfter l) rfl (run_X7_countAfter rg _ _ _ _ _) (Nat.le_of_ble_eq_true rfl) rfl (Nat.le_refl _) (Nat.le_of_ble_eq_true rfl) (Nat.zero_le _) rfl rfl
  next => cases h
def F_X7_countAfter : pF := frN G_X7_countAfter
theorem ok_F_X7_countAfter (l : Launch) : pFOK l yX7_countAfter (pWs yX7_countAfter cX7_countAfter 4 ((some FieldType.int))) rm_X7_countAfter F_X7_countAfter := pFOK_fr (fun a b c d h => ct_X7_countAfter l a b c d rg00 h) (fun a b c d h => by
  unfold G_X7_countAfter at h
  split at h
  next => simp
  next => cases h)
theorem rc_F_X7_countAfter : pRcv 7 F_X7_countAfter := pRcv_fr (fun a b c d h => by
  unfold G_X7_countAfter at h
  split at h
  next => simp
  next => cases h) (fun a b c d h => by
  unfold G_X7_countAfter at h
  split at h
  next => exact ⟨_, _, _, rfl, rfl⟩
  next => cases h)
set_option maxHeartbeats 1000000 in
set_option maxRecDepth 100000 in
theorem cc_countAfter (f : Nat → Option Nat) (x v u : pLV) (t : Int32) (rg : pRg) : F_X7_countAfter [.ref 10, .int t] (cw f x v u) rg = some (some (.int (caI (v 4) t (caK (v 0 29)))), cw f x v u, rg) := rfl
end
