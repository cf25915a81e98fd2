noncomputable section
/-! COPIES, ACCOUNTS, CONTROLLERS, SCHEDULES -/
theorem dX8_copyNumbers_0 : decode cX8_copyNumbers 0 = .ok (.iconst 0, 1) := by decide +kernel
theorem dX8_copyNumbers_1 : decode cX8_copyNumbers 1 = .ok (.istore_n 2, 1) := by decide +kernel
theorem dX8_copyNumbers_2 : decode cX8_copyNumbers 2 = .ok (.iload_n 2, 1) := by decide +kernel
theorem dX8_copyNumbers_3 : decode cX8_copyNumbers 3 = .ok (.aload_n 0, 1) := by decide +kernel
theorem dX8_copyNumbers_4 : decode cX8_copyNumbers 4 = .ok (.arraylength, 1) := by decide +kernel
theorem dX8_copyNumbers_5 : decode cX8_copyNumbers 5 = .ok (.if_icmp .ge 21, 3) := by decide +kernel
theorem dX8_copyNumbers_8 : decode cX8_copyNumbers 8 = .ok (.iload_n 2, 1) := by decide +kernel
theorem dX8_copyNumbers_9 : decode cX8_copyNumbers 9 = .ok (.aload_n 1, 1) := by decide +kernel
theorem dX8_copyNumbers_10 : decode cX8_copyNumbers 10 = .ok (.arraylength, 1) := by decide +kernel
theorem dX8_copyNumbers_11 : decode cX8_copyNumbers 11 = .ok (.if_icmp .ge 15, 3) := by decide +kernel
theorem dX8_copyNumbers_14 : decode cX8_copyNumbers 14 = .ok (.aload_n 1, 1) := by decide +kernel
theorem dX8_copyNumbers_15 : decode cX8_copyNumbers 15 = .ok (.iload_n 2, 1) := by decide +kernel
theorem dX8_copyNumbers_16 : decode cX8_copyNumbers 16 = .ok (.aload_n 0, 1) := by decide +kernel
theorem dX8_copyNumbers_17 : decode cX8_copyNumbers 17 = .ok (.iload_n 2, 1) := by decide +kernel
theorem dX8_copyNumbers_18 : decode cX8_copyNumbers 18 = .ok (.iaload, 1) := by decide +kernel
theorem dX8_copyNumbers_19 : decode cX8_copyNumbers 19 = .ok (.iastore, 1) := by decide +kernel
theorem dX8_copyNumbers_20 : decode cX8_copyNumbers 20 = .ok (.iinc 2 1, 3) := by decide +kernel
theorem dX8_copyNumbers_23 : decode cX8_copyNumbers 23 = .ok (.goto (-21), 3) := by decide +kernel
theorem dX8_copyNumbers_26 : decode cX8_copyNumbers 26 = .ok (.return_, 1) := by decide +kernel
def k_X8_copyNumbers : List pEn := [oConst (0), oIstore 2, oIload 2, oAload 0, oAlen, oCge 18, oIload 2, oAload 1, oAlen, oCge 18, oAload 1, oIload 2, oAload 0, oIload 2, oIald, oIast, oIinc 2 (1), oGoto 2, oVret]
def pc_X8_copyNumbers (i : Nat) : Nat := ([0, 1, 2, 3, 4, 5, 8, 9, 10, 11, 14, 15, 16, 17, 18, 19, 20, 23, 26] : List Nat).getD i 0
abbrev rm_X8_copyNumbers : Room := { frames := 0, cells := 0, slots := 0, locals := 0 }
theorem pl_X8_copyNumbers : pPlain yX8_copyNumbers 2 := by decide +kernel
set_option maxRecDepth 100000 in
set_option maxHeartbeats 4000000 in
theorem ok_k_X8_copyNumbers (l : Launch) : ∀ (i : Nat) (en : pEn), k_X8_copyNumbers[i]? = some en → EOK l cX8_copyNumbers yX8_copyNumbers.cls 3 (none) rm_X8_copyNumbers 0 pc_X8_copyNumbers i en := by
  refine allOK_at ?_
  refine And.intro (okIconst dX8_copyNumbers_0 rfl (by first | rfl | decide)) ?_
  refine And.intro (okIstore_n dX8_copyNumbers_1 rfl rfl (by decide)) ?_
  refine And.intro (okIload_n dX8_copyNumbers_2 rfl rfl) ?_
  refine And.intro (okAload_n dX8_copyNumbers_3 rfl rfl) ?_
  refine And.intro (okAlen dX8_copyNumbers_4 rfl) ?_
  refine And.intro (okCge dX8_copyNumbers_5 rfl (by rfl)) ?_
  refine And.intro (okIload_n dX8_copyNumbers_8 rfl rfl) ?_
  refine And.intro (okAload_n dX8_copyNumbers_9 rfl rfl) ?_
  refine And.intro (okAlen dX8_copyNumbers_10 rfl) ?_
  refine And.intro (okCge dX8_copyNumbers_11 rfl (by rfl)) ?_
  refine And.intro (okAload_n dX8_copyNumbers_14 rfl rfl) ?_
  refine And.intro (okIload_n dX8_copyNumbers_15 rfl rfl) ?_
  refine And.intro (okAload_n dX8_copyNumbers_16 rfl rfl) ?_
  refine And.intro (okIload_n dX8_copyNumbers_17 rfl rfl) ?_
  refine And.intro (okIald dX8_copyNumbers_18 rfl) ?_
  refine And.intro (okIast dX8_copyNumbers_19 rfl) ?_
  refine And.intro (okIinc dX8_copyNumbers_20 rfl (by first | rfl | decide) (by decide)) ?_
  refine And.intro (okGoto dX8_copyNumbers_23 (by rfl)) ?_
  refine And.intro (okVret dX8_copyNumbers_26 rfl) ?_
  exact trivial
def cpN (n : Nat) (f g : Nat → Int32) : Nat → Int32 := fun j => if j < n then f j else g j
theorem cpN_0 (f g : Nat → Int32) : cpN 0 f g = g := by funext j; simp [cpN]
theorem cpN_s (k : Nat) (f g : Nat → Int32) : upd (cpN k f g) k (f k) = cpN (k + 1) f g := by
  funext j
  by_cases h : j = k
  · subst h; simp [upd, cpN]
  · have : (j < k) = (j < k + 1) := by rw [eq_iff_iff]; omega
    simp [upd, cpN, h, this]
theorem ex_at {code : List pEn} {i i' : Nat} {ls ls' : pLs} {st st' : pSt} {w w' : pWd} {rg : pRg} {o : pOut} (h : ∃ n, ex code n i' ls' st' w' rg = some o) (he : ∀ n, ex code (n + 1) i ls st w rg = ex code (n + 1) i' ls' st' w' rg) : ∃ n, ex code n i ls st w rg = some o := by
  obtain ⟨n, hn⟩ := h
  obtain ⟨m, rfl⟩ := ex_pos hn
  exact ⟨m + 1, (he m).trans hn⟩
set_option maxHeartbeats 1000000 in
theorem lp_copy (rg : pRg) (n : Nat) (f g : Nat → Int32) (hn : n ≤ 1000) : ∀ (d k : Nat), k + d = n → ∃ m, ex k_X8_copyNumbers m 2 [(2, .int (nI k)), (0, .ref 0), (1, .ref 1)] [] [.inl (0, n, .inl f), .inl (0, n, .inl (cpN k f g))] rg = some (none, [.inl (0, n, .inl f), .inl (0, n, .inl (cpN n f g))], rg) := by
  intro d
  induction d with
  | zero =>
    intro k hk
    obtain rfl : k = n := by omega
    refine ⟨5, ?_⟩
    conv => lhs; whnf
    refine (pif_t (nI_le (Nat.le_refl _) (by omega))).trans ?_
    rfl
  | succ d ih =>
    intro k hk
    obtain ⟨m, hm⟩ := ih (k + 1) (by omega)
    refine ⟨m + 1, ?_⟩
    conv => lhs; whnf
    refine (pif_f (nI_ge (a := k) (b := n) (by omega) (by omega))).trans ?_
    conv => lhs; whnf
    refine (pif_f (nI_ge (a := k) (b := n) (by omega) (by omega))).trans ?_
    conv => lhs; whnf
    refine (pif_f (nI_in (c := k) (N := n) (by omega) (by omega))).trans ?_
    conv => lhs; whnf
    refine (pif_f (nI_in (c := k) (N := n) (by omega) (by omega))).trans ?_
    conv => lhs; whnf
    rw [nI_clamp (by omega : k < 2 ^ 31), cpN_s, nI_1]
    exact hm
set_option maxHeartbeats 1000000 in
theorem lp_copyC (rg : pRg) (g : Nat → Int32) : ∀ (d k : Nat), k + d = 9 → ∃ m, ex k_X8_copyNumbers m 2 [(2, .int (nI k)), (0, .ref 1000000), (1, .ref 0)] [] [.inl (0, 9, .inl (cpN k (fun j => ([40, 960, 500, 300, 30, 3, 10, 500, 5] : List Int32).getD j 0) g))] rg = some (none, [.inl (0, 9, .inl (cpN 9 (fun j => ([40, 960, 500, 300, 30, 3, 10, 500, 5] : List Int32).getD j 0) g))], rg) := by
  intro d
  induction d with
  | zero =>
    intro k hk
    obtain rfl : k = 9 := by omega
    refine ⟨5, ?_⟩
    conv => lhs; whnf
    refine (pif_t (by decide)).trans ?_
    rfl
  | succ d ih =>
    intro k hk
    obtain ⟨m, hm⟩ := ih (k + 1) (by omega)
    refine ⟨m + 1, ?_⟩
    conv => lhs; whnf
    refine (pif_f (nI_ge (a := k) (b := 9) (by omega) (by omega))).trans ?_
    conv => lhs; whnf
    refine (pif_f (nI_ge (a := k) (b := 9) (by omega) (by omega))).trans ?_
    conv => lhs; whnf
    refine (pif_f (nI_in (c := k) (N := 9) (by omega) (by omega))).trans ?_
    conv => lhs; whnf
    refine (pif_f (nI_in (c := k) (N := 9) (by omega) (by omega))).trans ?_
    conv => lhs; whnf
    have e := cpN_s k (fun j => ([40, 960, 500, 300, 30, 3, 10, 500, 5] : List Int32).getD j 0) g
    rw [nI_clamp (by omega : k < 2 ^ 31), nI_1]
    rw [e]
    exact hm
def cFirst : Nat → Int32 := fun j => ([40, 960, 500, 300, 30, 3, 10, 500, 5] : List Int32).getD j 0
/-- copyNumbers: the second row is the first -/
def G_X8_copyNumbers : pG := fun args w => match args, w with
  | [.ref 0, .ref 1], [.inl (0, n, .inl f), .inl (0, n', .inl _)] => match Nat.beq n' n with
    | true => match Nat.ble n 1000 with
      | true => some (none, [.inl (0, n, .inl f), .inl (0, n, .inl f)])
      | false => none
    | false => none
  | [.ref 1000000, .ref 0], [.inl (0, 9, .inl _)] => some (none, [.inl (0, 9, .inl cFirst)])
  | _, _ => none
theorem wget2 {a b : va_E} {k : Nat} {x : va_E} (h : wget [a, b] k = some x) : (k = 0 ∧ x = a) ∨ (k = 1 ∧ x = b) := by
  match k, h with
  | 0, h => exact Or.inl ⟨rfl, (Option.some.inj h).symm⟩
  | 1, h => exact Or.inr ⟨rfl, (Option.some.inj h).symm⟩
theorem wget1 {a : va_E} {k : Nat} {x : va_E} (h : wget [a] k = some x) : k = 0 ∧ x = a := by
  match k, h with
  | 0, h => exact ⟨rfl, (Option.some.inj h).symm⟩
theorem ct_X8_copyNumbers (l : Launch) : ∀ args0 w0 v0 w1 rg, G_X8_copyNumbers args0 w0 = some (v0, w1) → pCT l yX8_copyNumbers (pWs yX8_copyNumbers cX8_copyNumbers 3 none) rm_X8_copyNumbers args0 w0 rg (v0, w1, rg) := by
  intro args0 w0 v0 w1 rg h
  unfold G_X8_copyNumbers at h
  split at h
  next n f n' g =>
    split at h
    next h1 =>
      split at h
      next h2 =>
        have e1 : n' = n := Nat.eq_of_beq_eq_true h1
        have e2 : n ≤ 1000 := Nat.le_of_ble_eq_true h2
        subst e1
        cases h
        have hr := lp_copy rg n' f g e2 n' 0 (by omega)
        rw [cpN_0] at hr
        have hrun : ∃ m, ex k_X8_copyNumbers m 0 [(0, .ref 0), (1, .ref 1)] [] [.inl (0, n', .inl f), .inl (0, n', .inl g)] rg = some (none, [.inl (0, n', .inl f), .inl (0, n', .inl (cpN n' f g))], rg) := ex_at hr (fun _ => rfl)
        refine pCT_eqv (met_of_ex (by decide) (ok_k_X8_copyNumbers l) rfl hrun (Nat.le_of_ble_eq_true rfl) rfl (Nat.le_refl _) (Nat.le_of_ble_eq_true rfl) (Nat.zero_le _) rfl rfl) ⟨rfl, fun k x hx => ?_⟩
        rcases wget2 hx with ⟨rfl, rfl⟩ | ⟨rfl, rfl⟩
        · exact ⟨_, rfl, Or.inl rfl⟩
        · exact ⟨_, rfl, Or.inr ⟨0, n', _, _, rfl, rfl, fun j hj => by simp [cpN, hj]⟩⟩
      next => cases h
    next => cases h
  next g =>
    cases h
    have hr := lp_copyC rg g 9 0 (by omega)
    rw [cpN_0] at hr
    have hrun := ex_at (i := 0) (ls := [(0, .ref 1000000), (1, .ref 0)]) (st := []) (w := [.inl (0, 9, .inl g)]) hr (fun _ => rfl)
    refine pCT_eqv (met_of_ex (by decide) (ok_k_X8_copyNumbers l) rfl hrun (Nat.le_of_ble_eq_true rfl) rfl (Nat.le_refl _) (Nat.le_of_ble_eq_true rfl) (Nat.zero_le _) rfl rfl) ⟨rfl, fun k x hx => ?_⟩
    obtain ⟨rfl, rfl⟩ := wget1 hx
    exact ⟨_, rfl, Or.inr ⟨0, 9, _, _, rfl, rfl, fun j hj => by simp [cpN, hj, cFirst]⟩⟩
  next => cases h
theorem sz_X8_copyNumbers : ∀ a b c d, G_X8_copyNumbers a b = some (c, d) → b.length ≤ 64 := by
  intro a b c d h
  unfold G_X8_copyNumbers at h
  split at h
  next => simp
  next => simp
  next => cases h
def F_X8_copyNumbers : pF := frN G_X8_copyNumbers
theorem ok_F_X8_copyNumbers (l : Launch) : pFOK l yX8_copyNumbers (pWs yX8_copyNumbers cX8_copyNumbers 3 none) rm_X8_copyNumbers F_X8_copyNumbers := pFOK_fr (fun a b c d h => ct_X8_copyNumbers l a b c d rg00 h) sz_X8_copyNumbers
def zr (k : Nat) (p : Nat → Int32) : Nat → Int32 := fun j => if j < k then 0 else p j
theorem zr_0 (p : Nat → Int32) : zr 0 p = p := by funext j; simp [zr]
theorem zr_s (k : Nat) (p : Nat → Int32) : upd (zr k p) k 0 = zr (k + 1) p := by
  funext j
  by_cases h : j = k
  · subst h; simp [upd, zr]
  · have : (j < k) = (j < k + 1) := by rw [eq_iff_iff]; omega
    simp [upd, zr, h, this]
def sumP (p : Nat → Int32) : Nat → Int32
  | 0 => 0
  | k + 1 => sumP p k + p k
theorem dX0_clear_0 : decode cX0_clear 0 = .ok (.aload_n 0, 1) := by decide +kernel
theorem dX0_clear_1 : decode cX0_clear 1 = .ok (.iconst 0, 1) := by decide +kernel
theorem dX0_clear_2 : decode cX0_clear 2 = .ok (.putfield 9, 3) := by decide +kernel
theorem dX0_clear_5 : decode cX0_clear 5 = .ok (.aload_n 0, 1) := by decide +kernel
theorem dX0_clear_6 : decode cX0_clear 6 = .ok (.iconst 0, 1) := by decide +kernel
theorem dX0_clear_7 : decode cX0_clear 7 = .ok (.putfield 15, 3) := by decide +kernel
theorem dX0_clear_10 : decode cX0_clear 10 = .ok (.aload_n 0, 1) := by decide +kernel
theorem dX0_clear_11 : decode cX0_clear 11 = .ok (.iconst 0, 1) := by decide +kernel
theorem dX0_clear_12 : decode cX0_clear 12 = .ok (.putfield 18, 3) := by decide +kernel
theorem dX0_clear_15 : decode cX0_clear 15 = .ok (.aload_n 0, 1) := by decide +kernel
theorem dX0_clear_16 : decode cX0_clear 16 = .ok (.iconst 0, 1) := by decide +kernel
theorem dX0_clear_17 : decode cX0_clear 17 = .ok (.putfield 21, 3) := by decide +kernel
theorem dX0_clear_20 : decode cX0_clear 20 = .ok (.aload_n 0, 1) := by decide +kernel
theorem dX0_clear_21 : decode cX0_clear 21 = .ok (.iconst 0, 1) := by decide +kernel
theorem dX0_clear_22 : decode cX0_clear 22 = .ok (.putfield 24, 3) := by decide +kernel
theorem dX0_clear_25 : decode cX0_clear 25 = .ok (.iconst 0, 1) := by decide +kernel
theorem dX0_clear_26 : decode cX0_clear 26 = .ok (.istore_n 1, 1) := by decide +kernel
theorem dX0_clear_27 : decode cX0_clear 27 = .ok (.iload_n 1, 1) := by decide +kernel
theorem dX0_clear_28 : decode cX0_clear 28 = .ok (.aload_n 0, 1) := by decide +kernel
theorem dX0_clear_29 : decode cX0_clear 29 = .ok (.getfield 27, 3) := by decide +kernel
theorem dX0_clear_32 : decode cX0_clear 32 = .ok (.arraylength, 1) := by decide +kernel
theorem dX0_clear_33 : decode cX0_clear 33 = .ok (.if_icmp .ge 16, 3) := by decide +kernel
theorem dX0_clear_36 : decode cX0_clear 36 = .ok (.aload_n 0, 1) := by decide +kernel
theorem dX0_clear_37 : decode cX0_clear 37 = .ok (.getfield 27, 3) := by decide +kernel
theorem dX0_clear_40 : decode cX0_clear 40 = .ok (.iload_n 1, 1) := by decide +kernel
theorem dX0_clear_41 : decode cX0_clear 41 = .ok (.iconst 0, 1) := by decide +kernel
theorem dX0_clear_42 : decode cX0_clear 42 = .ok (.iastore, 1) := by decide +kernel
theorem dX0_clear_43 : decode cX0_clear 43 = .ok (.iinc 1 1, 3) := by decide +kernel
theorem dX0_clear_46 : decode cX0_clear 46 = .ok (.goto (-19), 3) := by decide +kernel
theorem dX0_clear_49 : decode cX0_clear 49 = .ok (.return_, 1) := by decide +kernel
def k_X0_clear : List pEn := [oAload 0, oConst (0), oPut 0 0, oAload 0, oConst (0), oPut 0 1, oAload 0, oConst (0), oPut 0 2, oAload 0, oConst (0), oPut 0 3, oAload 0, oConst (0), oPut 0 4, oConst (0), oIstore 1, oIload 1, oAload 0, oGet 0 5, oAlen, oCge 29, oAload 0, oGet 0 5, oIload 1, oConst (0), oIast, oIinc 1 (1), oGoto 17, oVret]
def pc_X0_clear (i : Nat) : Nat := ([0, 1, 2, 5, 6, 7, 10, 11, 12, 15, 16, 17, 20, 21, 22, 25, 26, 27, 28, 29, 32, 33, 36, 37, 40, 41, 42, 43, 46, 49] : List Nat).getD i 0
abbrev rm_X0_clear : Room := { frames := 0, cells := 0, slots := 0, locals := 0 }
theorem pl_X0_clear : pPlain yX0_clear 0 := by decide +kernel
set_option maxRecDepth 100000 in
set_option maxHeartbeats 4000000 in
theorem ok_k_X0_clear (l : Launch) : ∀ (i : Nat) (en : pEn), k_X0_clear[i]? = some en → EOK l cX0_clear yX0_clear.cls 2 (none) rm_X0_clear 0 pc_X0_clear i en := by
  refine allOK_at ?_
  refine And.intro (okAload_n dX0_clear_0 rfl rfl) ?_
  refine And.intro (okIconst dX0_clear_1 rfl (by first | rfl | decide)) ?_
  refine And.intro (okPut (C := RX0) (T := TX0) (N := 6) dX0_clear_2 rfl rfl (by decide) inX0 tyX0_ok nmX0 rfl rfl wm_1_55) ?_
  refine And.intro (okAload_n dX0_clear_5 rfl rfl) ?_
  refine And.intro (okIconst dX0_clear_6 rfl (by first | rfl | decide)) ?_
  refine And.intro (okPut (C := RX0) (T := TX0) (N := 6) dX0_clear_7 rfl rfl (by decide) inX0 tyX0_ok nmX0 rfl rfl wm_1_58) ?_
  refine And.intro (okAload_n dX0_clear_10 rfl rfl) ?_
  refine And.intro (okIconst dX0_clear_11 rfl (by first | rfl | decide)) ?_
  refine And.intro (okPut (C := RX0) (T := TX0) (N := 6) dX0_clear_12 rfl rfl (by decide) inX0 tyX0_ok nmX0 rfl rfl wm_1_60) ?_
  refine And.intro (okAload_n dX0_clear_15 rfl rfl) ?_
  refine And.intro (okIconst dX0_clear_16 rfl (by first | rfl | decide)) ?_
  refine And.intro (okPut (C := RX0) (T := TX0) (N := 6) dX0_clear_17 rfl rfl (by decide) inX0 tyX0_ok nmX0 rfl rfl wm_1_63) ?_
  refine And.intro (okAload_n dX0_clear_20 rfl rfl) ?_
  refine And.intro (okIconst dX0_clear_21 rfl (by first | rfl | decide)) ?_
  refine And.intro (okPut (C := RX0) (T := TX0) (N := 6) dX0_clear_22 rfl rfl (by decide) inX0 tyX0_ok nmX0 rfl rfl wm_1_65) ?_
  refine And.intro (okIconst dX0_clear_25 rfl (by first | rfl | decide)) ?_
  refine And.intro (okIstore_n dX0_clear_26 rfl rfl (by decide)) ?_
  refine And.intro (okIload_n dX0_clear_27 rfl rfl) ?_
  refine And.intro (okAload_n dX0_clear_28 rfl rfl) ?_
  refine And.intro (okGet (C := RX0) (T := TX0) (N := 6) dX0_clear_29 rfl rfl (by decide) inX0 wm_1_68) ?_
  refine And.intro (okAlen dX0_clear_32 rfl) ?_
  refine And.intro (okCge dX0_clear_33 rfl (by rfl)) ?_
  refine And.intro (okAload_n dX0_clear_36 rfl rfl) ?_
  refine And.intro (okGet (C := RX0) (T := TX0) (N := 6) dX0_clear_37 rfl rfl (by decide) inX0 wm_1_68) ?_
  refine And.intro (okIload_n dX0_clear_40 rfl rfl) ?_
  refine And.intro (okIconst dX0_clear_41 rfl (by first | rfl | decide)) ?_
  refine And.intro (okIast dX0_clear_42 rfl) ?_
  refine And.intro (okIinc dX0_clear_43 rfl (by first | rfl | decide) (by decide)) ?_
  refine And.intro (okGoto dX0_clear_46 (by rfl)) ?_
  refine And.intro (okVret dX0_clear_49 rfl) ?_
  exact trivial
set_option maxHeartbeats 1000000 in
theorem lp_clear (rg : pRg) (p : Nat → Int32) : ∀ (d k : Nat), k + d = 4 → ∃ m, ex k_X0_clear m 17 [(1, .int (nI k)), (0, .ref 0)] [] [.inr (0, [.int 0, .int 0, .int 0, .int 0, .int 0, .ref 1]), .inl (0, 4, .inl (zr k p))] rg = some (none, [.inr (0, [.int 0, .int 0, .int 0, .int 0, .int 0, .ref 1]), .inl (0, 4, .inl (zr 4 p))], rg) := by
  intro d
  induction d with
  | zero =>
    intro k hk
    obtain rfl : k = 4 := by omega
    refine ⟨5, ?_⟩
    conv => lhs; whnf
    refine (pif_t (by decide)).trans ?_
    rfl
  | succ d ih =>
    intro k hk
    obtain ⟨m, hm⟩ := ih (k + 1) (by omega)
    refine ⟨m + 1, ?_⟩
    conv => lhs; whnf
    refine (pif_f (nI_ge (a := k) (b := 4) (by omega) (by omega))).trans ?_
    conv => lhs; whnf
    refine (pif_f (nI_in (c := k) (N := 4) (by omega) (by omega))).trans ?_
    conv => lhs; whnf
    rw [nI_clamp (by omega : k < 2 ^ 31), zr_s, nI_1]
    exact hm
def G_X0_clear : pG := fun args w => match args, w with
  | [.ref 0], [.inr (0, [.int a0, .int a1, .int a2, .int a3, .int a4, .ref 1]), .inl (0, 4, .inl p)] => some (none, [.inr (0, [.int 0, .int 0, .int 0, .int 0, .int 0, .ref 1]), .inl (0, 4, .inl (zr 4 p))])
  | _, _ => none
set_option maxHeartbeats 400000 in
set_option maxRecDepth 100000 in
theorem run_X0_clear (rg : pRg) (a0 a1 a2 a3 a4 : Int32) (p : Nat → Int32) : ∃ fu, ex k_X0_clear fu 0 [(0, .ref 0)] [] [.inr (0, [.int a0, .int a1, .int a2, .int a3, .int a4, .ref 1]), .inl (0, 4, .inl p)] rg = some (none, [.inr (0, [.int 0, .int 0, .int 0, .int 0, .int 0, .ref 1]), .inl (0, 4, .inl (zr 4 p))], rg) := by
  have h := lp_clear rg p 4 0 (by omega)
  rw [zr_0] at h
  exact ex_at h (fun _ => rfl)
theorem ct_X0_clear (l : Launch) : ∀ args0 w0 v0 w1 rg, G_X0_clear args0 w0 = some (v0, w1) → pCT l yX0_clear (pWs yX0_clear cX0_clear 2 (none)) rm_X0_clear args0 w0 rg (v0, w1, rg) := by
  intro args0 w0 v0 w1 rg h
  unfold G_X0_clear at h
  split at h
  next =>
    cases h
    exact met_of_ex (by decide) (ok_k_X0_clear l) rfl (run_X0_clear rg _ _ _ _ _ _) (Nat.le_of_ble_eq_true rfl) rfl (Nat.le_refl _) (Nat.le_of_ble_eq_true rfl) (Nat.zero_le _) rfl rfl
  next => cases h
def F_X0_clear : pF := frN G_X0_clear
theorem ok_F_X0_clear (l : Launch) : pFOK l yX0_clear (pWs yX0_clear cX0_clear 2 (none)) rm_X0_clear F_X0_clear := pFOK_fr (fun a b c d h => ct_X0_clear l a b c d rg00 h) (fun a b c d h => by
  unfold G_X0_clear at h
  split at h
  next => simp
  next => cases h)
theorem rc_F_X0_clear : pRcv 0 F_X0_clear := pRcv_fr (fun a b c d h => by
  unfold G_X0_clear at h
  split at h
  next => simp
  next => cases h) (fun a b c d h => by
  unfold G_X0_clear at h
  split at h
  next => exact ⟨_, _, _, rfl, rfl⟩
  next => cases h)
theorem dX0_copyFrom_0 : decode cX0_copyFrom 0 = .ok (.aload_n 0, 1) := by decide +kernel
theorem dX0_copyFrom_1 : decode cX0_copyFrom 1 = .ok (.aload_n 1, 1) := by decide +kernel
theorem dX0_copyFrom_2 : decode cX0_copyFrom 2 = .ok (.getfield 9, 3) := by decide +kernel
theorem dX0_copyFrom_5 : decode cX0_copyFrom 5 = .ok (.putfield 9, 3) := by decide +kernel
theorem dX0_copyFrom_8 : decode cX0_copyFrom 8 = .ok (.aload_n 0, 1) := by decide +kernel
theorem dX0_copyFrom_9 : decode cX0_copyFrom 9 = .ok (.aload_n 1, 1) := by decide +kernel
theorem dX0_copyFrom_10 : decode cX0_copyFrom 10 = .ok (.getfield 15, 3) := by decide +kernel
theorem dX0_copyFrom_13 : decode cX0_copyFrom 13 = .ok (.putfield 15, 3) := by decide +kernel
theorem dX0_copyFrom_16 : decode cX0_copyFrom 16 = .ok (.aload_n 0, 1) := by decide +kernel
theorem dX0_copyFrom_17 : decode cX0_copyFrom 17 = .ok (.aload_n 1, 1) := by decide +kernel
theorem dX0_copyFrom_18 : decode cX0_copyFrom 18 = .ok (.getfield 18, 3) := by decide +kernel
theorem dX0_copyFrom_21 : decode cX0_copyFrom 21 = .ok (.putfield 18, 3) := by decide +kernel
theorem dX0_copyFrom_24 : decode cX0_copyFrom 24 = .ok (.aload_n 0, 1) := by decide +kernel
theorem dX0_copyFrom_25 : decode cX0_copyFrom 25 = .ok (.aload_n 1, 1) := by decide +kernel
theorem dX0_copyFrom_26 : decode cX0_copyFrom 26 = .ok (.getfield 21, 3) := by decide +kernel
theorem dX0_copyFrom_29 : decode cX0_copyFrom 29 = .ok (.putfield 21, 3) := by decide +kernel
theorem dX0_copyFrom_32 : decode cX0_copyFrom 32 = .ok (.aload_n 0, 1) := by decide +kernel
theorem dX0_copyFrom_33 : decode cX0_copyFrom 33 = .ok (.aload_n 1, 1) := by decide +kernel
theorem dX0_copyFrom_34 : decode cX0_copyFrom 34 = .ok (.getfield 24, 3) := by decide +kernel
theorem dX0_copyFrom_37 : decode cX0_copyFrom 37 = .ok (.putfield 24, 3) := by decide +kernel
theorem dX0_copyFrom_40 : decode cX0_copyFrom 40 = .ok (.aload_n 1, 1) := by decide +kernel
theorem dX0_copyFrom_41 : decode cX0_copyFrom 41 = .ok (.getfield 27, 3) := by decide +kernel
theorem dX0_copyFrom_44 : decode cX0_copyFrom 44 = .ok (.aload_n 0, 1) := by decide +kernel
theorem dX0_copyFrom_45 : decode cX0_copyFrom 45 = .ok (.getfield 27, 3) := by decide +kernel
theorem dX0_copyFrom_48 : decode cX0_copyFrom 48 = .ok (.invokestatic 31, 3) := by decide +kernel
theorem dX0_copyFrom_51 : decode cX0_copyFrom 51 = .ok (.return_, 1) := by decide +kernel
def k_X0_copyFrom : List pEn := [oAload 0, oAload 1, oGet 0 0, oPut 0 0, oAload 0, oAload 1, oGet 0 1, oPut 0 1, oAload 0, oAload 1, oGet 0 2, oPut 0 2, oAload 0, oAload 1, oGet 0 3, oPut 0 3, oAload 0, oAload 1, oGet 0 4, oPut 0 4, oAload 1, oGet 0 5, oAload 0, oGet 0 5, oCall 2 F_X8_copyNumbers, oVret]
def pc_X0_copyFrom (i : Nat) : Nat := ([0, 1, 2, 5, 8, 9, 10, 13, 16, 17, 18, 21, 24, 25, 26, 29, 32, 33, 34, 37, 40, 41, 44, 45, 48, 51] : List Nat).getD i 0
abbrev rm_X0_copyFrom : Room := { frames := 1, cells := 0, slots := 0, locals := 22 }
theorem pl_X0_copyFrom : pPlain yX0_copyFrom 1 := by decide +kernel
set_option maxRecDepth 100000 in
set_option maxHeartbeats 4000000 in
theorem ok_k_X0_copyFrom (l : Launch) : ∀ (i : Nat) (en : pEn), k_X0_copyFrom[i]? = some en → EOK l cX0_copyFrom yX0_copyFrom.cls 2 (none) rm_X0_copyFrom 0 pc_X0_copyFrom i en := by
  refine allOK_at ?_
  refine And.intro (okAload_n dX0_copyFrom_0 rfl rfl) ?_
  refine And.intro (okAload_n dX0_copyFrom_1 rfl rfl) ?_
  refine And.intro (okGet (C := RX0) (T := TX0) (N := 6) dX0_copyFrom_2 rfl rfl (by decide) inX0 wm_1_55) ?_
  refine And.intro (okPut (C := RX0) (T := TX0) (N := 6) dX0_copyFrom_5 rfl rfl (by decide) inX0 tyX0_ok nmX0 rfl rfl wm_1_55) ?_
  refine And.intro (okAload_n dX0_copyFrom_8 rfl rfl) ?_
  refine And.intro (okAload_n dX0_copyFrom_9 rfl rfl) ?_
  refine And.intro (okGet (C := RX0) (T := TX0) (N := 6) dX0_copyFrom_10 rfl rfl (by decide) inX0 wm_1_58) ?_
  refine And.intro (okPut (C := RX0) (T := TX0) (N := 6) dX0_copyFrom_13 rfl rfl (by decide) inX0 tyX0_ok nmX0 rfl rfl wm_1_58) ?_
  refine And.intro (okAload_n dX0_copyFrom_16 rfl rfl) ?_
  refine And.intro (okAload_n dX0_copyFrom_17 rfl rfl) ?_
  refine And.intro (okGet (C := RX0) (T := TX0) (N := 6) dX0_copyFrom_18 rfl rfl (by decide) inX0 wm_1_60) ?_
  refine And.intro (okPut (C := RX0) (T := TX0) (N := 6) dX0_copyFrom_21 rfl rfl (by decide) inX0 tyX0_ok nmX0 rfl rfl wm_1_60) ?_
  refine And.intro (okAload_n dX0_copyFrom_24 rfl rfl) ?_
  refine And.intro (okAload_n dX0_copyFrom_25 rfl rfl) ?_
  refine And.intro (okGet (C := RX0) (T := TX0) (N := 6) dX0_copyFrom_26 rfl rfl (by decide) inX0 wm_1_63) ?_
  refine And.intro (okPut (C := RX0) (T := TX0) (N := 6) dX0_copyFrom_29 rfl rfl (by decide) inX0 tyX0_ok nmX0 rfl rfl wm_1_63) ?_
  refine And.intro (okAload_n dX0_copyFrom_32 rfl rfl) ?_
  refine And.intro (okAload_n dX0_copyFrom_33 rfl rfl) ?_
  refine And.intro (okGet (C := RX0) (T := TX0) (N := 6) dX0_copyFrom_34 rfl rfl (by decide) inX0 wm_1_65) ?_
  refine And.intro (okPut (C := RX0) (T := TX0) (N := 6) dX0_copyFrom_37 rfl rfl (by decide) inX0 tyX0_ok nmX0 rfl rfl wm_1_65) ?_
  refine And.intro (okAload_n dX0_copyFrom_40 rfl rfl) ?_
  refine And.intro (okGet (C := RX0) (T := TX0) (N := 6) dX0_copyFrom_41 rfl rfl (by decide) inX0 wm_1_68) ?_
  refine And.intro (okAload_n dX0_copyFrom_44 rfl rfl) ?_
  refine And.intro (okGet (C := RX0) (T := TX0) (N := 6) dX0_copyFrom_45 rfl rfl (by decide) inX0 wm_1_68) ?_
  refine And.intro (okCallSN (y := yX8_copyNumbers) (host := "BrokeLoop") (oCall_is _ _ _) dX0_copyFrom_48 rfl (ok_F_X8_copyNumbers l) (by decide) wm_1_134 wm_1_1 wm_1_135 pl_X8_copyNumbers (by decide)) ?_
  refine And.intro (okVret dX0_copyFrom_51 rfl) ?_
  exact trivial
def G_X0_copyFrom : pG := fun args w => match args, w with
  | [.ref 0, .ref 2], [.inr (0, [.int a0, .int a1, .int a2, .int a3, .int a4, .ref 1]), .inl (0, 4, .inl p), .inr (0, [.int b0, .int b1, .int b2, .int b3, .int b4, .ref 3]), .inl (0, 4, .inl q)] => some (none, [.inr (0, [.int b0, .int b1, .int b2, .int b3, .int b4, .ref 1]), .inl (0, 4, .inl q), .inr (0, [.int b0, .int b1, .int b2, .int b3, .int b4, .ref 3]), .inl (0, 4, .inl q)])
  | _, _ => none
set_option maxHeartbeats 400000 in
set_option maxRecDepth 100000 in
theorem run_X0_copyFrom (rg : pRg) (a0 a1 a2 a3 a4 : Int32) (p : Nat → Int32) (b0 b1 b2 b3 b4 : Int32) (q : Nat → Int32) : ∃ fu, ex k_X0_copyFrom fu 0 [(0, .ref 0), (1, .ref 2)] [] [.inr (0, [.int a0, .int a1, .int a2, .int a3, .int a4, .ref 1]), .inl (0, 4, .inl p), .inr (0, [.int b0, .int b1, .int b2, .int b3, .int b4, .ref 3]), .inl (0, 4, .inl q)] rg = some (none, [.inr (0, [.int b0, .int b1, .int b2, .int b3, .int b4, .ref 1]), .inl (0, 4, .inl q), .inr (0, [.int b0, .int b1, .int b2, .int b3, .int b4, .ref 3]), .inl (0, 4, .inl q)], rg) := by
  refine ⟨40, ?_⟩
  rfl
theorem ct_X0_copyFrom (l : Launch) : ∀ args0 w0 v0 w1 rg, G_X0_copyFrom args0 w0 = some (v0, w1) → pCT l yX0_copyFrom (pWs yX0_copyFrom cX0_copyFrom 2 (none)) rm_X0_copyFrom args0 w0 rg (v0, w1, rg) := by
  intro args0 w0 v0 w1 rg h
  unfold G_X0_copyFrom at h
  split at h
  next =>
    cases h
    exact met_of_ex (by decide) (ok_k_X0_copyFrom l) rfl (run_X0_copyFrom rg _ _ _ _ _ _ _ _ _ _ _ _) (Nat.le_of_ble_eq_true rfl) rfl (Nat.le_refl _) (Nat.le_of_ble_eq_true rfl) (Nat.zero_le _) rfl rfl
  next => cases h
def F_X0_copyFrom : pF := frN G_X0_copyFrom
theorem ok_F_X0_copyFrom (l : Launch) : pFOK l yX0_copyFrom (pWs yX0_copyFrom cX0_copyFrom 2 (none)) rm_X0_copyFrom F_X0_copyFrom := pFOK_fr (fun a b c d h => ct_X0_copyFrom l a b c d rg00 h) (fun a b c d h => by
  unfold G_X0_copyFrom at h
  split at h
  next => simp
  next => cases h)
theorem rc_F_X0_copyFrom : pRcv 0 F_X0_copyFrom := pRcv_fr (fun a b c d h => by
  unfold G_X0_copyFrom at h
  split at h
  next => simp
  next => cases h) (fun a b c d h => by
  unfold G_X0_copyFrom at h
  split at h
  next => exact ⟨_, _, _, rfl, rfl⟩
  next => cases h)
theorem dX0_paperOfAll_0 : decode cX0_paperOfAll 0 = .ok (.iconst 0, 1) := by decide +kernel
theorem dX0_paperOfAll_1 : decode cX0_paperOfAll 1 = .ok (.istore_n 1, 1) := by decide +kernel
theorem dX0_paperOfAll_2 : decode cX0_paperOfAll 2 = .ok (.iconst 0, 1) := by decide +kernel
theorem dX0_paperOfAll_3 : decode cX0_paperOfAll 3 = .ok (.istore_n 2, 1) := by decide +kernel
theorem dX0_paperOfAll_4 : decode cX0_paperOfAll 4 = .ok (.iload_n 2, 1) := by decide +kernel
theorem dX0_paperOfAll_5 : decode cX0_paperOfAll 5 = .ok (.aload_n 0, 1) := by decide +kernel
theorem dX0_paperOfAll_6 : decode cX0_paperOfAll 6 = .ok (.getfield 27, 3) := by decide +kernel
theorem dX0_paperOfAll_9 : decode cX0_paperOfAll 9 = .ok (.arraylength, 1) := by decide +kernel
theorem dX0_paperOfAll_10 : decode cX0_paperOfAll 10 = .ok (.if_icmp .ge 18, 3) := by decide +kernel
theorem dX0_paperOfAll_13 : decode cX0_paperOfAll 13 = .ok (.iload_n 1, 1) := by decide +kernel
theorem dX0_paperOfAll_14 : decode cX0_paperOfAll 14 = .ok (.aload_n 0, 1) := by decide +kernel
theorem dX0_paperOfAll_15 : decode cX0_paperOfAll 15 = .ok (.getfield 27, 3) := by decide +kernel
theorem dX0_paperOfAll_18 : decode cX0_paperOfAll 18 = .ok (.iload_n 2, 1) := by decide +kernel
theorem dX0_paperOfAll_19 : decode cX0_paperOfAll 19 = .ok (.iaload, 1) := by decide +kernel
theorem dX0_paperOfAll_20 : decode cX0_paperOfAll 20 = .ok (.iadd, 1) := by decide +kernel
theorem dX0_paperOfAll_21 : decode cX0_paperOfAll 21 = .ok (.istore_n 1, 1) := by decide +kernel
theorem dX0_paperOfAll_22 : decode cX0_paperOfAll 22 = .ok (.iinc 2 1, 3) := by decide +kernel
theorem dX0_paperOfAll_25 : decode cX0_paperOfAll 25 = .ok (.goto (-21), 3) := by decide +kernel
theorem dX0_paperOfAll_28 : decode cX0_paperOfAll 28 = .ok (.iload_n 1, 1) := by decide +kernel
theorem dX0_paperOfAll_29 : decode cX0_paperOfAll 29 = .ok (.ireturn, 1) := by decide +kernel
def k_X0_paperOfAll : List pEn := [oConst (0), oIstore 1, oConst (0), oIstore 2, oIload 2, oAload 0, oGet 0 5, oAlen, oCge 18, oIload 1, oAload 0, oGet 0 5, oIload 2, oIald, oAdd, oIstore 1, oIinc 2 (1), oGoto 4, oIload 1, oIret]
def pc_X0_paperOfAll (i : Nat) : Nat := ([0, 1, 2, 3, 4, 5, 6, 9, 10, 13, 14, 15, 18, 19, 20, 21, 22, 25, 28, 29] : List Nat).getD i 0
abbrev rm_X0_paperOfAll : Room := { frames := 0, cells := 0, slots := 0, locals := 0 }
theorem pl_X0_paperOfAll : pPlain yX0_paperOfAll 0 := by decide +kernel
set_option maxRecDepth 100000 in
set_option maxHeartbeats 4000000 in
theorem ok_k_X0_paperOfAll (l : Launch) : ∀ (i : Nat) (en : pEn), k_X0_paperOfAll[i]? = some en → EOK l cX0_paperOfAll yX0_paperOfAll.cls 3 ((some FieldType.int)) rm_X0_paperOfAll 0 pc_X0_paperOfAll i en := by
  refine allOK_at ?_
  refine And.intro (okIconst dX0_paperOfAll_0 rfl (by first | rfl | decide)) ?_
  refine And.intro (okIstore_n dX0_paperOfAll_1 rfl rfl (by decide)) ?_
  refine And.intro (okIconst dX0_paperOfAll_2 rfl (by first | rfl | decide)) ?_
  refine And.intro (okIstore_n dX0_paperOfAll_3 rfl rfl (by decide)) ?_
  refine And.intro (okIload_n dX0_paperOfAll_4 rfl rfl) ?_
  refine And.intro (okAload_n dX0_paperOfAll_5 rfl rfl) ?_
  refine And.intro (okGet (C := RX0) (T := TX0) (N := 6) dX0_paperOfAll_6 rfl rfl (by decide) inX0 wm_1_68) ?_
  refine And.intro (okAlen dX0_paperOfAll_9 rfl) ?_
  refine And.intro (okCge dX0_paperOfAll_10 rfl (by rfl)) ?_
  refine And.intro (okIload_n dX0_paperOfAll_13 rfl rfl) ?_
  refine And.intro (okAload_n dX0_paperOfAll_14 rfl rfl) ?_
  refine And.intro (okGet (C := RX0) (T := TX0) (N := 6) dX0_paperOfAll_15 rfl rfl (by decide) inX0 wm_1_68) ?_
  refine And.intro (okIload_n dX0_paperOfAll_18 rfl rfl) ?_
  refine And.intro (okIald dX0_paperOfAll_19 rfl) ?_
  refine And.intro (okAdd dX0_paperOfAll_20 rfl) ?_
  refine And.intro (okIstore_n dX0_paperOfAll_21 rfl rfl (by decide)) ?_
  refine And.intro (okIinc dX0_paperOfAll_22 rfl (by first | rfl | decide) (by decide)) ?_
  refine And.intro (okGoto dX0_paperOfAll_25 (by rfl)) ?_
  refine And.intro (okIload_n dX0_paperOfAll_28 rfl rfl) ?_
  refine And.intro (okIret dX0_paperOfAll_29 rfl) ?_
  exact trivial
set_option maxHeartbeats 1000000 in
theorem lp_paper (rg : pRg) (e : va_E) (p : Nat → Int32) (a0 a1 a2 a3 a4 : Int32) : ∀ (d k : Nat), k + d = 4 → ∃ m, ex k_X0_paperOfAll m 4 [(2, .int (nI k)), (1, .int (sumP p k)), (0, .ref 0)] [] [.inr (0, [.int a0, .int a1, .int a2, .int a3, .int a4, .ref 1]), .inl (0, 4, .inl p)] rg = some (some (.int (sumP p 4)), [.inr (0, [.int a0, .int a1, .int a2, .int a3, .int a4, .ref 1]), .inl (0, 4, .inl p)], rg) := by
  intro d
  induction d with
  | zero =>
    intro k hk
    obtain rfl : k = 4 := by omega
    refine ⟨5, ?_⟩
    conv => lhs; whnf
    refine (pif_t (by decide)).trans ?_
    rfl
  | succ d ih =>
    intro k hk
    obtain ⟨m, hm⟩ := ih (k + 1) (by omega)
    refine ⟨m + 1, ?_⟩
    conv => lhs; whnf
    refine (pif_f (nI_ge (a := k) (b := 4) (by omega) (by omega))).trans ?_
    conv => lhs; whnf
    refine (pif_f (nI_in (c := k) (N := 4) (by omega) (by omega))).trans ?_
    conv => lhs; whnf
    rw [nI_clamp (by omega : k < 2 ^ 31), nI_1]
    exact hm
def G_X0_paperOfAll : pG := fun args w => match args, w with
  | [.ref 0], [.inr (0, [.int a0, .int a1, .int a2, .int a3, .int a4, .ref 1]), .inl (0, 4, .inl p)] => some (some (.int (sumP p 4)), [.inr (0, [.int a0, .int a1, .int a2, .int a3, .int a4, .ref 1]), .inl (0, 4, .inl p)])
  | _, _ => none
set_option maxHeartbeats 400000 in
set_option maxRecDepth 100000 in
theorem run_X0_paperOfAll (rg : pRg) (a0 a1 a2 a3 a4 : Int32) (p : Nat → Int32) : ∃ fu, ex k_X0_paperOfAll fu 0 [(0, .ref 0)] [] [.inr (0, [.int a0, .int a1, .int a2, .int a3, .int a4, .ref 1]), .inl (0, 4, .inl p)] rg = some (some (.int (sumP p 4)), [.inr (0, [.int a0, .int a1, .int a2, .int a3, .int a4, .ref 1]), .inl (0, 4, .inl p)], rg) := by
  exact ex_at (lp_paper rg (.inl (0, 4, .inl p)) p a0 a1 a2 a3 a4 4 0 (by omega)) (fun _ => rfl)
theorem ct_X0_paperOfAll (l : Launch) : ∀ args0 w0 v0 w1 rg, G_X0_paperOfAll args0 w0 = some (v0, w1) → pCT l yX0_paperOfAll (pWs yX0_paperOfAll cX0_paperOfAll 3 ((some FieldType.int))) rm_X0_paperOfAll args0 w0 rg (v0, w1, rg) := by
  intro args0 w0 v0 w1 rg h
  unfold G_X0_paperOfAll at h
  split at h
  next =>
    cases h
    exact met_of_ex (by decide) (ok_k_X0_paperOfAll l) rfl (run_X0_paperOfAll rg _ _ _ _ _ _) (Nat.le_of_ble_eq_true rfl) rfl (Nat.le_refl _) (Nat.le_of_ble_eq_true rfl) (Nat.zero_le _) rfl rfl
  next => cases h
def F_X0_paperOfAll : pF := frN G_X0_paperOfAll
theorem ok_F_X0_paperOfAll (l : Launch) : pFOK l yX0_paperOfAll (pWs yX0_paperOfAll cX0_paperOfAll 3 ((some FieldType.int))) rm_X0_paperOfAll F_X0_paperOfAll := pFOK_fr (fun a b c d h => ct_X0_paperOfAll l a b c d rg00 h) (fun a b c d h => by
  unfold G_X0_paperOfAll at h
  split at h
  next => simp
  next => cases h)
theorem rc_F_X0_paperOfAll : pRcv 0 F_X0_paperOfAll := pRcv_fr (fun a b c d h => by
  unfold G_X0_paperOfAll at h
  split at h
  next => simp
  next => cases h) (fun a b c d h => by
  unfold G_X0_paperOfAll at h
  split at h
  next => exact ⟨_, _, _, rfl, rfl⟩
  next => cases h)
theorem dX2_clear_0 : decode cX2_clear 0 = .ok (.aload_n 0, 1) := by decide +kernel
theorem dX2_clear_1 : decode cX2_clear 1 = .ok (.iconst 0, 1) := by decide +kernel
theorem dX2_clear_2 : decode cX2_clear 2 = .ok (.putfield 9, 3) := by decide +kernel
theorem dX2_clear_5 : decode cX2_clear 5 = .ok (.aload_n 0, 1) := by decide +kernel
theorem dX2_clear_6 : decode cX2_clear 6 = .ok (.iconst 0, 1) := by decide +kernel
theorem dX2_clear_7 : decode cX2_clear 7 = .ok (.putfield 19, 3) := by decide +kernel
theorem dX2_clear_10 : decode cX2_clear 10 = .ok (.return_, 1) := by decide +kernel
def k_X2_clear : List pEn := [oAload 0, oConst (0), oPut 2 0, oAload 0, oConst (0), oPut 2 2, oVret]
def pc_X2_clear (i : Nat) : Nat := ([0, 1, 2, 5, 6, 7, 10] : List Nat).getD i 0
abbrev rm_X2_clear : Room := { frames := 0, cells := 0, slots := 0, locals := 0 }
theorem pl_X2_clear : pPlain yX2_clear 0 := by decide +kernel
set_option maxRecDepth 100000 in
set_option maxHeartbeats 4000000 in
theorem ok_k_X2_clear (l : Launch) : ∀ (i : Nat) (en : pEn), k_X2_clear[i]? = some en → EOK l cX2_clear yX2_clear.cls 1 (none) rm_X2_clear 0 pc_X2_clear i en := by
  refine allOK_at ?_
  refine And.intro (okAload_n dX2_clear_0 rfl rfl) ?_
  refine And.intro (okIconst dX2_clear_1 rfl (by first | rfl | decide)) ?_
  refine And.intro (okPut (C := RX2) (T := TX2) (N := 3) dX2_clear_2 rfl rfl (by decide) inX2 tyX2_ok nmX2 rfl rfl wm_1_91) ?_
  refine And.intro (okAload_n dX2_clear_5 rfl rfl) ?_
  refine And.intro (okIconst dX2_clear_6 rfl (by first | rfl | decide)) ?_
  refine And.intro (okPut (C := RX2) (T := TX2) (N := 3) dX2_clear_7 rfl rfl (by decide) inX2 tyX2_ok nmX2 rfl rfl wm_1_95) ?_
  refine And.intro (okVret dX2_clear_10 rfl) ?_
  exact trivial
def G_X2_clear : pG := fun args w => match args, w with
  | [.ref 0], [.inr (2, [.int v, .ref 1, .int z]), .inl (0, 9, .inl f)] => some (none, [.inr (2, [.int 0, .ref 1, .int 0]), .inl (0, 9, .inl f)])
  | _, _ => none
set_option maxHeartbeats 400000 in
set_option maxRecDepth 100000 in
theorem run_X2_clear (rg : pRg) (v z : Int32) (f : Nat → Int32) : ∃ fu, ex k_X2_clear fu 0 [(0, .ref 0)] [] [.inr (2, [.int v, .ref 1, .int z]), .inl (0, 9, .inl f)] rg = some (none, [.inr (2, [.int 0, .ref 1, .int 0]), .inl (0, 9, .inl f)], rg) := by
  refine ⟨40, ?_⟩
  rfl
theorem ct_X2_clear (l : Launch) : ∀ args0 w0 v0 w1 rg, G_X2_clear args0 w0 = some (v0, w1) → pCT l yX2_clear (pWs yX2_clear cX2_clear 1 (none)) rm_X2_clear args0 w0 rg (v0, w1, rg) := by
  intro args0 w0 v0 w1 rg h
  unfold G_X2_clear at h
  split at h
  next =>
    cases h
    exact met_of_ex (by decide) (ok_k_X2_clear l) rfl (run_X2_clear rg _ _ _) (Nat.le_of_ble_eq_true rfl) rfl (Nat.le_refl _) (Nat.le_of_ble_eq_true rfl) (Nat.zero_le _) rfl rfl
  next => cases h
def F_X2_clear : pF := frN G_X2_clear
theorem ok_F_X2_clear (l : Launch) : pFOK l yX2_clear (pWs yX2_clear cX2_clear 1 (none)) rm_X2_clear F_X2_clear := pFOK_fr (fun a b c d h => ct_X2_clear l a b c d rg00 h) (fun a b c d h => by
  unfold G_X2_clear at h
  split at h
  next => simp
  next => cases h)
theorem rc_F_X2_clear : pRcv 2 F_X2_clear := pRcv_fr (fun a b c d h => by
  unfold G_X2_clear at h
  split at h
  next => simp
  next => cases h) (fun a b c d h => by
  unfold G_X2_clear at h
  split at h
  next => exact ⟨_, _, _, rfl, rfl⟩
  next => cases h)
theorem dX2_copyFrom_0 : decode cX2_copyFrom 0 = .ok (.aload_n 0, 1) := by decide +kernel
theorem dX2_copyFrom_1 : decode cX2_copyFrom 1 = .ok (.aload_n 1, 1) := by decide +kernel
theorem dX2_copyFrom_2 : decode cX2_copyFrom 2 = .ok (.getfield 9, 3) := by decide +kernel
theorem dX2_copyFrom_5 : decode cX2_copyFrom 5 = .ok (.putfield 9, 3) := by decide +kernel
theorem dX2_copyFrom_8 : decode cX2_copyFrom 8 = .ok (.aload_n 0, 1) := by decide +kernel
theorem dX2_copyFrom_9 : decode cX2_copyFrom 9 = .ok (.aload_n 1, 1) := by decide +kernel
theorem dX2_copyFrom_10 : decode cX2_copyFrom 10 = .ok (.getfield 19, 3) := by decide +kernel
theorem dX2_copyFrom_13 : decode cX2_copyFrom 13 = .ok (.putfield 19, 3) := by decide +kernel
theorem dX2_copyFrom_16 : decode cX2_copyFrom 16 = .ok (.aload_n 1, 1) := by decide +kernel
theorem dX2_copyFrom_17 : decode cX2_copyFrom 17 = .ok (.getfield 15, 3) := by decide +kernel
theorem dX2_copyFrom_20 : decode cX2_copyFrom 20 = .ok (.aload_n 0, 1) := by decide +kernel
theorem dX2_copyFrom_21 : decode cX2_copyFrom 21 = .ok (.getfield 15, 3) := by decide +kernel
theorem dX2_copyFrom_24 : decode cX2_copyFrom 24 = .ok (.invokestatic 22, 3) := by decide +kernel
theorem dX2_copyFrom_27 : decode cX2_copyFrom 27 = .ok (.return_, 1) := by decide +kernel
def k_X2_copyFrom : List pEn := [oAload 0, oAload 1, oGet 2 0, oPut 2 0, oAload 0, oAload 1, oGet 2 2, oPut 2 2, oAload 1, oGet 2 1, oAload 0, oGet 2 1, oCall 2 F_X8_copyNumbers, oVret]
def pc_X2_copyFrom (i : Nat) : Nat := ([0, 1, 2, 5, 8, 9, 10, 13, 16, 17, 20, 21, 24, 27] : List Nat).getD i 0
abbrev rm_X2_copyFrom : Room := { frames := 1, cells := 0, slots := 0, locals := 22 }
theorem pl_X2_copyFrom : pPlain yX2_copyFrom 1 := by decide +kernel
set_option maxRecDepth 100000 in
set_option maxHeartbeats 4000000 in
theorem ok_k_X2_copyFrom (l : Launch) : ∀ (i : Nat) (en : pEn), k_X2_copyFrom[i]? = some en → EOK l cX2_copyFrom yX2_copyFrom.cls 2 (none) rm_X2_copyFrom 0 pc_X2_copyFrom i en := by
  refine allOK_at ?_
  refine And.intro (okAload_n dX2_copyFrom_0 rfl rfl) ?_
  refine And.intro (okAload_n dX2_copyFrom_1 rfl rfl) ?_
  refine And.intro (okGet (C := RX2) (T := TX2) (N := 3) dX2_copyFrom_2 rfl rfl (by decide) inX2 wm_1_91) ?_
  refine And.intro (okPut (C := RX2) (T := TX2) (N := 3) dX2_copyFrom_5 rfl rfl (by decide) inX2 tyX2_ok nmX2 rfl rfl wm_1_91) ?_
  refine And.intro (okAload_n dX2_copyFrom_8 rfl rfl) ?_
  refine And.intro (okAload_n dX2_copyFrom_9 rfl rfl) ?_
  refine And.intro (okGet (C := RX2) (T := TX2) (N := 3) dX2_copyFrom_10 rfl rfl (by decide) inX2 wm_1_95) ?_
  refine And.intro (okPut (C := RX2) (T := TX2) (N := 3) dX2_copyFrom_13 rfl rfl (by decide) inX2 tyX2_ok nmX2 rfl rfl wm_1_95) ?_
  refine And.intro (okAload_n dX2_copyFrom_16 rfl rfl) ?_
  refine And.intro (okGet (C := RX2) (T := TX2) (N := 3) dX2_copyFrom_17 rfl rfl (by decide) inX2 wm_1_94) ?_
  refine And.intro (okAload_n dX2_copyFrom_20 rfl rfl) ?_
  refine And.intro (okGet (C := RX2) (T := TX2) (N := 3) dX2_copyFrom_21 rfl rfl (by decide) inX2 wm_1_94) ?_
  refine And.intro (okCallSN (y := yX8_copyNumbers) (host := "BrokeLoop") (oCall_is _ _ _) dX2_copyFrom_24 rfl (ok_F_X8_copyNumbers l) (by decide) wm_1_134 wm_1_1 wm_1_135 pl_X8_copyNumbers (by decide)) ?_
  refine And.intro (okVret dX2_copyFrom_27 rfl) ?_
  exact trivial
def G_X2_copyFrom : pG := fun args w => match args, w with
  | [.ref 0, .ref 2], [.inr (2, [.int v, .ref 1, .int z]), .inl (0, 9, .inl f), .inr (2, [.int v2, .ref 3, .int z2]), .inl (0, 9, .inl f2)] => some (none, [.inr (2, [.int v2, .ref 1, .int z2]), .inl (0, 9, .inl f2), .inr (2, [.int v2, .ref 3, .int z2]), .inl (0, 9, .inl f2)])
  | _, _ => none
set_option maxHeartbeats 400000 in
set_option maxRecDepth 100000 in
theorem run_X2_copyFrom (rg : pRg) (v z : Int32) (f : Nat → Int32) (v2 z2 : Int32) (f2 : Nat → Int32) : ∃ fu, ex k_X2_copyFrom fu 0 [(0, .ref 0), (1, .ref 2)] [] [.inr (2, [.int v, .ref 1, .int z]), .inl (0, 9, .inl f), .inr (2, [.int v2, .ref 3, .int z2]), .inl (0, 9, .inl f2)] rg = some (none, [.inr (2, [.int v2, .ref 1, .int z2]), .inl (0, 9, .inl f2), .inr (2, [.int v2, .ref 3, .int z2]), .inl (0, 9, .inl f2)], rg) := by
  refine ⟨40, ?_⟩
  rfl
theorem ct_X2_copyFrom (l : Launch) : ∀ args0 w0 v0 w1 rg, G_X2_copyFrom args0 w0 = some (v0, w1) → pCT l yX2_copyFrom (pWs yX2_copyFrom cX2_copyFrom 2 (none)) rm_X2_copyFrom args0 w0 rg (v0, w1, rg) := by
  intro args0 w0 v0 w1 rg h
  unfold G_X2_copyFrom at h
  split at h
  next =>
    cases h
    exact met_of_ex (by decide) (ok_k_X2_copyFrom l) rfl (run_X2_copyFrom rg _ _ _ _ _ _) (Nat.le_of_ble_eq_true rfl) rfl (Nat.le_refl _) (Nat.le_of_ble_eq_true rfl) (Nat.zero_le _) rfl rfl
  next => cases h
def F_X2_copyFrom : pF := frN G_X2_copyFrom
theorem ok_F_X2_copyFrom (l : Launch) : pFOK l yX2_copyFrom (pWs yX2_copyFrom cX2_copyFrom 2 (none)) rm_X2_copyFrom F_X2_copyFrom := pFOK_fr (fun a b c d h => ct_X2_copyFrom l a b c d rg00 h) (fun a b c d h => by
  unfold G_X2_copyFrom at h
  split at h
  next => simp
  next => cases h)
theorem rc_F_X2_copyFrom : pRcv 2 F_X2_copyFrom := pRcv_fr (fun a b c d h => by
  unfold G_X2_copyFrom at h
  split at h
  next => simp
  next => cases h) (fun a b c d h => by
  unfold G_X2_copyFrom at h
  split at h
  next => exact ⟨_, _, _, rfl, rfl⟩
  next => cases h)
def ltC (z x : Int32) : Int32 := if 0 < z then x else -9
theorem dX2_latest_0 : decode cX2_latest 0 = .ok (.aload_n 0, 1) := by decide +kernel
theorem dX2_latest_1 : decode cX2_latest 1 = .ok (.getfield 19, 3) := by decide +kernel
theorem dX2_latest_4 : decode cX2_latest 4 = .ok (.ifCond .gt 8, 3) := by decide +kernel
theorem dX2_latest_7 : decode cX2_latest 7 = .ok (.bipush (-9), 2) := by decide +kernel
theorem dX2_latest_9 : decode cX2_latest 9 = .ok (.goto 9, 3) := by decide +kernel
theorem dX2_latest_12 : decode cX2_latest 12 = .ok (.aload_n 0, 1) := by decide +kernel
theorem dX2_latest_13 : decode cX2_latest 13 = .ok (.getfield 15, 3) := by decide +kernel
theorem dX2_latest_16 : decode cX2_latest 16 = .ok (.iconst 0, 1) := by decide +kernel
theorem dX2_latest_17 : decode cX2_latest 17 = .ok (.iaload, 1) := by decide +kernel
theorem dX2_latest_18 : decode cX2_latest 18 = .ok (.ireturn, 1) := by decide +kernel
def k_X2_latest : List pEn := [oAload 0, oGet 2 2, oIfgt 5, oConst (-9), oGoto 9, oAload 0, oGet 2 1, oConst (0), oIaldN 0, oIret]
def pc_X2_latest (i : Nat) : Nat := ([0, 1, 4, 7, 9, 12, 13, 16, 17, 18] : List Nat).getD i 0
abbrev rm_X2_latest : Room := { frames := 0, cells := 0, slots := 0, locals := 0 }
theorem pl_X2_latest : pPlain yX2_latest 0 := by decide +kernel
set_option maxRecDepth 100000 in
set_option maxHeartbeats 4000000 in
theorem ok_k_X2_latest (l : Launch) : ∀ (i : Nat) (en : pEn), k_X2_latest[i]? = some en → EOK l cX2_latest yX2_latest.cls 1 ((some FieldType.int)) rm_X2_latest 0 pc_X2_latest i en := by
  refine allOK_at ?_
  refine And.intro (okAload_n dX2_latest_0 rfl rfl) ?_
  refine And.intro (okGet (C := RX2) (T := TX2) (N := 3) dX2_latest_1 rfl rfl (by decide) inX2 wm_1_95) ?_
  refine And.intro (okIfgt dX2_latest_4 rfl (by rfl)) ?_
  refine And.intro (okBipush dX2_latest_7 rfl (by first | rfl | decide)) ?_
  refine And.intro (okGoto dX2_latest_9 (by rfl)) ?_
  refine And.intro (okAload_n dX2_latest_12 rfl rfl) ?_
  refine And.intro (okGet (C := RX2) (T := TX2) (N := 3) dX2_latest_13 rfl rfl (by decide) inX2 wm_1_94) ?_
  refine And.intro (okIconst dX2_latest_16 rfl (by first | rfl | decide)) ?_
  refine And.intro (okIaldN dX2_latest_17 rfl) ?_
  refine And.intro (okIret dX2_latest_18 rfl) ?_
  exact trivial
def G_X2_latest : pG := fun args w => match args, w with
  | [.ref 0], [.inr (2, [.int v, .ref 1, .int z]), .inl (0, 9, .inl f)] => some (some (.int (ltC z (f 0))), [.inr (2, [.int v, .ref 1, .int z]), .inl (0, 9, .inl f)])
  | _, _ => none
set_option maxHeartbeats 400000 in
set_option maxRecDepth 100000 in
theorem run_X2_latest (rg : pRg) (v z : Int32) (f : Nat → Int32) : ∃ fu, ex k_X2_latest fu 0 [(0, .ref 0)] [] [.inr (2, [.int v, .ref 1, .int z]), .inl (0, 9, .inl f)] rg = some (some (.int (ltC z (f 0))), [.inr (2, [.int v, .ref 1, .int z]), .inl (0, 9, .inl f)], rg) := by
  refine ⟨40, ?_⟩
  conv => lhs; whnf
  refine pif_c (fun h => ?_) (fun h => ?_)
  · simp only [ltC, if_pos h]; rfl
  · simp only [ltC, if_neg h]; rfl
theorem ct_X2_latest (l : Launch) : ∀ args0 w0 v0 w1 rg, G_X2_latest args0 w0 = some (v0, w1) → pCT l yX2_latest (pWs yX2_latest cX2_latest 1 ((some FieldType.int))) rm_X2_latest args0 w0 rg (v0, w1, rg) := by
  intro args0 w0 v0 w1 rg h
  unfold G_X2_latest at h
  split at h
  next =>
    cases h
    exact met_of_ex (by decide) (ok_k_X2_latest l) rfl (run_X2_latest rg _ _ _) (Nat.le_of_ble_eq_true rfl) rfl (Nat.le_refl _) (Nat.le_of_ble_eq_true rfl) (Nat.zero_le _) rfl rfl
  next => cases h
def F_X2_latest : pF := frN G_X2_latest
theorem ok_F_X2_latest (l : Launch) : pFOK l yX2_latest (pWs yX2_latest cX2_latest 1 ((some FieldType.int))) rm_X2_latest F_X2_latest := pFOK_fr (fun a b c d h => ct_X2_latest l a b c d rg00 h) (fun a b c d h => by
  unfold G_X2_latest at h
  split at h
  next => simp
  next => cases h)
theorem rc_F_X2_latest : pRcv 2 F_X2_latest := pRcv_fr (fun a b c d h => by
  unfold G_X2_latest at h
  split at h
  next => simp
  next => cases h) (fun a b c d h => by
  unfold G_X2_latest at h
  split at h
  next => exact ⟨_, _, _, rfl, rfl⟩
  next => cases h)
/-- the measurements move on, x is the latest -/
def shM (f : Nat → Int32) (x : Int32) : Nat → Int32 := fun j => if j = 0 then x else if j < 9 then f (j - 1) else f j
def shL (f : Nat → Int32) : Nat → Nat → Int32
  | 0 => f
  | k + 1 => upd (shL f k) (8 - k) (shL f k (7 - k))
theorem shL_eq (f : Nat → Int32) (x : Int32) : upd (shL f 8) 0 x = shM f x := by
  funext j
  match j with
  | 0 => rfl
  | 1 => rfl
  | 2 => rfl
  | 3 => rfl
  | 4 => rfl
  | 5 => rfl
  | 6 => rfl
  | 7 => rfl
  | 8 => rfl
  | j + 9 =>
    have h1 : ¬ j + 9 < 9 := by omega
    simp [shL, shM, upd, h1]
theorem dX2_measure_0 : decode cX2_measure 0 = .ok (.aload_n 0, 1) := by decide +kernel
theorem dX2_measure_1 : decode cX2_measure 1 = .ok (.getfield 15, 3) := by decide +kernel
theorem dX2_measure_4 : decode cX2_measure 4 = .ok (.arraylength, 1) := by decide +kernel
theorem dX2_measure_5 : decode cX2_measure 5 = .ok (.iconst 1, 1) := by decide +kernel
theorem dX2_measure_6 : decode cX2_measure 6 = .ok (.isub, 1) := by decide +kernel
theorem dX2_measure_7 : decode cX2_measure 7 = .ok (.istore_n 2, 1) := by decide +kernel
theorem dX2_measure_8 : decode cX2_measure 8 = .ok (.iload_n 2, 1) := by decide +kernel
theorem dX2_measure_9 : decode cX2_measure 9 = .ok (.ifCond .le 23, 3) := by decide +kernel
theorem dX2_measure_12 : decode cX2_measure 12 = .ok (.aload_n 0, 1) := by decide +kernel
theorem dX2_measure_13 : decode cX2_measure 13 = .ok (.getfield 15, 3) := by decide +kernel
theorem dX2_measure_16 : decode cX2_measure 16 = .ok (.iload_n 2, 1) := by decide +kernel
theorem dX2_measure_17 : decode cX2_measure 17 = .ok (.aload_n 0, 1) := by decide +kernel
theorem dX2_measure_18 : decode cX2_measure 18 = .ok (.getfield 15, 3) := by decide +kernel
theorem dX2_measure_21 : decode cX2_measure 21 = .ok (.iload_n 2, 1) := by decide +kernel
theorem dX2_measure_22 : decode cX2_measure 22 = .ok (.iconst 1, 1) := by decide +kernel
theorem dX2_measure_23 : decode cX2_measure 23 = .ok (.isub, 1) := by decide +kernel
theorem dX2_measure_24 : decode cX2_measure 24 = .ok (.iaload, 1) := by decide +kernel
theorem dX2_measure_25 : decode cX2_measure 25 = .ok (.iastore, 1) := by decide +kernel
theorem dX2_measure_26 : decode cX2_measure 26 = .ok (.iinc 2 (-1), 3) := by decide +kernel
theorem dX2_measure_29 : decode cX2_measure 29 = .ok (.goto (-21), 3) := by decide +kernel
theorem dX2_measure_32 : decode cX2_measure 32 = .ok (.aload_n 0, 1) := by decide +kernel
theorem dX2_measure_33 : decode cX2_measure 33 = .ok (.getfield 15, 3) := by decide +kernel
theorem dX2_measure_36 : decode cX2_measure 36 = .ok (.iconst 0, 1) := by decide +kernel
theorem dX2_measure_37 : decode cX2_measure 37 = .ok (.iload_n 1, 1) := by decide +kernel
theorem dX2_measure_38 : decode cX2_measure 38 = .ok (.iastore, 1) := by decide +kernel
theorem dX2_measure_39 : decode cX2_measure 39 = .ok (.aload_n 0, 1) := by decide +kernel
theorem dX2_measure_40 : decode cX2_measure 40 = .ok (.aload_n 0, 1) := by decide +kernel
theorem dX2_measure_41 : decode cX2_measure 41 = .ok (.getfield 19, 3) := by decide +kernel
theorem dX2_measure_44 : decode cX2_measure 44 = .ok (.iconst 1, 1) := by decide +kernel
theorem dX2_measure_45 : decode cX2_measure 45 = .ok (.iadd, 1) := by decide +kernel
theorem dX2_measure_46 : decode cX2_measure 46 = .ok (.aload_n 0, 1) := by decide +kernel
theorem dX2_measure_47 : decode cX2_measure 47 = .ok (.getfield 15, 3) := by decide +kernel
theorem dX2_measure_50 : decode cX2_measure 50 = .ok (.arraylength, 1) := by decide +kernel
theorem dX2_measure_51 : decode cX2_measure 51 = .ok (.invokestatic 26, 3) := by decide +kernel
theorem dX2_measure_54 : decode cX2_measure 54 = .ok (.putfield 19, 3) := by decide +kernel
theorem dX2_measure_57 : decode cX2_measure 57 = .ok (.return_, 1) := by decide +kernel
def k_X2_measure : List pEn := [oAload 0, oGet 2 1, oAlen, oConst (1), oSub, oIstore 2, oIload 2, oIfle 20, oAload 0, oGet 2 1, oIload 2, oAload 0, oGet 2 1, oIload 2, oConst (1), oSub, oIald, oIast, oIinc 2 (-1), oGoto 6, oAload 0, oGet 2 1, oConst (0), oIload 1, oIastN 0, oAload 0, oAload 0, oGet 2 2, oConst (1), oAdd, oAload 0, oGet 2 1, oAlen, oMin, oPut 2 2, oVret]
def pc_X2_measure (i : Nat) : Nat := ([0, 1, 4, 5, 6, 7, 8, 9, 12, 13, 16, 17, 18, 21, 22, 23, 24, 25, 26, 29, 32, 33, 36, 37, 38, 39, 40, 41, 44, 45, 46, 47, 50, 51, 54, 57] : List Nat).getD i 0
abbrev rm_X2_measure : Room := { frames := 1, cells := 0, slots := 0, locals := 21 }
theorem pl_X2_measure : pPlain yX2_measure 1 := by decide +kernel
set_option maxRecDepth 100000 in
set_option maxHeartbeats 4000000 in
theorem ok_k_X2_measure (l : Launch) : ∀ (i : Nat) (en : pEn), k_X2_measure[i]? = some en → EOK l cX2_measure yX2_measure.cls 3 (none) rm_X2_measure 0 pc_X2_measure i en := by
  refine allOK_at ?_
  refine And.intro (okAload_n dX2_measure_0 rfl rfl) ?_
  refine And.intro (okGet (C := RX2) (T := TX2) (N := 3) dX2_measure_1 rfl rfl (by decide) inX2 wm_1_94) ?_
  refine And.intro (okAlen dX2_measure_4 rfl) ?_
  refine And.intro (okIconst dX2_measure_5 rfl (by first | rfl | decide)) ?_
  refine And.intro (okSub dX2_measure_6 rfl) ?_
  refine And.intro (okIstore_n dX2_measure_7 rfl rfl (by decide)) ?_
  refine And.intro (okIload_n dX2_measure_8 rfl rfl) ?_
  refine And.intro (okIfle dX2_measure_9 rfl (by rfl)) ?_
  refine And.intro (okAload_n dX2_measure_12 rfl rfl) ?_
  refine And.intro (okGet (C := RX2) (T := TX2) (N := 3) dX2_measure_13 rfl rfl (by decide) inX2 wm_1_94) ?_
  refine And.intro (okIload_n dX2_measure_16 rfl rfl) ?_
  refine And.intro (okAload_n dX2_measure_17 rfl rfl) ?_
  refine And.intro (okGet (C := RX2) (T := TX2) (N := 3) dX2_measure_18 rfl rfl (by decide) inX2 wm_1_94) ?_
  refine And.intro (okIload_n dX2_measure_21 rfl rfl) ?_
  refine And.intro (okIconst dX2_measure_22 rfl (by first | rfl | decide)) ?_
  refine And.intro (okSub dX2_measure_23 rfl) ?_
  refine And.intro (okIald dX2_measure_24 rfl) ?_
  refine And.intro (okIast dX2_measure_25 rfl) ?_
  refine And.intro (okIinc dX2_measure_26 rfl (by first | rfl | decide) (by decide)) ?_
  refine And.intro (okGoto dX2_measure_29 (by rfl)) ?_
  refine And.intro (okAload_n dX2_measure_32 rfl rfl) ?_
  refine And.intro (okGet (C := RX2) (T := TX2) (N := 3) dX2_measure_33 rfl rfl (by decide) inX2 wm_1_94) ?_
  refine And.intro (okIconst dX2_measure_36 rfl (by first | rfl | decide)) ?_
  refine And.intro (okIload_n dX2_measure_37 rfl rfl) ?_
  refine And.intro (okIastN dX2_measure_38 rfl) ?_
  refine And.intro (okAload_n dX2_measure_39 rfl rfl) ?_
  refine And.intro (okAload_n dX2_measure_40 rfl rfl) ?_
  refine And.intro (okGet (C := RX2) (T := TX2) (N := 3) dX2_measure_41 rfl rfl (by decide) inX2 wm_1_95) ?_
  refine And.intro (okIconst dX2_measure_44 rfl (by first | rfl | decide)) ?_
  refine And.intro (okAdd dX2_measure_45 rfl) ?_
  refine And.intro (okAload_n dX2_measure_46 rfl rfl) ?_
  refine And.intro (okGet (C := RX2) (T := TX2) (N := 3) dX2_measure_47 rfl rfl (by decide) inX2 wm_1_94) ?_
  refine And.intro (okAlen dX2_measure_50 rfl) ?_
  refine And.intro (okMin dX2_measure_51 rfl wm_3_19 wm_2_95 wm_1_11 wm_2_96 (by decide) (by decide)) ?_
  refine And.intro (okPut (C := RX2) (T := TX2) (N := 3) dX2_measure_54 rfl rfl (by decide) inX2 tyX2_ok nmX2 rfl rfl wm_1_95) ?_
  refine And.intro (okVret dX2_measure_57 rfl) ?_
  exact trivial
def G_X2_measure : pG := fun args w => match args, w with
  | [.ref 0, .int x], [.inr (2, [.int v, .ref 1, .int z]), .inl (0, 9, .inl f)] => some (none, [.inr (2, [.int v, .ref 1, .int (mnI (z + 1) 9)]), .inl (0, 9, .inl (shM f x))])
  | _, _ => none
set_option maxHeartbeats 400000 in
set_option maxRecDepth 100000 in
theorem run_X2_measure (rg : pRg) (v z : Int32) (f : Nat → Int32) (x : Int32) : ∃ fu, ex k_X2_measure fu 0 [(0, .ref 0), (1, .int x)] [] [.inr (2, [.int v, .ref 1, .int z]), .inl (0, 9, .inl f)] rg = some (none, [.inr (2, [.int v, .ref 1, .int (mnI (z + 1) 9)]), .inl (0, 9, .inl (shM f x))], rg) := by
  refine ⟨40, ?_⟩
  rw [← shL_eq]
  conv => lhs; whnf
  repeat (first | (refine (pif_f (by decide)).trans ?_; conv => lhs; whnf) | (refine (pif_t (by decide)).trans ?_; conv => lhs; whnf))
  rfl
theorem ct_X2_measure (l : Launch) : ∀ args0 w0 v0 w1 rg, G_X2_measure args0 w0 = some (v0, w1) → pCT l yX2_measure (pWs yX2_measure cX2_measure 3 (none)) rm_X2_measure args0 w0 rg (v0, w1, rg) := by
  intro args0 w0 v0 w1 rg h
  unfold G_X2_measure at h
  split at h
  next =>
    cases h
    exact met_of_ex (by decide) (ok_k_X2_measure l) rfl (run_X2_measure rg _ _ _ _) (Nat.le_of_ble_eq_true rfl) rfl (Nat.le_refl _) (Nat.le_of_ble_eq_true rfl) (Nat.zero_le _) rfl rfl
  next => cases h
def F_X2_measure : pF := frN G_X2_measure
theorem ok_F_X2_measure (l : Launch) : pFOK l yX2_measure (pWs yX2_measure cX2_measure 3 (none)) rm_X2_measure F_X2_measure := pFOK_fr (fun a b c d h => ct_X2_measure l a b c d rg00 h) (fun a b c d h => by
  unfold G_X2_measure at h
  split at h
  next => simp
  next => cases h)
theorem rc_F_X2_measure : pRcv 2 F_X2_measure := pRcv_fr (fun a b c d h => by
  unfold G_X2_measure at h
  split at h
  next => simp
  next => cases h) (fun a b c d h => by
  unfold G_X2_measure at h
  split at h
  next => exact ⟨_, _, _, rfl, rfl⟩
  next => cases h)
/-- the valve that is steered -/
def ctV (v z : Int32) (f : Nat → Int32) (d t g : Int32) : Int32 := if d < 0 then v else if z ≤ d then v else if ¬ d < 9 then v else mxI 0 (mnI (v + (f d.toNatClampNeg - t) * g) 3000)
theorem dX2_control_0 : decode cX2_control 0 = .ok (.iload_n 1, 1) := by decide +kernel
theorem dX2_control_1 : decode cX2_control 1 = .ok (.ifCond .lt 20, 3) := by decide +kernel
theorem dX2_control_4 : decode cX2_control 4 = .ok (.iload_n 1, 1) := by decide +kernel
theorem dX2_control_5 : decode cX2_control 5 = .ok (.aload_n 0, 1) := by decide +kernel
theorem dX2_control_6 : decode cX2_control 6 = .ok (.getfield 19, 3) := by decide +kernel
theorem dX2_control_9 : decode cX2_control 9 = .ok (.if_icmp .ge 12, 3) := by decide +kernel
theorem dX2_control_12 : decode cX2_control 12 = .ok (.iload_n 1, 1) := by decide +kernel
theorem dX2_control_13 : decode cX2_control 13 = .ok (.aload_n 0, 1) := by decide +kernel
theorem dX2_control_14 : decode cX2_control 14 = .ok (.getfield 15, 3) := by decide +kernel
theorem dX2_control_17 : decode cX2_control 17 = .ok (.arraylength, 1) := by decide +kernel
theorem dX2_control_18 : decode cX2_control 18 = .ok (.if_icmp .lt 4, 3) := by decide +kernel
theorem dX2_control_21 : decode cX2_control 21 = .ok (.return_, 1) := by decide +kernel
theorem dX2_control_22 : decode cX2_control 22 = .ok (.aload_n 0, 1) := by decide +kernel
theorem dX2_control_23 : decode cX2_control 23 = .ok (.getfield 9, 3) := by decide +kernel
theorem dX2_control_26 : decode cX2_control 26 = .ok (.aload_n 0, 1) := by decide +kernel
theorem dX2_control_27 : decode cX2_control 27 = .ok (.getfield 15, 3) := by decide +kernel
theorem dX2_control_30 : decode cX2_control 30 = .ok (.iload_n 1, 1) := by decide +kernel
theorem dX2_control_31 : decode cX2_control 31 = .ok (.iaload, 1) := by decide +kernel
theorem dX2_control_32 : decode cX2_control 32 = .ok (.iload_n 2, 1) := by decide +kernel
theorem dX2_control_33 : decode cX2_control 33 = .ok (.isub, 1) := by decide +kernel
theorem dX2_control_34 : decode cX2_control 34 = .ok (.iload_n 3, 1) := by decide +kernel
theorem dX2_control_35 : decode cX2_control 35 = .ok (.imul, 1) := by decide +kernel
theorem dX2_control_36 : decode cX2_control 36 = .ok (.iadd, 1) := by decide +kernel
theorem dX2_control_37 : decode cX2_control 37 = .ok (.istore 4, 2) := by decide +kernel
theorem dX2_control_39 : decode cX2_control 39 = .ok (.aload_n 0, 1) := by decide +kernel
theorem dX2_control_40 : decode cX2_control 40 = .ok (.iconst 0, 1) := by decide +kernel
theorem dX2_control_41 : decode cX2_control 41 = .ok (.iload 4, 2) := by decide +kernel
theorem dX2_control_43 : decode cX2_control 43 = .ok (.sipush 3000, 3) := by decide +kernel
theorem dX2_control_46 : decode cX2_control 46 = .ok (.invokestatic 26, 3) := by decide +kernel
theorem dX2_control_49 : decode cX2_control 49 = .ok (.invokestatic 32, 3) := by decide +kernel
theorem dX2_control_52 : decode cX2_control 52 = .ok (.putfield 9, 3) := by decide +kernel
theorem dX2_control_55 : decode cX2_control 55 = .ok (.return_, 1) := by decide +kernel
def k_X2_control : List pEn := [oIload 1, oIflt 11, oIload 1, oAload 0, oGet 2 2, oCge 11, oIload 1, oAload 0, oGet 2 1, oAlen, oClt 12, oVret, oAload 0, oGet 2 0, oAload 0, oGet 2 1, oIload 1, oIald, oIload 2, oSub, oIload 3, oMul, oAdd, oIstore 4, oAload 0, oConst (0), oIload 4, oConst (3000), oMin, oMax, oPut 2 0, oVret]
def pc_X2_control (i : Nat) : Nat := ([0, 1, 4, 5, 6, 9, 12, 13, 14, 17, 18, 21, 22, 23, 26, 27, 30, 31, 32, 33, 34, 35, 36, 37, 39, 40, 41, 43, 46, 49, 52, 55] : List Nat).getD i 0
abbrev rm_X2_control : Room := { frames := 1, cells := 0, slots := 0, locals := 21 }
theorem pl_X2_control : pPlain yX2_control 3 := by decide +kernel
set_option maxRecDepth 100000 in
set_option maxHeartbeats 4000000 in
theorem ok_k_X2_control (l : Launch) : ∀ (i : Nat) (en : pEn), k_X2_control[i]? = some en → EOK l cX2_control yX2_control.cls 5 (none) rm_X2_control 0 pc_X2_control i en := by
  refine allOK_at ?_
  refine And.intro (okIload_n dX2_control_0 rfl rfl) ?_
  refine And.intro (okIflt dX2_control_1 rfl (by rfl)) ?_
  refine And.intro (okIload_n dX2_control_4 rfl rfl) ?_
  refine And.intro (okAload_n dX2_control_5 rfl rfl) ?_
  refine And.intro (okGet (C := RX2) (T := TX2) (N := 3) dX2_control_6 rfl rfl (by decide) inX2 wm_1_95) ?_
  refine And.intro (okCge dX2_control_9 rfl (by rfl)) ?_
  refine And.intro (okIload_n dX2_control_12 rfl rfl) ?_
  refine And.intro (okAload_n dX2_control_13 rfl rfl) ?_
  refine And.intro (okGet (C := RX2) (T := TX2) (N := 3) dX2_control_14 rfl rfl (by decide) inX2 wm_1_94) ?_
  refine And.intro (okAlen dX2_control_17 rfl) ?_
  refine And.intro (okClt dX2_control_18 rfl (by rfl)) ?_
  refine And.intro (okVret dX2_control_21 rfl) ?_
  refine And.intro (okAload_n dX2_control_22 rfl rfl) ?_
  refine And.intro (okGet (C := RX2) (T := TX2) (N := 3) dX2_control_23 rfl rfl (by decide) inX2 wm_1_91) ?_
  refine And.intro (okAload_n dX2_control_26 rfl rfl) ?_
  refine And.intro (okGet (C := RX2) (T := TX2) (N := 3) dX2_control_27 rfl rfl (by decide) inX2 wm_1_94) ?_
  refine And.intro (okIload_n dX2_control_30 rfl rfl) ?_
  refine And.intro (okIald dX2_control_31 rfl) ?_
  refine And.intro (okIload_n dX2_control_32 rfl rfl) ?_
  refine And.intro (okSub dX2_control_33 rfl) ?_
  refine And.intro (okIload_n dX2_control_34 rfl rfl) ?_
  refine And.intro (okMul dX2_control_35 rfl) ?_
  refine And.intro (okAdd dX2_control_36 rfl) ?_
  refine And.intro (okIstore dX2_control_37 rfl (by decide)) ?_
  refine And.intro (okAload_n dX2_control_39 rfl rfl) ?_
  refine And.intro (okIconst dX2_control_40 rfl (by first | rfl | decide)) ?_
  refine And.intro (okIload dX2_control_41 rfl) ?_
  refine And.intro (okSipush dX2_control_43 rfl (by first | rfl | decide)) ?_
  refine And.intro (okMin dX2_control_46 rfl wm_3_19 wm_2_95 wm_1_11 wm_2_96 (by decide) (by decide)) ?_
  refine And.intro (okMax dX2_control_49 rfl wm_3_24 wm_2_115 wm_1_11 wm_2_116 (by decide) (by decide)) ?_
  refine And.intro (okPut (C := RX2) (T := TX2) (N := 3) dX2_control_52 rfl rfl (by decide) inX2 tyX2_ok nmX2 rfl rfl wm_1_91) ?_
  refine And.intro (okVret dX2_control_55 rfl) ?_
  exact trivial
def G_X2_control : pG := fun args w => match args, w with
  | [.ref 0, .int d, .int t, .int g], [.inr (2, [.int v, .ref 1, .int z]), .inl (0, 9, .inl f)] => some (none, [.inr (2, [.int (ctV v z f d t g), .ref 1, .int z]), .inl (0, 9, .inl f)])
  | _, _ => none
set_option maxHeartbeats 400000 in
set_option maxRecDepth 100000 in
theorem run_X2_control (rg : pRg) (v z : Int32) (f : Nat → Int32) (d t g : Int32) : ∃ fu, ex k_X2_control fu 0 [(0, .ref 0), (1, .int d), (2, .int t), (3, .int g)] [] [.inr (2, [.int v, .ref 1, .int z]), .inl (0, 9, .inl f)] rg = some (none, [.inr (2, [.int (ctV v z f d t g), .ref 1, .int z]), .inl (0, 9, .inl f)], rg) := by
  refine ⟨40, ?_⟩
  conv => lhs; whnf
  refine pif_c (fun h => ?_) (fun h => ?_)
  · simp only [ctV, if_pos h]; rfl
  · conv => lhs; whnf
    refine pif_c (fun h2 => ?_) (fun h2 => ?_)
    · simp only [ctV, if_neg h, if_pos h2]; rfl
    · conv => lhs; whnf
      refine pif_c (fun h3 => ?_) (fun h3 => ?_)
      · conv => lhs; whnf
        refine (pif_f (fun e => ?_)).trans ?_
        · rcases e with e | e
          · exact h e
          · have h4 := Int32.lt_iff_toInt_lt.mp h3
            have h5 : (Int32.ofNat 9).toInt = 9 := by decide
            rw [h5] at h4
            have h6 : d.toNatClampNeg = d.toInt.toNat := rfl
            omega
        · have h4 : ¬ ¬ d < 9 := fun q => q h3
          simp only [ctV, if_neg h, if_neg h2, if_neg h4]; rfl
      · have h4 : ¬ d < 9 := h3
        simp only [ctV, if_neg h, if_neg h2, if_pos h4]; rfl
theorem ct_X2_control (l : Launch) : ∀ args0 w0 v0 w1 rg, G_X2_control args0 w0 = some (v0, w1) → pCT l yX2_control (pWs yX2_control cX2_control 5 (none)) rm_X2_control args0 w0 rg (v0, w1, rg) := by
  intro args0 w0 v0 w1 rg h
  unfold G_X2_control at h
  split at h
  next =>
    cases h
    exact met_of_ex (by decide) (ok_k_X2_control l) rfl (run_X2_control rg _ _ _ _ _ _) (Nat.le_of_ble_eq_true rfl) rfl (Nat.le_refl _) (Nat.le_of_ble_eq_true rfl) (Nat.zero_le _) rfl rfl
  next => cases h
def F_X2_control : pF := frN G_X2_control
theorem ok_F_X2_control (l : Launch) : pFOK l yX2_control (pWs yX2_control cX2_control 5 (none)) rm_X2_control F_X2_control := pFOK_fr (fun a b c d h => ct_X2_control l a b c d rg00 h) (fun a b c d h => by
  unfold G_X2_control at h
  split at h
  next => simp
  next => cases h)
theorem rc_F_X2_control : pRcv 2 F_X2_control := pRcv_fr (fun a b c d h => by
  unfold G_X2_control at h
  split at h
  next => simp
  next => cases h) (fun a b c d h => by
  unfold G_X2_control at h
  split at h
  next => exact ⟨_, _, _, rfl, rfl⟩
  next => cases h)
theorem dX7_copyFrom_0 : decode cX7_copyFrom 0 = .ok (.aload_n 0, 1) := by decide +kernel
theorem dX7_copyFrom_1 : decode cX7_copyFrom 1 = .ok (.aload_n 1, 1) := by decide +kernel
theorem dX7_copyFrom_2 : decode cX7_copyFrom 2 = .ok (.getfield 21, 3) := by decide +kernel
theorem dX7_copyFrom_5 : decode cX7_copyFrom 5 = .ok (.putfield 21, 3) := by decide +kernel
theorem dX7_copyFrom_8 : decode cX7_copyFrom 8 = .ok (.aload_n 1, 1) := by decide +kernel
theorem dX7_copyFrom_9 : decode cX7_copyFrom 9 = .ok (.getfield 9, 3) := by decide +kernel
theorem dX7_copyFrom_12 : decode cX7_copyFrom 12 = .ok (.aload_n 0, 1) := by decide +kernel
theorem dX7_copyFrom_13 : decode cX7_copyFrom 13 = .ok (.getfield 9, 3) := by decide +kernel
theorem dX7_copyFrom_16 : decode cX7_copyFrom 16 = .ok (.invokestatic 25, 3) := by decide +kernel
theorem dX7_copyFrom_19 : decode cX7_copyFrom 19 = .ok (.aload_n 1, 1) := by decide +kernel
theorem dX7_copyFrom_20 : decode cX7_copyFrom 20 = .ok (.getfield 15, 3) := by decide +kernel
theorem dX7_copyFrom_23 : decode cX7_copyFrom 23 = .ok (.aload_n 0, 1) := by decide +kernel
theorem dX7_copyFrom_24 : decode cX7_copyFrom 24 = .ok (.getfield 15, 3) := by decide +kernel
theorem dX7_copyFrom_27 : decode cX7_copyFrom 27 = .ok (.invokestatic 25, 3) := by decide +kernel
theorem dX7_copyFrom_30 : decode cX7_copyFrom 30 = .ok (.aload_n 1, 1) := by decide +kernel
theorem dX7_copyFrom_31 : decode cX7_copyFrom 31 = .ok (.getfield 18, 3) := by decide +kernel
theorem dX7_copyFrom_34 : decode cX7_copyFrom 34 = .ok (.aload_n 0, 1) := by decide +kernel
theorem dX7_copyFrom_35 : decode cX7_copyFrom 35 = .ok (.getfield 18, 3) := by decide +kernel
theorem dX7_copyFrom_38 : decode cX7_copyFrom 38 = .ok (.invokestatic 25, 3) := by decide +kernel
theorem dX7_copyFrom_41 : decode cX7_copyFrom 41 = .ok (.return_, 1) := by decide +kernel
def k_X7_copyFrom : List pEn := [oAload 0, oAload 1, oGet 7 3, oPut 7 3, oAload 1, oGet 7 0, oAload 0, oGet 7 0, oCall 2 F_X8_copyNumbers, oAload 1, oGet 7 1, oAload 0, oGet 7 1, oCall 2 F_X8_copyNumbers, oAload 1, oGet 7 2, oAload 0, oGet 7 2, oCall 2 F_X8_copyNumbers, oVret]
def pc_X7_copyFrom (i : Nat) : Nat := ([0, 1, 2, 5, 8, 9, 12, 13, 16, 19, 20, 23, 24, 27, 30, 31, 34, 35, 38, 41] : List Nat).getD i 0
abbrev rm_X7_copyFrom : Room := { frames := 1, cells := 0, slots := 0, locals := 22 }
theorem pl_X7_copyFrom : pPlain yX7_copyFrom 1 := by decide +kernel
set_option maxRecDepth 100000 in
set_option maxHeartbeats 4000000 in
theorem ok_k_X7_copyFrom (l : Launch) : ∀ (i : Nat) (en : pEn), k_X7_copyFrom[i]? = some en → EOK l cX7_copyFrom yX7_copyFrom.cls 2 (none) rm_X7_copyFrom 0 pc_X7_copyFrom i en := by
  refine allOK_at ?_
  refine And.intro (okAload_n dX7_copyFrom_0 rfl rfl) ?_
  refine And.intro (okAload_n dX7_copyFrom_1 rfl rfl) ?_
  refine And.intro (okGet (C := RX7) (T := TX7) (N := 4) dX7_copyFrom_2 rfl rfl (by decide) inX7 wm_1_118) ?_
  refine And.intro (okPut (C := RX7) (T := TX7) (N := 4) dX7_copyFrom_5 rfl rfl (by decide) inX7 tyX7_ok nmX7 rfl rfl wm_1_118) ?_
  refine And.intro (okAload_n dX7_copyFrom_8 rfl rfl) ?_
  refine And.intro (okGet (C := RX7) (T := TX7) (N := 4) dX7_copyFrom_9 rfl rfl (by decide) inX7 wm_1_109) ?_
  refine And.intro (okAload_n dX7_copyFrom_12 rfl rfl) ?_
  refine And.intro (okGet (C := RX7) (T := TX7) (N := 4) dX7_copyFrom_13 rfl rfl (by decide) inX7 wm_1_109) ?_
  refine And.intro (okCallSN (y := yX8_copyNumbers) (host := "BrokeLoop") (oCall_is _ _ _) dX7_copyFrom_16 rfl (ok_F_X8_copyNumbers l) (by decide) wm_1_134 wm_1_1 wm_1_135 pl_X8_copyNumbers (by decide)) ?_
  refine And.intro (okAload_n dX7_copyFrom_19 rfl rfl) ?_
  refine And.intro (okGet (C := RX7) (T := TX7) (N := 4) dX7_copyFrom_20 rfl rfl (by decide) inX7 wm_1_112) ?_
  refine And.intro (okAload_n dX7_copyFrom_23 rfl rfl) ?_
  refine And.intro (okGet (C := RX7) (T := TX7) (N := 4) dX7_copyFrom_24 rfl rfl (by decide) inX7 wm_1_112) ?_
  refine And.intro (okCallSN (y := yX8_copyNumbers) (host := "BrokeLoop") (oCall_is _ _ _) dX7_copyFrom_27 rfl (ok_F_X8_copyNumbers l) (by decide) wm_1_134 wm_1_1 wm_1_135 pl_X8_copyNumbers (by decide)) ?_
  refine And.intro (okAload_n dX7_copyFrom_30 rfl rfl) ?_
  refine And.intro (okGet (C := RX7) (T := TX7) (N := 4) dX7_copyFrom_31 rfl rfl (by decide) inX7 wm_1_115) ?_
  refine And.intro (okAload_n dX7_copyFrom_34 rfl rfl) ?_
  refine And.intro (okGet (C := RX7) (T := TX7) (N := 4) dX7_copyFrom_35 rfl rfl (by decide) inX7 wm_1_115) ?_
  refine And.intro (okCallSN (y := yX8_copyNumbers) (host := "BrokeLoop") (oCall_is _ _ _) dX7_copyFrom_38 rfl (ok_F_X8_copyNumbers l) (by decide) wm_1_134 wm_1_1 wm_1_135 pl_X8_copyNumbers (by decide)) ?_
  refine And.intro (okVret dX7_copyFrom_41 rfl) ?_
  exact trivial
def G_X7_copyFrom : pG := fun args w => match args, w with
  | [.ref 0, .ref 4], [.inr (7, [.ref 1, .ref 2, .ref 3, .int n]), .inl (0, 20, .inl f), .inl (0, 20, .inl g), .inl (0, 20, .inl h), .inr (7, [.ref 5, .ref 6, .ref 7, .int n2]), .inl (0, 20, .inl f2), .inl (0, 20, .inl g2), .inl (0, 20, .inl h2)] => some (none, [.inr (7, [.ref 1, .ref 2, .ref 3, .int n2]), .inl (0, 20, .inl f2), .inl (0, 20, .inl g2), .inl (0, 20, .inl h2), .inr (7, [.ref 5, .ref 6, .ref 7, .int n2]), .inl (0, 20, .inl f2), .inl (0, 20, .inl g2), .inl (0, 20, .inl h2)])
  | _, _ => none
set_option maxHeartbeats 400000 in
set_option maxRecDepth 100000 in
theorem run_X7_copyFrom (rg : pRg) (n : Int32) (f g h : Nat → Int32) (n2 : Int32) (f2 g2 h2 : Nat → Int32) : ∃ fu, ex k_X7_copyFrom fu 0 [(0, .ref 0), (1, .ref 4)] [] [.inr (7, [.ref 1, .ref 2, .ref 3, .int n]), .inl (0, 20, .inl f), .inl (0, 20, .inl g), .inl (0, 20, .inl h), .inr (7, [.ref 5, .ref 6, .ref 7, .int n2]), .inl (0, 20, .inl f2), .inl (0, 20, .inl g2), .inl (0, 20, .inl h2)] rg = some (none, [.inr (7, [.ref 1, .ref 2, .ref 3, .int n2]), .inl (0, 20, .inl f2), .inl (0, 20, .inl g2), .inl (0, 20, .inl h2), .inr (7, [.ref 5, .ref 6, .ref 7, .int n2]), .inl (0, 20, .inl f2), .inl (0, 20, .inl g2), .inl (0, 20, .inl h2)], rg) := by
  refine ⟨40, ?_⟩
  rfl
theorem ct_X7_copyFrom (l : Launch) : ∀ args0 w0 v0 w1 rg, G_X7_copyFrom args0 w0 = some (v0, w1) → pCT l yX7_copyFrom (pWs yX7_copyFrom cX7_copyFrom 2 (none)) rm_X7_copyFrom args0 w0 rg (v0, w1, rg) := by
  intro args0 w0 v0 w1 rg h
  unfold G_X7_copyFrom at h
  split at h
  next =>
    cases h
    exact met_of_ex (by decide) (ok_k_X7_copyFrom l) rfl (run_X7_copyFrom rg _ _ _ _ _ _ _ _) (Nat.le_of_ble_eq_true rfl) rfl (Nat.le_refl _) (Nat.le_of_ble_eq_true rfl) (Nat.zero_le _) rfl rfl
  next => cases h
def F_X7_copyFrom : pF := frN G_X7_copyFrom
theorem ok_F_X7_copyFrom (l : Launch) : pFOK l yX7_copyFrom (pWs yX7_copyFrom cX7_copyFrom 2 (none)) rm_X7_copyFrom F_X7_copyFrom := pFOK_fr (fun a b c d h => ct_X7_copyFrom l a b c d rg00 h) (fun a b c d h => by
  unfold G_X7_copyFrom at h
  split at h
  next => simp
  next => cases h)
theorem rc_F_X7_copyFrom : pRcv 7 F_X7_copyFrom := pRcv_fr (fun a b c d h => by
  unfold G_X7_copyFrom at h
  split at h
  next => simp
  next => cases h) (fun a b c d h => by
  unfold G_X7_copyFrom at h
  split at h
  next => exact ⟨_, _, _, rfl, rfl⟩
  next => cases h)
end
