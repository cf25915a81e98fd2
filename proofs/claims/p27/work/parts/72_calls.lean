noncomputable section
/-! TWO OBJECTS HANDLED ALIKE STAY ALIKE -/
def ALx (x x2 : pLV) : Prop := (∀ j, j ≠ 3 → j ≠ 4 → x 0 j = x2 0 j) ∧ x 1 = x2 1 ∧ x 2 = x2 2 ∧ x 3 = x2 3 ∧ x 4 = x2 4
theorem ALx.nx {x x2 : pLV} (h : ALx x x2) : ALx (NX x) (NX x2) := by
  refine ⟨fun j h3 h4 => ?_, h.2⟩
  match j, h3, h4 with
  | 0, h3, h4 => exact h.1 0 h3 h4
  | 1, h3, h4 => exact h.1 1 h3 h4
  | 2, h3, h4 => exact h.1 2 h3 h4
  | 3, h3, _ => exact absurd rfl h3
  | 4, _, h4 => exact absurd rfl h4
  | 5, h3, h4 => exact h.1 5 h3 h4
  | 6, h3, h4 => exact h.1 6 h3 h4
  | 7, h3, h4 => exact h.1 7 h3 h4
  | 8, h3, h4 => exact h.1 8 h3 h4
  | 9, h3, h4 => exact h.1 9 h3 h4
  | 10, h3, h4 => exact h.1 10 h3 h4
  | j + 11, _, _ => rfl
theorem vS_ne (x : pLV) {k j : Nat} (a : Int32) (h : j ≠ k) : vS x k a 0 j = x 0 j := by
  show (match Nat.beq j k with | true => a | false => x 0 j) = _
  have : Nat.beq j k = false := by
    cases e : Nat.beq j k with
    | false => rfl
    | true => exact absurd (Nat.eq_of_beq_eq_true e) h
  rw [this]
theorem vS_eq (x : pLV) (k : Nat) (a : Int32) : vS x k a 0 k = a := by
  show (match Nat.beq k k with | true => a | false => x 0 k) = _
  rw [Nat.beq_refl]
theorem ALx.s {x x2 : pLV} (h : ALx x x2) (k : Nat) {a b : Int32} (e : k ≠ 3 → k ≠ 4 → a = b) : ALx (vS x k a) (vS x2 k b) := by
  refine ⟨fun j h3 h4 => ?_, h.2⟩
  by_cases q : j = k
  · subst q
    rw [vS_eq, vS_eq]
    exact e h3 h4
  · rw [vS_ne _ _ q, vS_ne _ _ q]
    exact h.1 j h3 h4
theorem ALx.rem {x x2 : pLV} (h : ALx x x2) : ALx (xRem x) (xRem x2) := (h.s 3 (fun q => absurd rfl q)).s 4 (fun _ q => absurd rfl q)
def IMg (n : Nat) (x : pLV) (h : Nat → pLV) : Prop := (¬ x 0 5 = 0 → J n (h 8)) ∧ (¬ x 0 6 = 0 → J n (h 9))
def HRm (h : Nat → pLV) : Prop := ∀ i, i < 10 → IRm (h i)
def S2 (n : Nat) (x v : pLV) (h : Nat → pLV) (x2 : pLV) (h2 : Nat → pLV) : Prop := J n v ∧ XR x ∧ XR x2 ∧ TXo x ∧ HRm h ∧ HRm h2 ∧ IMg n x h ∧ ALx x x2 ∧ h 8 = h2 8 ∧ h 9 = h2 9
theorem IMg.up {n m : Nat} {x : pLV} {h : Nat → pLV} (g : IMg n x h) (hm : n ≤ m) : IMg m x h := ⟨fun q => (g.1 q).up hm, fun q => (g.2 q).up hm⟩
theorem S2.up {n m : Nat} {x v : pLV} {h : Nat → pLV} {x2 : pLV} {h2 : Nat → pLV} (s : S2 n x v h x2 h2) (hm : n ≤ m) : S2 m x v h x2 h2 := ⟨s.1.up hm, s.2.1, s.2.2.1, s.2.2.2.1, s.2.2.2.2.1, s.2.2.2.2.2.1, s.2.2.2.2.2.2.1.up hm, s.2.2.2.2.2.2.2⟩
theorem S2.nx {n : Nat} {x v : pLV} {h : Nat → pLV} {x2 : pLV} {h2 : Nat → pLV} (s : S2 n x v h x2 h2) : S2 n (NX x) (NL v) h (NX x2) h2 := ⟨s.1, s.2.1, s.2.2.1, s.2.2.2.1, s.2.2.2.2.1, s.2.2.2.2.2.1, s.2.2.2.2.2.2.1, s.2.2.2.2.2.2.2.1.nx, s.2.2.2.2.2.2.2.2⟩
theorem S2.nxx {n : Nat} {x v : pLV} {h : Nat → pLV} {x2 : pLV} {h2 : Nat → pLV} (s : S2 n x v h x2 h2) : S2 n (NX x) v h (NX x2) h2 := ⟨s.1, s.2.1, s.2.2.1, s.2.2.2.1, s.2.2.2.2.1, s.2.2.2.2.2.1, s.2.2.2.2.2.2.1, s.2.2.2.2.2.2.2.1.nx, s.2.2.2.2.2.2.2.2⟩
theorem slot_lt {x : pLV} (h : XR x) : (nwI (x 0 3)).toNatClampNeg < 8 := by
  obtain ⟨s, q, h1, h2, h3, h4⟩ := h
  rw [nw_q h4 h2, nI_clamp (by omega)]
  omega
theorem hRem_ne {x w : pLV} {h : Nat → pLV} {k : Nat} (hx : XR x) (hk : 8 ≤ k) : hRem x w h k = h k := if_neg (fun q => by have := slot_lt hx; omega)
theorem HRm.rem {x : pLV} (w : pLV) {h : Nat → pLV} (hx : XR x) (g : HRm h) : HRm (hRem x w h) := by
  intro i hi
  by_cases q : i = (nwI (x 0 3)).toNatClampNeg
  · rw [hRem_at x w h i q]
    exact g i hi
  · rw [show hRem x w h i = h i from if_neg q]
    exact g i hi
theorem S2.rem {n m : Nat} {x v : pLV} {h : Nat → pLV} {x2 : pLV} {h2 : Nat → pLV} (s : S2 n x v h x2 h2) (w : pLV) {v' : pLV} (hm : n ≤ m) (j : J m v') : S2 m (xRem x) v' (hRem x w h) (xRem x2) (hRem x2 w h2) := by
  obtain ⟨s1, s2, s3, s4, s5, s6, s7, s8, s9, s10⟩ := s
  refine ⟨j, s2.rem, s3.rem, s4, s5.rem w s2, s6.rem w s3, ?_, s8.rem, ?_, ?_⟩
  · have g := s7.up hm
    refine ⟨fun q => ?_, fun q => ?_⟩
    · rw [hRem_ne s2 (by omega)]
      exact g.1 q
    · rw [hRem_ne s2 (by omega)]
      exact g.2 q
  · rw [hRem_ne s2 (by omega), hRem_ne s3 (by omega)]
    exact s9
  · rw [hRem_ne s2 (by omega), hRem_ne s3 (by omega)]
    exact s10
/-- a call on either object: the same answer, and all stays true -/
def POK (F : pF) (args : List Value) : Prop := ∀ (n : Nat) (x v u : pLV) (h : Nat → pLV) (x2 u2 : pLV) (h2 : Nat → pLV), n ≤ 100000 → S2 n x v h x2 h2 → ∃ (r : Int32) (x' v' : pLV) (h' : Nat → pLV) (x2' : pLV) (h2' : Nat → pLV),
  F (.ref 0 :: args) (cw hs0 x v u) (10, h) = some (some (.int r), cw hs0 x' v' u, (10, h')) ∧ F (.ref 0 :: args) (cw hs0 x2 v u2) (10, h2) = some (some (.int r), cw hs0 x2' v' u2, (10, h2')) ∧ S2 (n + 200) x' v' h' x2' h2'
theorem POK.ch {F : pF} {args : List Value} (H : ∀ n v, n ≤ 100000 → J n v → ∃ (B R : Int32) (V : pLV), J (n + 200) V ∧ ∀ (x u : pLV) (h : Nat → pLV), F (.ref 0 :: args) (cw hs0 x v u) (10, h) = some (some (.int R), cw hs0 (if B = 0 then xRem (NX x) else NX x) V u, (10, if B = 0 then hRem (NX x) (NL v) h else h))) : POK F args := by
  intro n x v u h x2 u2 h2 hn s
  obtain ⟨B, R, V, j, e⟩ := H n v hn s.1
  refine ⟨R, _, V, _, _, _, e x u h, e x2 u2 h2, ?_⟩
  by_cases q : B = 0
  · rw [if_pos q, if_pos q, if_pos q, if_pos q]
    exact s.nx.rem (NL v) (by omega) j
  · rw [if_neg q, if_neg q, if_neg q, if_neg q]
    have g := s.nx.up (show n ≤ n + 200 by omega)
    exact ⟨j, g.2⟩
-- what each brings about
theorem J.start {n : Nat} {v : pLV} (h : J n v) : J n (startV v) := by
  obtain ⟨⟨h1, h2, h3, h4, h5, h6⟩, -, -⟩ := h
  have c1 : CH 20000 (400 : Int32) 9600 := ⟨by decide, by decide, by decide⟩
  have c2 : CH 30000 (0 : Int32) 0 := ⟨by decide, by decide, by decide⟩
  have c3 : CH 10000 (0 : Int32) 0 := ⟨by decide, by decide, by decide⟩
  have i1 : IB 0 3 (0 : Int32) := ⟨by decide, by decide⟩
  have i2 : IB 0 50 (0 : Int32) := ⟨by decide, by decide⟩
  have i3 : IB 0 20 (0 : Int32) := ⟨by decide, by decide⟩
  have i4 : IB 0 3000 (0 : Int32) := ⟨by decide, by decide⟩
  have z1 : (0 : Int32).toInt ≤ 20000 := by decide
  have z2 : (0 : Int32).toInt ≤ 30000 := by decide
  have z3 : (0 : Int32).toInt ≤ 10000 := by decide
  refine ⟨⟨h1, ⟨c1, c2, c3, c3⟩, ⟨z1, z2, z3, z3⟩, h4, ⟨i1, i2, i3, i4⟩, h6⟩, ?_, ⟨0, 0, by omega, by omega, rfl, rfl, Or.inl ⟨rfl, rfl, rfl⟩⟩⟩
  show (400 : Int32) + 0 + 0 = (0 + 0 + 0 + 0 + 0) + 0 + 0 + (400 + 0 + 0 + 0) + 0
  decide
theorem J.brk {n : Nat} {v : pLV} {t : Int32} (h : J n v) (ht : IB 0 50 t) : J n (brkV v t) := ⟨h.1.brk ht, h.2.1, h.2.2⟩
theorem J.turn {n : Nat} {v : pLV} {g : Int32} (h : J n v) (hg : IB 0 3 g) : J n (turnV v g) := by
  refine ⟨h.1.turn hg, ?_, ?_⟩
  · unfold turnV
    split
    · exact h.2.1
    · exact h.2.1
  · unfold turnV
    split
    · exact h.2.2
    · exact h.2.2
theorem cases_0 {n k : Nat} {c : Int32} (hk : c.toInt = n) (h0 : ¬ c < 0) : c = nI n ∧ c.toNatClampNeg = n := by
  have e : c = nI c.toNatClampNeg := nI_ofN (Int32.not_lt.mp h0)
  have e2 : c.toNatClampNeg = c.toInt.toNat := rfl
  have e3 : c.toNatClampNeg = n := by omega
  exact ⟨by rw [← e3]; exact e, e3⟩
theorem toN_lt {c : Int32} {n : Nat} (h0 : ¬ c < 0) (hn : ¬ nI n ≤ c) (h : n < 2 ^ 31) : c.toNatClampNeg < n := by
  have e : c = nI c.toNatClampNeg := nI_ofN (Int32.not_lt.mp h0)
  rw [ile, nI_toInt h] at hn
  have e2 : c.toNatClampNeg = c.toInt.toNat := rfl
  have e3 := ile.mp (Int32.not_lt.mp h0)
  rw [toI0] at e3
  omega
theorem J.set {n : Nat} {v : pLV} {s a : Int32} (h : J n v) (h0 : ¬ s < 0) (h9 : ¬ 9 ≤ s) (hl : ¬ a < lstV s) (hm : ¬ mstV s < a) : J n (vA v 1 (upd (v 1) s.toNatClampNeg a)) := by
  have e : s = nI s.toNatClampNeg := nI_ofN (Int32.not_lt.mp h0)
  have hk := toN_lt (n := 9) h0 h9 (by omega)
  have hl := ile.mp (Int32.not_lt.mp hl)
  have hm := ile.mp (Int32.not_lt.mp hm)
  unfold lstV at hl
  unfold mstV at hm
  generalize s.toNatClampNeg = k at hk hl hm ⊢
  obtain ⟨⟨h1, h2, h3, ⟨t0, t1, t2, t3, t7, t8⟩, h5, h6⟩, jb, jc⟩ := h
  have mk : ∀ w : pLV, w = vA v 1 (upd (v 1) k a) → ISt w → J n w := by
    intro w hw hs
    subst hw
    exact ⟨⟨h1, h2, h3, hs, h5, h6⟩, jb, jc⟩
  refine mk _ rfl ?_
  rcases (show k = 0 ∨ k = 1 ∨ k = 2 ∨ k = 3 ∨ k = 4 ∨ k = 5 ∨ k = 6 ∨ k = 7 ∨ k = 8 by omega) with rfl | rfl | rfl | rfl | rfl | rfl | rfl | rfl | rfl
  · exact ⟨⟨hl, hm⟩, t1, t2, t3, t7, t8⟩
  · exact ⟨t0, ⟨hl, hm⟩, t2, t3, t7, t8⟩
  · exact ⟨t0, t1, ⟨hl, hm⟩, t3, t7, t8⟩
  · exact ⟨t0, t1, t2, ⟨hl, hm⟩, t7, t8⟩
  · exact ⟨t0, t1, t2, t3, t7, t8⟩
  · exact ⟨t0, t1, t2, t3, t7, t8⟩
  · exact ⟨t0, t1, t2, t3, t7, t8⟩
  · exact ⟨t0, t1, t2, t3, ⟨hl, hm⟩, t8⟩
  · exact ⟨t0, t1, t2, t3, t7, ⟨hl, hm⟩⟩
theorem J.gvn {v : pLV} {a : Int32} (h : BL 0 v) : BL a (vS v 23 (v 0 23 + a)) := by
  have h : 400 + v 0 22 + v 0 23 = sumP (v 2) 4 + v 0 24 + v 0 25 + fibV v + 0 := h
  show 400 + v 0 22 + (v 0 23 + a) = sumP (v 2) 4 + v 0 24 + v 0 25 + fibV v + a
  grind
theorem J.fill {n : Nat} {v : pLV} {k : Nat} {a b : Int32} (h : J n v) (hk : k < 4) (ha : 0 ≤ a.toInt) (hb : 0 ≤ b.toInt) (hab : a.toInt + b.toInt ≤ 1000000) : J n (pourV k (vS v 23 (v 0 23 + a)) a b) := by
  have ja : JA (vS v 23 (v 0 23 + a)) := h.1
  have jb : BL a (vS v 23 (v 0 23 + a)) := J.gvn h.2.1
  have jc : ICk n (vS v 23 (v 0 23 + a)) := h.2.2
  generalize vS v 23 (v 0 23 + a) = y at ja jb jc ⊢
  rcases (show k = 0 ∨ k = 1 ∨ k = 2 ∨ k = 3 by omega) with rfl | rfl | rfl | rfl
  · exact ⟨ja.pour0 ha hb hab, jb.pour0 b, jc⟩
  · exact ⟨ja.pour1 ha hb hab, jb.pour1 b, jc⟩
  · exact ⟨ja.pour2 ha hb hab, jb.pour2 b, jc⟩
  · exact ⟨ja.pour3 ha hb hab, jb.pour3 b, jc⟩
theorem mn_tak {r : Int} {f g a : Int32} (h : CH r f g) (hr : r ≤ 3000000) (ha : 0 ≤ a.toInt) : 0 ≤ (mnI a (f + g)).toInt ∧ (mnI a (f + g)).toInt ≤ f.toInt + g.toInt := by
  have s := h.sum hr
  obtain ⟨h1, h2, h3⟩ := h
  rw [mnI_i, s]
  omega
theorem J.drain0 {n : Nat} {v : pLV} {a : Int32} (h : J n v) (ha : 0 ≤ a.toInt) : J n (vS (vS (vS v (10 + 3 * 0) (v 0 (10 + 3 * 0) - tkR (v 0 (10 + 3 * 0)) (v 0 (11 + 3 * 0)) (mnI a (v 0 (10 + 3 * 0) + v 0 (11 + 3 * 0))))) (11 + 3 * 0) (tkG (v 0 (10 + 3 * 0)) (v 0 (11 + 3 * 0)) (mnI a (v 0 (10 + 3 * 0) + v 0 (11 + 3 * 0))))) 25 (v 0 25 + tkR (v 0 (10 + 3 * 0)) (v 0 (11 + 3 * 0)) (mnI a (v 0 (10 + 3 * 0) + v 0 (11 + 3 * 0))))) := by
  have hm := mn_tak h.1.2.1.1 (by omega) ha
  refine ⟨⟨h.1.1, ⟨(take_CH h.1.2.1.1 (by omega) hm.1 hm.2), h.1.2.1.2.1, h.1.2.1.2.2.1, h.1.2.1.2.2.2⟩, h.1.2.2.1, h.1.2.2.2.1, h.1.2.2.2.2.1, h.1.2.2.2.2.2⟩, ?_, h.2.2⟩
  have hb : 400 + v 0 22 + v 0 23 = sumP (v 2) 4 + v 0 24 + v 0 25 + (v 0 10 + v 0 13 + v 0 16 + v 0 19) + 0 := h.2.1
  show 400 + v 0 22 + v 0 23 = sumP (v 2) 4 + v 0 24 + (v 0 25 + tkR (v 0 10) (v 0 11) (mnI a (v 0 10 + v 0 11))) + ((v 0 10 - tkR (v 0 10) (v 0 11) (mnI a (v 0 10 + v 0 11))) + v 0 13 + v 0 16 + v 0 19) + 0
  generalize tkR (v 0 10) (v 0 11) (mnI a (v 0 10 + v 0 11)) = t
  grind
theorem J.drain1 {n : Nat} {v : pLV} {a : Int32} (h : J n v) (ha : 0 ≤ a.toInt) : J n (vS (vS (vS v (10 + 3 * 1) (v 0 (10 + 3 * 1) - tkR (v 0 (10 + 3 * 1)) (v 0 (11 + 3 * 1)) (mnI a (v 0 (10 + 3 * 1) + v 0 (11 + 3 * 1))))) (11 + 3 * 1) (tkG (v 0 (10 + 3 * 1)) (v 0 (11 + 3 * 1)) (mnI a (v 0 (10 + 3 * 1) + v 0 (11 + 3 * 1))))) 25 (v 0 25 + tkR (v 0 (10 + 3 * 1)) (v 0 (11 + 3 * 1)) (mnI a (v 0 (10 + 3 * 1) + v 0 (11 + 3 * 1))))) := by
  have hm := mn_tak h.1.2.1.2.1 (by omega) ha
  refine ⟨⟨h.1.1, ⟨h.1.2.1.1, (take_CH h.1.2.1.2.1 (by omega) hm.1 hm.2), h.1.2.1.2.2.1, h.1.2.1.2.2.2⟩, h.1.2.2.1, h.1.2.2.2.1, h.1.2.2.2.2.1, h.1.2.2.2.2.2⟩, ?_, h.2.2⟩
  have hb : 400 + v 0 22 + v 0 23 = sumP (v 2) 4 + v 0 24 + v 0 25 + (v 0 10 + v 0 13 + v 0 16 + v 0 19) + 0 := h.2.1
  show 400 + v 0 22 + v 0 23 = sumP (v 2) 4 + v 0 24 + (v 0 25 + tkR (v 0 13) (v 0 14) (mnI a (v 0 13 + v 0 14))) + (v 0 10 + (v 0 13 - tkR (v 0 13) (v 0 14) (mnI a (v 0 13 + v 0 14))) + v 0 16 + v 0 19) + 0
  generalize tkR (v 0 13) (v 0 14) (mnI a (v 0 13 + v 0 14)) = t
  grind
theorem J.drain2 {n : Nat} {v : pLV} {a : Int32} (h : J n v) (ha : 0 ≤ a.toInt) : J n (vS (vS (vS v (10 + 3 * 2) (v 0 (10 + 3 * 2) - tkR (v 0 (10 + 3 * 2)) (v 0 (11 + 3 * 2)) (mnI a (v 0 (10 + 3 * 2) + v 0 (11 + 3 * 2))))) (11 + 3 * 2) (tkG (v 0 (10 + 3 * 2)) (v 0 (11 + 3 * 2)) (mnI a (v 0 (10 + 3 * 2) + v 0 (11 + 3 * 2))))) 25 (v 0 25 + tkR (v 0 (10 + 3 * 2)) (v 0 (11 + 3 * 2)) (mnI a (v 0 (10 + 3 * 2) + v 0 (11 + 3 * 2))))) := by
  have hm := mn_tak h.1.2.1.2.2.1 (by omega) ha
  refine ⟨⟨h.1.1, ⟨h.1.2.1.1, h.1.2.1.2.1, (take_CH h.1.2.1.2.2.1 (by omega) hm.1 hm.2), h.1.2.1.2.2.2⟩, h.1.2.2.1, h.1.2.2.2.1, h.1.2.2.2.2.1, h.1.2.2.2.2.2⟩, ?_, h.2.2⟩
  have hb : 400 + v 0 22 + v 0 23 = sumP (v 2) 4 + v 0 24 + v 0 25 + (v 0 10 + v 0 13 + v 0 16 + v 0 19) + 0 := h.2.1
  show 400 + v 0 22 + v 0 23 = sumP (v 2) 4 + v 0 24 + (v 0 25 + tkR (v 0 16) (v 0 17) (mnI a (v 0 16 + v 0 17))) + (v 0 10 + v 0 13 + (v 0 16 - tkR (v 0 16) (v 0 17) (mnI a (v 0 16 + v 0 17))) + v 0 19) + 0
  generalize tkR (v 0 16) (v 0 17) (mnI a (v 0 16 + v 0 17)) = t
  grind
theorem J.drain3 {n : Nat} {v : pLV} {a : Int32} (h : J n v) (ha : 0 ≤ a.toInt) : J n (vS (vS (vS v (10 + 3 * 3) (v 0 (10 + 3 * 3) - tkR (v 0 (10 + 3 * 3)) (v 0 (11 + 3 * 3)) (mnI a (v 0 (10 + 3 * 3) + v 0 (11 + 3 * 3))))) (11 + 3 * 3) (tkG (v 0 (10 + 3 * 3)) (v 0 (11 + 3 * 3)) (mnI a (v 0 (10 + 3 * 3) + v 0 (11 + 3 * 3))))) 25 (v 0 25 + tkR (v 0 (10 + 3 * 3)) (v 0 (11 + 3 * 3)) (mnI a (v 0 (10 + 3 * 3) + v 0 (11 + 3 * 3))))) := by
  have hm := mn_tak h.1.2.1.2.2.2 (by omega) ha
  refine ⟨⟨h.1.1, ⟨h.1.2.1.1, h.1.2.1.2.1, h.1.2.1.2.2.1, (take_CH h.1.2.1.2.2.2 (by omega) hm.1 hm.2)⟩, h.1.2.2.1, h.1.2.2.2.1, h.1.2.2.2.2.1, h.1.2.2.2.2.2⟩, ?_, h.2.2⟩
  have hb : 400 + v 0 22 + v 0 23 = sumP (v 2) 4 + v 0 24 + v 0 25 + (v 0 10 + v 0 13 + v 0 16 + v 0 19) + 0 := h.2.1
  show 400 + v 0 22 + v 0 23 = sumP (v 2) 4 + v 0 24 + (v 0 25 + tkR (v 0 19) (v 0 20) (mnI a (v 0 19 + v 0 20))) + (v 0 10 + v 0 13 + v 0 16 + (v 0 19 - tkR (v 0 19) (v 0 20) (mnI a (v 0 19 + v 0 20)))) + 0
  generalize tkR (v 0 19) (v 0 20) (mnI a (v 0 19 + v 0 20)) = t
  grind
theorem J.drain {n : Nat} {v : pLV} {k : Nat} {a : Int32} (h : J n v) (hk : k < 4) (ha : 0 ≤ a.toInt) : J n (vS (vS (vS v (10 + 3 * k) (v 0 (10 + 3 * k) - tkR (v 0 (10 + 3 * k)) (v 0 (11 + 3 * k)) (mnI a (v 0 (10 + 3 * k) + v 0 (11 + 3 * k))))) (11 + 3 * k) (tkG (v 0 (10 + 3 * k)) (v 0 (11 + 3 * k)) (mnI a (v 0 (10 + 3 * k) + v 0 (11 + 3 * k))))) 25 (v 0 25 + tkR (v 0 (10 + 3 * k)) (v 0 (11 + 3 * k)) (mnI a (v 0 (10 + 3 * k) + v 0 (11 + 3 * k))))) := by
  rcases (show k = 0 ∨ k = 1 ∨ k = 2 ∨ k = 3 by omega) with rfl | rfl | rfl | rfl
  · exact h.drain0 ha
  · exact h.drain1 ha
  · exact h.drain2 ha
  · exact h.drain3 ha
theorem J.cp {n : Nat} {v w : pLV} (h : J n v) (hw : IRm w) : J n (cpyV w v) := ⟨⟨hw, h.1.2⟩, h.2⟩
theorem if_m1 {c : Prop} [Decidable c] {x : Int32} (h : (if c then (-1 : Int32) else x) = 0) : ¬ c ∧ x = 0 := by
  by_cases q : c
  · rw [if_pos q] at h
    exact absurd h (by decide)
  · rw [if_neg q] at h
    exact ⟨q, h⟩
theorem pok_begin : POK F_X8_begin [] := by
  refine POK.ch fun n v hn j => ⟨0, (NL v) 0 0, startV (NL v), (J.start (v := NL v) j).up (by omega), fun x u h => ?_⟩
  have g := cl_X8_begin hs0 x v u (10, h) (hs0_ok h)
  rw [cw_nlu] at g
  rw [if_pos rfl, if_pos rfl]
  exact g
theorem pok_set (s a : Int32) : POK F_X8_set [.int s, .int a] := by
  refine POK.ch fun n v hn j => ⟨cset_B zL (NL v) s a, cset_R zL (NL v) zL (fun _ => zL) s a, cset_V zL (NL v) zL (fun _ => zL) s a, ?_, fun x u h => ?_⟩
  · have j : J n (NL v) := j
    generalize NL v = y at j ⊢
    unfold cset_V
    split
    · rename_i hB
      unfold cset_B at hB
      obtain ⟨b0, hB⟩ := if_m1 hB
      obtain ⟨b1, hB⟩ := if_m1 hB
      obtain ⟨b2, hB⟩ := if_m1 hB
      obtain ⟨b3, hB⟩ := if_m1 hB
      exact (j.set b0 b1 b2 b3).up (by omega)
    · exact j.up (by omega)
  · have g := cl_X8_set hs0 x v u s a (10, h) (hs0_ok h)
    rw [cw_nlu] at g
    exact g
theorem pok_tear (t : Int32) : POK F_X8_tear [.int t] := by
  refine POK.ch fun n v hn j => ⟨ctear_B zL (NL v) t, ctear_R zL (NL v) zL (fun _ => zL) t, ctear_V zL (NL v) zL (fun _ => zL) t, ?_, fun x u h => ?_⟩
  · have j : J n (NL v) := j
    generalize NL v = y at j ⊢
    unfold ctear_V
    split
    · rename_i hB
      unfold ctear_B at hB
      obtain ⟨b0, hB⟩ := if_m1 hB
      obtain ⟨b1, hB⟩ := if_m1 hB
      have q1 := ile.mp (Int32.not_lt.mp b0)
      have q2 := ile.mp (Int32.not_lt.mp b1)
      rw [show (1 : Int32).toInt = 1 from rfl] at q1
      exact (j.brk ⟨by omega, q2⟩).up (by omega)
    · exact j.up (by omega)
  · have g := cl_X8_tear hs0 x v u t (10, h) (hs0_ok h)
    rw [cw_nlu] at g
    exact g
theorem pok_change (g : Int32) : POK F_X8_change [.int g] := by
  refine POK.ch fun n v hn j => ⟨cchange_B zL (NL v) g, cchange_R zL (NL v) zL (fun _ => zL) g, cchange_V zL (NL v) zL (fun _ => zL) g, ?_, fun x u h => ?_⟩
  · have j : J n (NL v) := j
    generalize NL v = y at j ⊢
    unfold cchange_V
    split
    · rename_i hB
      unfold cchange_B at hB
      obtain ⟨b0, hB⟩ := if_m1 hB
      obtain ⟨b1, hB⟩ := if_m1 hB
      have q1 := ile.mp (Int32.not_lt.mp b0)
      rw [toI0] at q1
      have q2 := toN_lt (n := 4) b0 b1 (by omega)
      have q3 : g.toNatClampNeg = g.toInt.toNat := rfl
      exact (J.turn (v := NL y) j ⟨q1, by omega⟩).up (by omega)
    · exact j.up (by omega)
  · have g := cl_X8_change hs0 x v u g (10, h) (hs0_ok h)
    rw [cw_nlu] at g
    exact g
theorem pok_fill (c a b : Int32) : POK F_X8_fill [.int c, .int a, .int b] := by
  refine POK.ch fun n v hn j => ⟨cfill_B zL (NL v) c a b, cfill_R zL (NL v) zL (fun _ => zL) c a b, cfill_V zL (NL v) zL (fun _ => zL) c a b, ?_, fun x u h => ?_⟩
  · have j : J n (NL v) := j
    generalize NL v = y at j ⊢
    unfold cfill_V
    split
    · rename_i hB
      unfold cfill_B at hB
      obtain ⟨b0, hB⟩ := if_m1 hB
      obtain ⟨b1, hB⟩ := if_m1 hB
      obtain ⟨b2, hB⟩ := if_m1 hB
      obtain ⟨b3, hB⟩ := if_m1 hB
      obtain ⟨b4, hB⟩ := if_m1 hB
      obtain ⟨b5, hB⟩ := if_m1 hB
      have q1 := ile.mp (Int32.not_lt.mp b2)
      have q2 := ile.mp (Int32.not_lt.mp b3)
      have q3 := ile.mp (Int32.not_lt.mp b4)
      have q4 := ile.mp (Int32.not_lt.mp b5)
      rw [toI0] at q1 q3
      rw [show (5000 : Int32).toInt = 5000 from rfl] at q2
      rw [show (50000 : Int32).toInt = 50000 from rfl] at q4
      exact (j.fill (toN_lt (n := 4) b0 b1 (by omega)) q1 q3 (by omega)).up (by omega)
    · exact j.up (by omega)
  · have g := cl_X8_fill hs0 x v u c a b (10, h) (hs0_ok h)
    rw [cw_nlu] at g
    exact g
theorem pok_drain (c a : Int32) : POK F_X8_drain [.int c, .int a] := by
  refine POK.ch fun n v hn j => ⟨cdrain_B zL (NL v) c a, cdrain_R zL (NL v) zL (fun _ => zL) c a, cdrain_V zL (NL v) zL (fun _ => zL) c a, ?_, fun x u h => ?_⟩
  · have j : J n (NL v) := j
    generalize NL v = y at j ⊢
    unfold cdrain_V
    split
    · rename_i hB
      unfold cdrain_B at hB
      obtain ⟨b0, hB⟩ := if_m1 hB
      obtain ⟨b1, hB⟩ := if_m1 hB
      obtain ⟨b2, hB⟩ := if_m1 hB
      obtain ⟨b3, hB⟩ := if_m1 hB
      have q1 := ile.mp (Int32.not_lt.mp b2)
      rw [show (1 : Int32).toInt = 1 from rfl] at q1
      exact (j.drain (toN_lt (n := 4) b0 b1 (by omega)) (by omega)).up (by omega)
    · exact j.up (by omega)
  · have g := cl_X8_drain hs0 x v u c a (10, h) (hs0_ok h)
    rw [cw_nlu] at g
    exact g
theorem pok_run (k : Int32) : POK F_X8_run [.int k] := by
  refine POK.ch fun n v hn j => ⟨crun_B zL (NL v) k, crun_R zL (NL v) zL (fun _ => zL) k, crun_V zL (NL v) zL (fun _ => zL) k, ?_, fun x u h => ?_⟩
  · have j : J n (NL v) := j
    generalize NL v = y at j ⊢
    unfold crun_V
    split
    · rename_i hB
      unfold crun_B at hB
      obtain ⟨b0, hB⟩ := if_m1 hB
      obtain ⟨b1, hB⟩ := if_m1 hB
      have q2 := ile.mp (Int32.not_lt.mp b1)
      rw [show (200 : Int32).toInt = 200 from rfl] at q2
      have q3 : k.toNatClampNeg = k.toInt.toNat := rfl
      exact (J.ticks (v := NL y) j k.toNatClampNeg).up (by omega)
    · exact j.up (by omega)
  · have g := cl_X8_run hs0 x v u k (10, h) (hs0_ok h)
    rw [cw_nlu] at g
    exact g
theorem HRm.upd {h : Nat → pLV} (k : Nat) {y : pLV} (g : HRm h) (hy : IRm y) : HRm (updR h k y) := by
  intro i hi
  show IRm (if i = k then y else h i)
  split
  · exact hy
  · exact g i hi
theorem updR_eq (h : Nat → pLV) (k : Nat) (y : pLV) : updR h k y k = y := if_pos rfl
theorem updR_ne (h : Nat → pLV) {k j : Nat} (y : pLV) (q : j ≠ k) : updR h k y j = h j := if_neg q
theorem S2.keep0 {n : Nat} {x v : pLV} {h : Nat → pLV} {x2 : pLV} {h2 : Nat → pLV} (s : S2 n x v h x2 h2) : S2 n (vS x 5 1) v (updR h 8 (cpyV (h 8) v)) (vS x2 5 1) (updR h2 8 (cpyV (h2 8) v)) := by
  obtain ⟨s1, s2, s3, s4, s5, s6, s7, s8, s9, s10⟩ := s
  refine ⟨s1, s2, s3, s4, s5.upd 8 (s5 8 (by omega)), s6.upd 8 (s6 8 (by omega)), ⟨fun _ => ?_, fun q => ?_⟩, s8.s 5 (fun _ _ => rfl), ?_, ?_⟩
  · rw [updR_eq]
    exact s1.cp (s5 8 (by omega))
  · rw [updR_ne _ _ (by omega)]
    exact s7.2 q
  · rw [updR_eq, updR_eq, s9]
  · rw [updR_ne _ _ (by omega), updR_ne _ _ (by omega), s10]
theorem S2.keep1 {n : Nat} {x v : pLV} {h : Nat → pLV} {x2 : pLV} {h2 : Nat → pLV} (s : S2 n x v h x2 h2) : S2 n (vS x 6 1) v (updR h 9 (cpyV (h 9) v)) (vS x2 6 1) (updR h2 9 (cpyV (h2 9) v)) := by
  obtain ⟨s1, s2, s3, s4, s5, s6, s7, s8, s9, s10⟩ := s
  refine ⟨s1, s2, s3, s4, s5.upd 9 (s5 9 (by omega)), s6.upd 9 (s6 9 (by omega)), ⟨fun q => ?_, fun _ => ?_⟩, s8.s 6 (fun _ _ => rfl), ?_, ?_⟩
  · rw [updR_ne _ _ (by omega)]
    exact s7.1 q
  · rw [updR_eq]
    exact s1.cp (s5 9 (by omega))
  · rw [updR_ne _ _ (by omega), updR_ne _ _ (by omega), s9]
  · rw [updR_eq, updR_eq, s10]
theorem pok_keep (i : Int32) : POK F_X8_keep [.int i] := by
  intro n x v u h x2 u2 h2 hn s
  have g1 := cl_X8_keep hs0 x v u i (10, h) (hs0_ok h)
  have g2 := cl_X8_keep hs0 x2 v u2 i (10, h2) (hs0_ok h2)
  rw [cw_nlu] at g1 g2
  refine ⟨_, _, _, _, _, _, g1, g2, ?_⟩
  have s := s.nx.up (show n ≤ n + 200 by omega)
  generalize NX x = y at s ⊢
  generalize NX x2 = y2 at s ⊢
  generalize NL v = w at s ⊢
  show S2 (n + 200) (if ckeep_B y w i = 0 then if i = 0 then vS y 5 1 else vS y 6 1 else y) w (if ckeep_B y w i = 0 then if i = 0 then updR h 8 (cpyV (h 8) w) else updR h 9 (cpyV (h 9) w) else h) (if ckeep_B y w i = 0 then if i = 0 then vS y2 5 1 else vS y2 6 1 else y2) (if ckeep_B y w i = 0 then if i = 0 then updR h2 8 (cpyV (h2 8) w) else updR h2 9 (cpyV (h2 9) w) else h2)
  by_cases q : ckeep_B y w i = 0
  · rw [if_pos q, if_pos q, if_pos q, if_pos q]
    by_cases z : i = 0
    · rw [if_pos z, if_pos z, if_pos z, if_pos z]
      exact s.keep0
    · rw [if_neg z, if_neg z, if_neg z, if_neg z]
      exact s.keep1
  · rw [if_neg q, if_neg q, if_neg q, if_neg q]
    exact s
theorem back_V {n : Nat} {x v : pLV} {h : Nat → pLV} {x2 : pLV} {h2 : Nat → pLV} (s : S2 n x v h x2 h2) (i : Int32) : hRem x v h (if i = 0 then 8 else 9) = (if i = 0 then h 8 else h 9) ∧ hRem x2 v h2 (if i = 0 then 8 else 9) = (if i = 0 then h 8 else h 9) ∧ (if i = 0 then x2 0 5 else x2 0 6) = (if i = 0 then x 0 5 else x 0 6) := by
  obtain ⟨s1, s2, s3, s4, s5, s6, s7, s8, s9, s10⟩ := s
  by_cases z : i = 0
  · rw [if_pos z, if_pos z, if_pos z, if_pos z, hRem_ne s2 (by omega), hRem_ne s3 (by omega)]
    exact ⟨rfl, s9.symm, (s8.1 5 (by omega) (by omega)).symm⟩
  · rw [if_neg z, if_neg z, if_neg z, if_neg z, hRem_ne s2 (by omega), hRem_ne s3 (by omega)]
    exact ⟨rfl, s10.symm, (s8.1 6 (by omega) (by omega)).symm⟩
theorem pok_back (i : Int32) : POK F_X8_back [.int i] := by
  intro n x v u h x2 u2 h2 hn s
  have g1 := cl_X8_back hs0 x v u i (10, h) (hs0_ok h)
  have g2 := cl_X8_back hs0 x2 v u2 i (10, h2) (hs0_ok h2)
  rw [cw_nlu] at g1 g2
  have s := s.nx.up (show n ≤ n + 200 by omega)
  generalize NX x = y at s g1
  generalize NX x2 = y2 at s g2
  generalize NL v = w at s g1 g2
  obtain ⟨e1, e2, e3⟩ := back_V s i
  have eB : cback_B y2 w i = cback_B y w i := by
    unfold cback_B
    rw [e3]
  have r1 : cback_R y w (NL u) h i = (if cback_B y w i = 0 then (if i = 0 then h 8 else h 9) 0 0 else cback_B y w i) := by
    unfold cback_R
    rw [e1]
  have r2 : cback_R y2 w (NL u2) h2 i = (if cback_B y w i = 0 then (if i = 0 then h 8 else h 9) 0 0 else cback_B y w i) := by
    unfold cback_R
    rw [eB, e2]
  have v1 : cback_V y w (NL u) h i = (if cback_B y w i = 0 then cpyV w (if i = 0 then h 8 else h 9) else w) := by
    unfold cback_V
    rw [e1]
  have v2 : cback_V y2 w (NL u2) h2 i = (if cback_B y w i = 0 then cpyV w (if i = 0 then h 8 else h 9) else w) := by
    unfold cback_V
    rw [eB, e2]
  have x1 : cback_X y2 w (NL u2) h2 i = (if cback_B y w i = 0 then xRem y2 else y2) := by
    unfold cback_X
    rw [eB]
  have h1 : cback_H y2 w (NL u2) h2 i = (if cback_B y w i = 0 then hRem y2 w h2 else h2) := by
    unfold cback_H
    rw [eB]
  dsimp only at g1 g2
  rw [r1, v1] at g1
  rw [r2, v2, x1, h1] at g2
  refine ⟨_, _, _, _, _, _, g1, g2, ?_⟩
  show S2 (n + 200) (if cback_B y w i = 0 then xRem y else y) _ (if cback_B y w i = 0 then hRem y w h else h) _ _
  by_cases q : cback_B y w i = 0
  · rw [if_pos q, if_pos q, if_pos q, if_pos q, if_pos q]
    have jm : J (n + 200) (if i = 0 then h 8 else h 9) := by
      unfold cback_B at q
      obtain ⟨-, q⟩ := if_m1 q
      obtain ⟨-, q⟩ := if_m1 q
      have q2 : ¬ (if i = 0 then y 0 5 else y 0 6) = 0 := by
        intro z
        rw [if_pos z] at q
        exact absurd q (by decide)
      by_cases z : i = 0
      · rw [if_pos z] at q2 ⊢
        exact s.2.2.2.2.2.2.1.1 q2
      · rw [if_neg z] at q2 ⊢
        exact s.2.2.2.2.2.2.1.2 q2
    exact s.rem w (Nat.le_refl _) (jm.cp s.1.1.1)
  · rw [if_neg q, if_neg q, if_neg q, if_neg q, if_neg q]
    exact s
-- a schedule is written and planned
theorem ALx.wr {x x2 : pLV} (h : ALx x x2) (c : Int32) : ALx (wrX x c) (wrX x2 c) := by
  have e0 : x 0 0 = x2 0 0 := h.1 0 (by omega) (by omega)
  have eB : cwrite_B x2 zL c = cwrite_B x zL c := by
    unfold cwrite_B
    rw [e0]
  show ALx (if cwrite_B x zL c = 0 then vS (vA x 1 (upd (x 1) (x 0 0).toNatClampNeg c)) 0 (x 0 0 + 1) else x) (if cwrite_B x2 zL c = 0 then vS (vA x2 1 (upd (x2 1) (x2 0 0).toNatClampNeg c)) 0 (x2 0 0 + 1) else x2)
  rw [eB, ← e0]
  by_cases q : cwrite_B x zL c = 0
  · rw [if_pos q, if_pos q]
    have g : ALx (vA x 1 (upd (x 1) (x 0 0).toNatClampNeg c)) (vA x2 1 (upd (x2 1) (x 0 0).toNatClampNeg c)) := by
      refine ⟨h.1, ?_, h.2.2⟩
      show upd (x 1) (x 0 0).toNatClampNeg c = upd (x2 1) (x 0 0).toNatClampNeg c
      rw [h.2.1]
    exact g.s 0 (fun _ _ => rfl)
  · rw [if_neg q, if_neg q]
    exact h
theorem ALx.da {x x2 : pLV} (h : ALx x x2) (v b : Int32) : ALx (ldA x v b) (ldA x2 v b) := by
  unfold ldA
  split
  · exact h
  · exact h.nx.wr _
theorem ALx.dx {x x2 : pLV} (h : ALx x x2) (v : Int32) : ALx (ldX x v) (ldX x2 v) := ((h.da v 100).da v (100 / 10)).nx.wr _
theorem ALx.lS {x x2 : pLV} (h : ALx x x2) (n a b : Int32) (k : Nat) : ALx (lpS x n a b k) (lpS x2 n a b k) := by
  have g : ALx (lpM x a b k) (lpM x2 a b k) := (((h.nx.wr _).nx.dx _).nx.wr _).nx.dx _
  unfold lpS
  split
  · exact g
  · exact g.nx.wr _
theorem ALx.lI {x x2 : pLV} (h : ALx x x2) (n a b : Int32) : ∀ k, ALx (lpI x n a b k) (lpI x2 n a b k)
  | 0 => h
  | k + 1 => (ALx.lI h n a b k).lS n a b k
theorem ALx.lX {x x2 : pLV} (h : ALx x x2) (a b : Int32) : ALx (lpX x a b) (lpX x2 a b) := (h.s 0 (fun _ _ => rfl)).lI _ _ _ _
/-- what writing leaves alone -/
def WrF (x w : pLV) : Prop := w 0 3 = x 0 3 ∧ w 0 4 = x 0 4 ∧ w 0 5 = x 0 5 ∧ w 0 6 = x 0 6
theorem WrF.tr {a b c : pLV} (h : WrF a b) (g : WrF b c) : WrF a c := ⟨g.1.trans h.1, g.2.1.trans h.2.1, g.2.2.1.trans h.2.2.1, g.2.2.2.trans h.2.2.2⟩
theorem wrf_nx (x : pLV) : WrF x (NX x) := ⟨rfl, rfl, rfl, rfl⟩
theorem wrf_wr (x : pLV) (c : Int32) : WrF x (wrX x c) := by
  show WrF x (if cwrite_B x zL c = 0 then vS (vA x 1 (upd (x 1) (x 0 0).toNatClampNeg c)) 0 (x 0 0 + 1) else x)
  split
  · exact ⟨rfl, rfl, rfl, rfl⟩
  · exact ⟨rfl, rfl, rfl, rfl⟩
theorem wrf_da (x : pLV) (v b : Int32) : WrF x (ldA x v b) := by
  unfold ldA
  split
  · exact ⟨rfl, rfl, rfl, rfl⟩
  · exact (wrf_nx x).tr (wrf_wr _ _)
theorem wrf_dx (x : pLV) (v : Int32) : WrF x (ldX x v) := (((wrf_da x v 100).tr (wrf_da _ v (100 / 10))).tr (wrf_nx _)).tr (wrf_wr _ _)
theorem wrf_lS (x : pLV) (n a b : Int32) (k : Nat) : WrF x (lpS x n a b k) := by
  have g : WrF x (lpM x a b k) := (((((((wrf_nx x).tr (wrf_wr _ _)).tr (wrf_nx _)).tr (wrf_dx _ _)).tr (wrf_nx _)).tr (wrf_wr _ _)).tr (wrf_nx _)).tr (wrf_dx _ _)
  unfold lpS
  split
  · exact g
  · exact (g.tr (wrf_nx _)).tr (wrf_wr _ _)
theorem wrf_lI (x : pLV) (n a b : Int32) : ∀ k, WrF x (lpI x n a b k)
  | 0 => ⟨rfl, rfl, rfl, rfl⟩
  | k + 1 => (wrf_lI x n a b k).tr (wrf_lS _ n a b k)
theorem wrf_lX (x : pLV) (a b : Int32) : WrF x (lpX x a b) := (show WrF x (vS x 0 0) from ⟨rfl, rfl, rfl, rfl⟩).tr (wrf_lI _ _ _ _ _)
theorem XR.wrf {x w : pLV} (h : XR x) (f : WrF x w) : XR w := by
  obtain ⟨s, q, h1, h2, h3, h4⟩ := h
  exact ⟨s, q, h1, h2, by rw [f.2.1, h3], by rw [f.1, h4]⟩
theorem S2.txt {n : Nat} {x v : pLV} {h : Nat → pLV} {x2 : pLV} {h2 : Nat → pLV} (s : S2 n x v h x2 h2) (a b : Int32) : S2 n (lpX x a b) v h (lpX x2 a b) h2 := by
  obtain ⟨s1, s2, s3, s4, s5, s6, s7, s8, s9, s10⟩ := s
  have f := wrf_lX x a b
  refine ⟨s1, s2.wrf f, s3.wrf (wrf_lX x2 a b), lpX_ok x a b, s5, s6, ?_, s8.lX a b, s9, s10⟩
  unfold IMg
  rw [f.2.2.1, f.2.2.2]
  exact s7
theorem rOf_eq {x x2 : pLV} (h : ALx x x2) : rOf x = rOf x2 := by
  unfold rOf
  rw [h.1 7 (by omega) (by omega), h.1 8 (by omega) (by omega), h.1 9 (by omega) (by omega), h.1 10 (by omega) (by omega), h.2.1, h.2.2.1, h.2.2.2.1, h.2.2.2.2]
theorem xOf_al {x x2 : pLV} (h : ALx x x2) (r : pLV) : ALx (xOf x r) (xOf x2 r) := by
  refine ⟨fun j h3 h4 => ?_, rfl, rfl, rfl, rfl⟩
  match j, h3, h4 with
  | 0, h3, h4 => exact h.1 0 h3 h4
  | 1, h3, h4 => exact h.1 1 h3 h4
  | 2, h3, h4 => exact h.1 2 h3 h4
  | 3, h3, _ => exact absurd rfl h3
  | 4, _, h4 => exact absurd rfl h4
  | 5, h3, h4 => exact h.1 5 h3 h4
  | 6, h3, h4 => exact h.1 6 h3 h4
  | 7, _, _ => rfl
  | 8, _, _ => rfl
  | 9, _, _ => rfl
  | 10, _, _ => rfl
  | j + 11, _, _ => rfl
theorem plX_al {x x2 : pLV} (h : ALx x x2) : ALx (plX x) (plX x2) := by
  unfold plX
  rw [← rOf_eq h, ← h.1 0 (by omega) (by omega)]
  exact xOf_al h _
theorem S2.red {n : Nat} {x v : pLV} {h : Nat → pLV} {x2 : pLV} {h2 : Nat → pLV} (s : S2 n x v h x2 h2) : S2 n (plX x) v h (plX x2) h2 := by
  obtain ⟨s1, s2, s3, s4, s5, s6, s7, s8, s9, s10⟩ := s
  exact ⟨s1, s2, s3, s4, s5, s6, s7, plX_al s8, s9, s10⟩
theorem J.sched {n : Nat} {v : pLV} (y : pLV) (h : J n v) (g : ISx (y 0 10) (y 2) (y 3) (y 4)) : J n (plS' v y) := ⟨⟨h.1.1, h.1.2.1, h.1.2.2.1, h.1.2.2.2.1, h.1.2.2.2.2.1, g⟩, h.2.1, h.2.2⟩
theorem plS_al {v y y2 : pLV} (h : ALx y y2) : plS' v y2 = plS' v y := by
  unfold plS'
  rw [h.1 10 (by omega) (by omega), h.2.2.1, h.2.2.2.1, h.2.2.2.2]
theorem S2.flt {n : Nat} {x v : pLV} {h : Nat → pLV} {x2 : pLV} {h2 : Nat → pLV} (s : S2 n x v h x2 h2) : S2 n (vS (vS x 1 (x 0 7)) 2 (x 0 8)) v h (vS (vS x2 1 (x2 0 7)) 2 (x2 0 8)) h2 := by
  obtain ⟨s1, s2, s3, s4, s5, s6, s7, s8, s9, s10⟩ := s
  exact ⟨s1, s2, s3, s4, s5, s6, s7, (s8.s 1 (fun _ _ => s8.1 7 (by omega) (by omega))).s 2 (fun _ _ => s8.1 8 (by omega) (by omega)), s9, s10⟩
theorem S2.plan {n : Nat} {x v : pLV} {h : Nat → pLV} {x2 : pLV} {h2 : Nat → pLV} (s : S2 n x v h x2 h2) : plR x2 v = plR x v ∧ plV x2 v = plV x v ∧ S2 n (plXX x) (plV x v) (plH x v h) (plXX x2) (plH x2 v h2) := by
  have s' := s.red
  have al := s'.2.2.2.2.2.2.2.1
  have jn := J.sched (plX x) s.1 (plan_I x)
  have e7 : plX x 0 7 = plX x2 0 7 := al.1 7 (by omega) (by omega)
  have e10 : plX x 0 10 = plX x2 0 10 := al.1 10 (by omega) (by omega)
  have eS := plS_al (v := v) al
  unfold plR plV plXX plH
  rw [← e7, ← e10, eS]
  refine ⟨rfl, rfl, ?_⟩
  by_cases q : plX x 0 7 = 0
  · rw [if_pos q, if_pos q, if_pos q, if_pos q, if_pos q]
    exact s'.rem v (Nat.le_refl _) jn
  · rw [if_neg q, if_neg q, if_neg q, if_neg q, if_neg q]
    have f := s'.flt
    rw [← e7] at f
    exact f
theorem pok_plan (a b : Int32) : POK F_L_plan [.int a, .int b] := by
  intro n x v u h x2 u2 h2 hn s
  have g1 := cl_L_plan hs0 x v u a b (10, h) (hs0_ok h)
  have g2 := cl_L_plan hs0 x2 v u2 a b (10, h2) (hs0_ok h2)
  rw [cw_nlu] at g1 g2
  dsimp only at g1 g2
  have s := ((s.nx.nx.txt a b).nxx).up (show n ≤ n + 200 by omega)
  generalize NX (lpX (NX (NX x)) a b) = y at s g1
  generalize NX (lpX (NX (NX x2)) a b) = y2 at s g2
  generalize NL (NL v) = w at s g1 g2
  obtain ⟨e1, e2, t⟩ := s.plan
  rw [e1, e2] at g2
  exact ⟨_, _, _, _, _, _, g1, g2, t⟩
theorem pok_law (a b : Int32) : POK (chF a b).1 (chF a b).2 := ch_all (P := POK) pok_begin pok_set pok_tear pok_change pok_fill pok_drain pok_keep pok_back pok_run pok_plan a b
end
