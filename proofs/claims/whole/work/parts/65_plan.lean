noncomputable section
/-! THE TWO SIDES ARE ALIKE: the whole text, and the plan -/
theorem skA_x (t : Nat → Int32) : ∀ d a, a ≤ skA t d a ∧ skA t d a ≤ a + d ∧ (skA t d a = a + d ∨ ¬ t (skA t d a) = 32)
  | 0, a => ⟨Nat.le_refl _, Nat.le_refl _, Or.inl rfl⟩
  | d + 1, a => by
    by_cases z : t a = 32
    · rw [show skA t (d + 1) a = skA t d (a + 1) from if_pos z]
      obtain ⟨h1, h2, h3⟩ := skA_x t d (a + 1)
      refine ⟨by omega, by omega, ?_⟩
      rcases h3 with e | e
      · exact Or.inl (by omega)
      · exact Or.inr e
    · rw [show skA t (d + 1) a = a from if_neg z]
      exact ⟨Nat.le_refl _, by omega, Or.inr z⟩
/-- both sides fault alike, or both have read all -/
def ALX (m0 : pLV) (t : Nat → Int32) (R M : pLV) : Prop :=
  (∃ fk p, ¬ fk = 0 ∧ ¬ fk = -9 ∧ R 0 0 = fk ∧ R 0 1 = p ∧ R 4 = t ∧ FA m0 fk p M) ∨
  (∃ c E, c ≤ 20 ∧ R 0 0 = 0 ∧ R 0 3 = nI c ∧ R 4 = t ∧ QS m0 E c 0 M ∧ SRT E c (R 1) (R 2) (R 3) ∧ ENT E c)
theorem qRi_f {L : Int32} {r : pLV} (h : ¬ r 0 0 = 0) : ∀ d, qRi L d r = r
  | 0 => rfl
  | d + 1 => by
    unfold qRi
    by_cases z : L ≤ r 0 2
    · rw [if_pos z]
    · rw [if_neg z, if_neg h]
theorem qSk_2 {r : pLV} {b n : Nat} {t : Nat → Int32} (r2 : r 0 2 = nI b) (r4 : r 4 = t) (hb : b ≤ n) (hn : n ≤ 120) : qSk r (nI n) 0 2 = nI (skA t (n - b) b) := by
  show nI (skA (r 4) ((nI n).toNatClampNeg - (r 0 2).toNatClampNeg) (r 0 2).toNatClampNeg) = _
  rw [r2, r4, nI_clamp (by omega), nI_clamp (by omega)]
theorem RF_loop {m0 : pLV} {n : Nat} {t : Nat → Int32} (hn : n ≤ 120) (ht : ∀ j, j < n → m0 4 j = t j) (h6 : m0 0 6 = nI n) : ∀ (d c a : Nat) (m r : pLV) (E : Nat → Int32), c + d = 21 → c ≤ 20 → QS m0 E c 0 m → a ≤ n → (a = n ∨ ¬ t a = 32) → r 0 0 = 0 → r 0 2 = nI a → r 0 3 = nI c → r 4 = t → SRT E c (r 1) (r 2) (r 3) → ENT E c → ALX m0 t (qRi (nI n) d r) (RF (n - a) a m)
  | 0, c, a, m, r, E, hc, hc', _, _, _, _, _, _, _, _, _ => absurd hc (by omega)
  | d + 1, c, a, m, r, E, hc, hc', h, ha, h32, r0, r2, r3, r4, hS, hE => by
    by_cases z : a < n
    · have z1 : ¬ nI n ≤ r 0 2 := by
        rw [r2, ile, nI_i (by omega), nI_i (by omega)]
        omega
      have e : qRi (nI n) (d + 1) r = qRi (nI n) d (qSk (NQ (qRe (NQ r) (nI n))) (nI n)) := (if_neg z1).trans (if_pos r0)
      rw [e]
      rcases RF_entry (r := NQ r) hn ht h6 h z (h32.resolve_left (by omega)) hc' r0 r2 r3 r4 hS hE with ⟨fk, p, f1, f2, f3, f4, f5, f6⟩ | ⟨b, a2, m', E', g1, g2, g3, g4, g5, g6, g7, g8, g9, g10, g11, g12, g13⟩
      · generalize qRe (NQ r) (nI n) = X at f3 f4 f5
        have x0 : qSk (NQ X) (nI n) 0 0 = fk := f3
        rw [qRi_f (by rw [x0]; exact f1)]
        exact Or.inl ⟨fk, p, f1, f2, f3, f4, f5, f6⟩
      · generalize qRe (NQ r) (nI n) = X at g4 g5 g6 g7 g9
        have x2 : qSk (NQ X) (nI n) 0 2 = nI (skA t (n - b) b) := qSk_2 (r := NQ X) g5 g7 g3 hn
        obtain ⟨m2, k1, k2⟩ := RF_skip hn ht (n - a2) a2 m' g8 (by omega)
        rw [g11, k2, ← g13]
        obtain ⟨s1, s2, s3⟩ := skA_x t (n - b) b
        refine RF_loop hn ht h6 d (c + 1) (skA t (n - b) b) m2 (qSk (NQ X) (nI n)) E' (by omega) (by omega) k1 (by omega) ?_ g4 x2 g6 g7 g9 g10
        rcases s3 with e | e
        · exact Or.inl (by omega)
        · exact Or.inr e
    · have : a = n := by omega
      subst this
      have e : qRi (nI a) (d + 1) r = r := if_pos (by rw [r2]; exact Int32.le_refl _)
      have eM : RF (a - a) a m = m := by
        rw [Nat.sub_self]
        exact rte_0 h
      rw [e, eM]
      exact Or.inr ⟨c, E, hc', r0, r3, r4, h, hS, hE⟩
theorem read_S {m r : pLV} {n : Nat} {t : Nat → Int32} (hn : n ≤ 120) (ht : ∀ j, j < n → m 4 j = t j) (h6 : m 0 6 = nI n) (r4 : r 4 = t) : ALX m t (qRd r (nI n)) (rtM m) := by
  have eM : rtM m = RF (n - 0) 0 (rt0 m) := by
    unfold rtM RF
    rw [h6, nI_clamp (by omega)]
    rfl
  have h0 : QS m (m 5) 0 0 (rt0 m) := ⟨⟨rfl, rfl, rfl, rfl, rfl, rfl, rfl, rfl, rfl, rfl⟩, rfl, rfl, rfl, rfl⟩
  obtain ⟨m2, k1, k2⟩ := RF_skip hn ht (n - 0) 0 (rt0 m) h0 (by omega)
  rw [eM, k2]
  have x2 : qSk (NQ (q0 r)) (nI n) 0 2 = nI (skA t (n - 0) 0) := qSk_2 (r := NQ (q0 r)) rfl r4 (Nat.zero_le _) hn
  obtain ⟨s1, s2, s3⟩ := skA_x t (n - 0) 0
  refine RF_loop hn ht h6 21 0 (skA t (n - 0) 0) m2 (qSk (NQ (q0 r)) (nI n)) (m 5) (by omega) (by omega) k1 (by omega) ?_ rfl x2 rfl r4 ⟨fun i j _ hj => absurd hj (Nat.not_lt_zero _), fun j hj => absurd hj (Nat.not_lt_zero _)⟩ (fun k hk => absurd hk (Nat.not_lt_zero _))
  rcases s3 with e | e
  · exact Or.inl (by omega)
  · exact Or.inr e
theorem plS_fr (n : Nat) (x : pLV) : ∀ K, FR x (plS n x K)
  | 0 => FR.rf x
  | K + 1 => (plS_fr n x K).tr ⟨rfl, rfl, rfl, rfl, rfl, rfl, rfl, rfl, rfl, rfl⟩
/-- the schedule is put in its place -/
theorem plG_S {B : Int} {v y X : pLV} {c : Nat} {E : Nat → Int32} (h : SN B v (y 1)) (hc : c ≤ 20) (h13 : y 0 13 = nI c) (h5 : y 5 = E) (x10 : X 0 10 = nI c) (hS : SRT E c (X 2) (X 3) (X 4)) (hE : ENT E c) : SN B (plS' v X) (plG y 1) ∧ FR y (plG y) := by
  have hg := h.2.2.2.1.2.2.2.1
  have eG : plG y = plS c (pl1 y) c := by
    unfold plG
    rw [h13, nI_clamp (by omega)]
  rw [eG]
  obtain ⟨p1, p2⟩ := plS_1 c (pl1 y) c (Nat.le_refl _)
  have p5 : pl1 y 5 = E := h5
  rw [p5] at p2
  have hlow : ∀ j, j < 49 → plS c (pl1 y) c 1 j = y 1 j := fun j hj => by
    rw [p1 j (by omega)]
    exact upd_ne (by omega)
  have h49 : plS c (pl1 y) c 1 49 = nI c := by
    rw [p1 49 (by omega)]
    show upd (y 1) 49 (y 0 13) 49 = _
    unfold upd
    exact (if_pos rfl).trans h13
  have hc2 : (nI c).toNatClampNeg = c := nI_clamp (by omega)
  have e28 : (v 0 28).toNatClampNeg = (v 0 28).toInt.toNat := rfl
  have b28 := hg.2.2.2.2.1.2
  refine ⟨⟨?_, fun j hj => ?_, ⟨h49.trans x10.symm, fun k hk => ?_⟩, ⟨h.2.2.2.1.1, h.2.2.2.1.2.1, h.2.2.2.1.2.2.1, ⟨hg.1, hg.2.1, hg.2.2.1, hg.2.2.2.1, hg.2.2.2.2.1, ?_⟩, fun k hk => ?_, h.2.2.2.1.2.2.2.2.2⟩, h.2.2.2.2⟩, ?_⟩
  · intro j hj
    rw [hlow j (by omega)]
    exact h.1 j hj
  · have hj' : j < (v 0 28).toNatClampNeg := hj
    rw [hlow _ (by omega)]
    exact h.2.1 j hj
  · have hk' : k < c := by
      have : k < (X 0 10).toNatClampNeg := hk
      rw [x10, hc2] at this
      exact this
    obtain ⟨i, i1, i2, i3, i4, i5⟩ := hS.2 k hk'
    subst i2
    exact ⟨(p2 i i1 0 (by omega)).trans i3.symm, (p2 i i1 1 (by omega)).trans i4.symm, (p2 i i1 2 (by omega)).trans i5.symm⟩
  · show IB 0 20 (X 0 10)
    rw [x10]
    unfold IB
    rw [nI_i (by omega)]
    omega
  · have hk' : k < c := by
      have : k < (X 0 10).toNatClampNeg := hk
      rw [x10, hc2] at this
      exact this
    obtain ⟨i, i1, i2, i3, i4, i5⟩ := hS.2 k hk'
    show (X 3 k = 1 → IB 0 3 (X 4 k)) ∧ (¬ X 3 k = 0 → ¬ X 3 k = 1 → IB 0 2000 (X 4 k))
    rw [i4, i5]
    exact hE i i1
  · have f0 : FR y (pl1 y) := ⟨rfl, rfl, rfl, rfl, rfl, rfl, rfl, rfl, rfl, rfl⟩
    exact f0.tr (plS_fr c (pl1 y) c)
theorem rem_513 (m : pLV) : rememM m 5 = m 5 ∧ rememM m 0 13 = m 0 13 := by
  unfold rememM
  split <;> exact ⟨rfl, rfl⟩
/-- reading leaves the likeness -/
theorem RS.ft {B : Int} {x v u R : pLV} {h : Nat → pLV} {m M : pLV} (r : RS B x v u h m) (f : FT m M) (r4 : R 4 = x 1) : RS B (xOf x R) v u h M := by
  obtain ⟨r1, r2, r3, r4', r5, r6⟩ := r
  obtain ⟨f1, f2, f3, f4, f5, f6, f7, f8, f9, f10⟩ := f
  refine ⟨by rw [f1]; exact r1, r2, ?_, ?_, ?_, ?_⟩
  · obtain ⟨n, n1, n2, n3, n4⟩ := r3
    refine ⟨n, n1, n2, f8.trans n3, fun j hj => ?_⟩
    show M 4 j = R 4 j
    rw [f4, r4]
    exact n4 j hj
  · show (x 0 1 = 0 ∧ M 0 7 = -9 ∧ M 0 8 = -9) ∨ (¬ x 0 1 = 0 ∧ M 0 7 = x 0 1 ∧ M 0 8 = x 0 2)
    rw [f9, f10]
    exact r4'
  · obtain ⟨s, q, s1, s2, s3, s4, s5, s6⟩ := r5
    refine ⟨s, q, s1, s2, s3, f6.trans s4, s5, fun t ht => ?_⟩
    rw [f2]
    exact s6 t ht
  · obtain ⟨i1, i2, i3, i4, i5⟩ := r6
    refine ⟨i1, i2, f7.trans i3, ?_, ?_⟩
    · rw [f3]
      exact i4
    · rw [f3]
      exact i5
theorem plan_S {B : Int} {x v u : pLV} {h : Nat → pLV} {m : pLV} (r : RS B x v u h m) : plR x v = plaR m ∧ RS B (plXX x) (plV x v) u (plH x v h) (plaM m) ∧ (lOK m ∧ pOK m) ∧ ∃ n : Nat, x 0 0 = nI n ∧ n ≤ 120 := by
  obtain ⟨n, n1, n2, n3, n4⟩ := r.2.2.1
  have hl : lOK m := RTx.ok r.2.2.1
  have hp := (rem_S r).2.1
  have hX : plX x = xOf x (qRd (rOf x) (nI n)) := by
    unfold plX
    rw [n2]
  unfold plR plXX plV plH plaR plaM
  rw [hX]
  have hr := read_S (m := m) (r := rOf x) (t := x 1) n1 n4 n3 rfl
  generalize qRd (rOf x) (nI n) = R at hr
  generalize rtM m = M at hr
  rcases hr with ⟨fk, p, f1, f2, f3, f4, f5, f6, f7, f8⟩ | ⟨c, E, g1, g2, g3, g4, g5, g6, g7⟩
  · have z1 : ¬ xOf x R 0 7 = 0 := by
      show ¬ R 0 0 = 0
      rw [f3]
      exact f1
    have z2 : ¬ M 0 15 = -9 := by
      rw [f7]
      exact f2
    rw [if_neg z1, if_neg z1, if_neg z1, if_neg z1, if_neg z2, if_neg z2]
    obtain ⟨a1, a2, a3, a4, a5, a6⟩ := r.ft f6 f5
    refine ⟨rfl, ⟨a1, a2, a3, Or.inr ⟨z1, ?_, ?_⟩, a5, a6⟩, ⟨hl, hp⟩, n, n2, n1⟩
    · show M 0 15 = R 0 0
      rw [f7, f3]
    · show M 0 16 = R 0 1
      rw [f8, f4]
  · have z1 : xOf x R 0 7 = 0 := g2
    have z2 : M 0 15 = -9 := g5.2.1
    rw [if_pos z1, if_pos z1, if_pos z1, if_pos z1, if_pos z2, if_pos z2]
    have a := r.ft g5.1 g4
    obtain ⟨q1, q2, q3⟩ := rem_S a.nm
    obtain ⟨y5, y13⟩ := rem_513 (NM M)
    have e5 : rememM (NM M) 5 = E := y5.trans g5.2.2.2.2
    have e13 : rememM (NM M) 0 13 = nI c := y13.trans g5.2.2.1
    generalize rememM (NM M) = y at q1 e5 e13
    obtain ⟨k1, k2⟩ := plG_S (X := xOf x R) q1.1 g1 e13 e5 g3 g6 g7
    refine ⟨?_, q1.fr k1 (Int.le_refl _) k2, ⟨hl, hp⟩, n, n2, n1⟩
    show R 0 3 = M 0 13
    rw [g3, g5.2.2.1]
end
