noncomputable section
/-! THE CLOCK, AND WHAT THE LAW ASKS -/
theorem csM_eq {r : Int} {f g : Int32} (h : CH r f g) (hr : r ≤ 3000000) : (if f + g = 0 then (0 : Int32) else f * 1000 / (f + g)) = csC f g := by
  have hs := h.sum hr
  obtain ⟨h1, h2, h3⟩ := h
  unfold csC
  by_cases h0 : f + g = 0
  · rw [if_pos h0, if_pos (by rw [h0]; decide)]
  · have : ¬ f + g ≤ 0 := by
      rw [ile, hs, Int32.toInt_zero]
      intro q
      refine h0 (ieq.mpr ?_)
      rw [hs, Int32.toInt_zero]
      omega
    rw [if_neg h0, if_neg this]
theorem csC_b {r : Int} {f g : Int32} (h : CH r f g) (hr : r ≤ 1000000) : IB 0 1000 (csC f g) := by
  have hs := h.sum (by omega)
  obtain ⟨h1, h2, h3⟩ := h
  unfold csC
  by_cases h0 : f + g ≤ 0
  · rw [if_pos h0]
    exact ⟨by decide, by decide⟩
  · rw [if_neg h0]
    have h0' : 0 < (f + g).toInt := by
      have := ilt.mp (Int32.not_le.mp h0)
      rw [toI0] at this
      exact this
    have hm : (f * 1000).toInt = f.toInt * 1000 := i_mul (by rw [show (1000 : Int32).toInt = 1000 from rfl]; omega) (by rw [show (1000 : Int32).toInt = 1000 from rfl]; omega)
    have hd : (f * 1000 / (f + g)).toInt = f.toInt * 1000 / (f.toInt + g.toInt) := by rw [i_div (by omega) h0', hm, hs]
    rw [hs] at h0'
    unfold IB
    rw [hd]
    refine ⟨Int.ediv_nonneg (by omega) (by omega), ?_⟩
    have : f.toInt * 1000 / (f.toInt + g.toInt) < 1001 := Int.ediv_lt_of_lt_mul h0' (by omega)
    omega
/-- what most steps of a tick leave alone -/
def KF (v w : pLV) : Prop := w 0 0 = v 0 0 ∧ w 0 1 = v 0 1 ∧ w 0 2 = v 0 2 ∧ w 0 3 = v 0 3 ∧ w 0 4 = v 0 4 ∧ w 0 6 = v 0 6 ∧ w 0 26 = v 0 26 ∧ w 0 28 = v 0 28 ∧ w 1 = v 1 ∧ w 2 = v 2 ∧ w 3 = v 3
theorem mix_K (v : pLV) : KF v (mixV v) := ⟨rfl, rfl, rfl, rfl, rfl, rfl, rfl, rfl, rfl, rfl, rfl⟩
theorem mch_K (v : pLV) : KF v (mchV v) ∧ mchV v 0 5 = v 0 5 := ⟨⟨rfl, rfl, rfl, rfl, rfl, rfl, rfl, rfl, rfl, rfl, rfl⟩, rfl⟩
theorem rsn_b (v : pLV) (d w b : Int32) : IB 0 3 (rsnV v d w b) ∧ (rsnV v d w b = 1 → v 1 3 = 0) := by
  unfold rsnV
  split
  · exact ⟨⟨by decide, by decide⟩, fun h => absurd h (by decide)⟩
  · split
    · exact ⟨⟨by decide, by decide⟩, fun h => absurd h (by decide)⟩
    · split
      · rename_i h
        exact ⟨⟨by decide, by decide⟩, fun _ => h⟩
      · split
        · exact ⟨⟨by decide, by decide⟩, fun h => absurd h (by decide)⟩
        · exact ⟨⟨by decide, by decide⟩, fun h => absurd h (by decide)⟩
theorem mix_5 (v : pLV) : IB 0 3 (mixV v 0 5) ∧ (mixV v 0 5 = 1 → mixV v 1 3 = 0) := rsn_b (NL (mxU v (mxW v))) (mxD v) (mxW v) (mxB v (mxW v))
theorem add1_ne (x : Int32) : ¬ x = x + 1 := by
  intro h
  have h2 : x + 0 = x + 1 := by rw [Int32.add_zero]; exact h
  have h3 : (0 : Int32) = 1 := by grind
  exact absurd h3 (by decide)
/-- the sheet: bad, or paper -/
theorem sht_K {v : pLV} : shtV v 0 0 = v 0 0 ∧ shtV v 0 5 = v 0 5 ∧ shtV v 0 28 = v 0 28 ∧ shtV v 1 = v 1 ∧ shtV v 3 = v 3 ∧ ((shtV v 0 6 = v 0 6 + 1 ∧ shtV v 2 = v 2 ∧ shtV v 0 4 = shtV v 0 1) ∨ (shtV v 0 6 = v 0 6 ∧ shtV v 0 26 = v 0 26 ∧ shtV v 0 2 = 0 ∧ shtV v 0 3 = 0)) := by
  have hb : ∀ w, w = pourV 1 (NL (shB v)) (shF v) (v 1 7) → w 0 0 = v 0 0 ∧ w 0 5 = v 0 5 ∧ w 0 28 = v 0 28 ∧ w 1 = v 1 ∧ w 3 = v 3 ∧ ((w 0 6 = v 0 6 + 1 ∧ w 2 = v 2 ∧ w 0 4 = w 0 1) ∨ (w 0 6 = v 0 6 ∧ w 0 26 = v 0 26 ∧ w 0 2 = 0 ∧ w 0 3 = 0)) := by
    intro w hw
    subst hw
    exact ⟨rfl, rfl, rfl, rfl, rfl, Or.inl ⟨rfl, rfl, rfl⟩⟩
  unfold shtV
  split
  · rename_i h2
    split
    · rename_i h3
      have e0 := cpV_0 (NL (shU v)) (shF v)
      have e1 := cpV_1 (NL (shU v)) (shF v)
      have e3 := cpV_3 (NL (shU v)) (shF v)
      rw [e0, e1, e3]
      exact ⟨rfl, rfl, rfl, rfl, rfl, Or.inr ⟨rfl, rfl, h2, h3⟩⟩
    · exact hb _ rfl
  · exact hb _ rfl
/-- the clock and what goes with it -/
def ICk (n : Nat) (v : pLV) : Prop := ∃ c l : Nat, l ≤ c ∧ c ≤ n ∧ v 0 0 = nI c ∧ v 0 6 = nI l ∧ ((c = 0 ∧ v 0 5 = -9 ∧ v 0 28 = 0) ∨ (0 < c ∧ IB 0 3 (v 0 5) ∧ IB 1 9 (v 0 28) ∧ IB 0 1000 (v 3 0)))
theorem ICk.up {n m : Nat} {v : pLV} (h : ICk n v) (hm : n ≤ m) : ICk m v := by
  obtain ⟨c, l, h1, h2, h3⟩ := h
  exact ⟨c, l, h1, by omega, h3⟩
theorem sz_b {z : Int32} (h : IB 0 9 z) : IB 1 9 (mnI (z + 1) 9) := by
  obtain ⟨h1, h2⟩ := h
  have e : (z + 1).toInt = z.toInt + 1 := i_add (by rw [show (1 : Int32).toInt = 1 from rfl]; omega) (by rw [show (1 : Int32).toInt = 1 from rfl]; omega)
  unfold IB
  rw [mnI_i, e, show (9 : Int32).toInt = 9 from rfl]
  omega
theorem nl_K (w : pLV) : KF w (NL w) ∧ NL w 0 5 = w 0 5 := ⟨⟨rfl, rfl, rfl, rfl, rfl, rfl, rfl, rfl, rfl, rfl, rfl⟩, rfl⟩
theorem tk2_K (w : pLV) : KF w (tk2 w) ∧ tk2 w 0 5 = w 0 5 := ⟨⟨rfl, rfl, rfl, rfl, rfl, rfl, rfl, rfl, rfl, rfl, rfl⟩, rfl⟩
theorem KF.tr {a b c : pLV} (h : KF a b) (g : KF b c) : KF a c := by
  obtain ⟨h1, h2, h3, h4, h5, h6, h7, h8, h9, h10, h11⟩ := h
  obtain ⟨g1, g2, g3, g4, g5, g6, g7, g8, g9, g10, g11⟩ := g
  exact ⟨g1.trans h1, g2.trans h2, g3.trans h3, g4.trans h4, g5.trans h5, g6.trans h6, g7.trans h7, g8.trans h8, g9.trans h9, g10.trans h10, g11.trans h11⟩
theorem ctl_K (c : pLV) : tk6 (tk5 c) 0 0 = c 0 0 ∧ tk6 (tk5 c) 0 5 = c 0 5 ∧ tk6 (tk5 c) 0 6 = c 0 6 ∧ tk6 (tk5 c) 0 26 = c 0 26 ∧ tk6 (tk5 c) 0 28 = mnI (c 0 28 + 1) 9 ∧ tk6 (tk5 c) 1 = c 1 ∧ tk6 (tk5 c) 2 = c 2 ∧ tk6 (tk5 c) 3 0 = csC (c 0 19) (c 0 20) := ⟨rfl, rfl, rfl, rfl, rfl, rfl, rfl, rfl⟩
theorem fin_K (e : pLV) : smV (NL (tk8 e)) 0 0 = e 0 0 ∧ smV (NL (tk8 e)) 0 1 = e 0 1 ∧ smV (NL (tk8 e)) 0 2 = mxI 0 (e 0 2 - 1) ∧ smV (NL (tk8 e)) 0 3 = mxI 0 (e 0 3 - 1) ∧ smV (NL (tk8 e)) 0 4 = e 0 4 ∧ smV (NL (tk8 e)) 0 5 = e 0 5 ∧ smV (NL (tk8 e)) 0 6 = e 0 6 ∧ smV (NL (tk8 e)) 0 26 = e 0 26 ∧ smV (NL (tk8 e)) 0 28 = e 0 28 ∧ smV (NL (tk8 e)) 1 = e 1 ∧ smV (NL (tk8 e)) 2 = e 2 ∧ smV (NL (tk8 e)) 3 = e 3 := ⟨rfl, rfl, rfl, rfl, rfl, rfl, rfl, rfl, rfl, rfl, rfl, rfl⟩
/-- ahead of the sheet: from a, behind the inflow, to d, behind the control -/
theorem pre_K {a : pLV} (ja : JA a) : ∃ d, d = NL (tk6 (tk5 (mchV (NL (mixV a))))) ∧ JA d ∧ d 0 0 = a 0 0 ∧ d 0 6 = a 0 6 ∧ d 0 26 = a 0 26 ∧ d 0 28 = mnI (a 0 28 + 1) 9 ∧ d 2 = a 2 ∧ IB 0 3 (d 0 5) ∧ (d 0 5 = 1 → d 1 3 = 0) ∧ IB 0 1000 (d 3 0) := by
  have jb : JA (NL (mixV a)) := ja.mix.nl
  have kb : KF a (NL (mixV a)) := (mix_K a).tr (nl_K _).1
  obtain ⟨b5, b51⟩ := mix_5 a
  have n5 := (nl_K (mixV a)).2
  have n1 : NL (mixV a) 1 = mixV a 1 := (nl_K (mixV a)).1.2.2.2.2.2.2.2.2.1
  have b5 : IB 0 3 (NL (mixV a) 0 5) := by rw [n5]; exact b5
  have b51 : NL (mixV a) 0 5 = 1 → NL (mixV a) 1 3 = 0 := by rw [n5, n1]; exact b51
  clear n5 n1
  generalize NL (mixV a) = b at jb kb b5 b51 ⊢
  have jc := jb.mch
  obtain ⟨kc, c5⟩ := mch_K b
  have kc := kb.tr kc
  have cs : mchV b 1 = b 1 := (mch_K b).1.2.2.2.2.2.2.2.2.1
  generalize mchV b = c at jc kc c5 cs ⊢
  have jd : JA (NL (tk6 (tk5 c))) := jc.tk5.tk6.nl
  obtain ⟨d0, d5, d6, d26, d28, d1, d2, d3⟩ := ctl_K c
  obtain ⟨⟨n0, -, -, -, -, n6, n26, n28, n1, n2, n3⟩, n5⟩ := nl_K (tk6 (tk5 c))
  obtain ⟨k0, -, -, -, -, k6, k26, k28, -, k2, -⟩ := kc
  have m3 : NL (tk6 (tk5 c)) 3 0 = csC (c 0 19) (c 0 20) := by rw [n3, d3]
  have hm : IB 0 1000 (csC (c 0 19) (c 0 20)) := csC_b jc.2.1.2.2.2 (by omega)
  refine ⟨_, rfl, jd, by rw [n0, d0, k0], by rw [n6, d6, k6], by rw [n26, d26, k26], by rw [n28, d28, k28], by rw [n2, d2, k2], by rw [n5, d5, c5]; exact b5, ?_, by rw [m3]; exact hm⟩
  rw [n5, d5, c5, n1, d1, cs]
  exact b51
theorem tick_eq (v : pLV) : tickV v = smV (NL (tk8 (shtV (NL (tk6 (tk5 (mchV (NL (mixV (NL (tk2 (tk1 v)))))))))))) := rfl
theorem tick_K {v : pLV} (h : JA v) : tickV v 0 0 = v 0 0 + 1 ∧ IB 0 3 (tickV v 0 5) ∧ tickV v 0 28 = mnI (v 0 28 + 1) 9 ∧ IB 0 1000 (tickV v 3 0) ∧ TicF v (tickV v) ∧ (tickV v 0 6 = v 0 6 ∨ tickV v 0 6 = v 0 6 + 1) := by
  obtain ⟨f0, f5, f6, f28, f26, f2, -⟩ := tk1_F v
  have f0 : tk1 v 0 0 = v 0 0 + 1 := f0.trans rfl
  have f6 : tk1 v 0 6 = v 0 6 := f6.trans rfl
  have f28 : tk1 v 0 28 = v 0 28 := f28.trans rfl
  have f26 : tk1 v 0 26 = v 0 26 := f26.trans rfl
  have f2 : tk1 v 2 = v 2 := f2.trans rfl
  have j1 := h.tk1
  rw [tick_eq]
  generalize tk1 v = t at j1 f0 f5 f6 f28 f26 f2 ⊢
  have ja : JA (NL (tk2 t)) := j1.tk2.nl
  obtain ⟨a0, -, -, -, -, a6, a26, a28, -, a2, -⟩ := (tk2_K t).1.tr (nl_K (tk2 t)).1
  generalize NL (tk2 t) = a at ja a0 a6 a26 a28 a2 ⊢
  obtain ⟨d, ed, jd, d0, d6, d26, d28, d2, d5, d51, d3⟩ := pre_K ja
  rw [← ed]
  clear ed
  obtain ⟨e0, e5, e28, es, em, eB⟩ := sht_K (v := d)
  generalize shtV d = e at e0 e5 e28 es em eB ⊢
  obtain ⟨t0, t1, t2, t3, t4, t5, t6, t26, t28, ts, tp, tm⟩ := fin_K e
  generalize smV (NL (tk8 e)) = y at t0 t1 t2 t3 t4 t5 t6 t26 t28 ts tp tm ⊢
  have y5 : y 0 5 = d 0 5 := by rw [t5, e5]
  have ys : y 1 = d 1 := by rw [ts, es]
  have y6 : d 0 6 = v 0 6 := by rw [d6, a6, f6]
  have y28 : y 0 28 = mnI (v 0 28 + 1) 9 := by rw [t28, e28, d28, a28, f28]
  have ym : IB 0 1000 (y 3 0) := by rw [tm, em]; exact d3
  refine ⟨by rw [t0, e0, d0, a0, f0], by rw [y5]; exact d5, y28, ym, ⟨?_, ?_, ?_⟩, ?_⟩
  · rcases eB with ⟨q1, q2, q3⟩ | ⟨q1, q2, q3, q4⟩
    · exact Or.inl ⟨by rw [t6, q1, y6], by rw [tp, q2, d2, a2, f2], by rw [t4, t1, q3]⟩
    · refine Or.inr ⟨?_, by rw [t26, q2, d26, a26, f26], by rw [t2, q3]; decide, by rw [t3, q4]; decide⟩
      rw [t6, q1, y6]
      exact add1_ne _
  · unfold ltC
    intro q
    have q := ilt.mp q
    rw [show (1000 : Int32).toInt = 1000 from rfl] at q
    split at q
    · have := ym.2
      omega
    · rw [show (-9 : Int32).toInt = -9 from rfl] at q
      omega
  · intro q
    rw [ys]
    exact d51 (by rw [← y5]; exact q)
  · rcases eB with ⟨q1, -⟩ | ⟨q1, -⟩
    · exact Or.inr (by rw [t6, q1, y6])
    · exact Or.inl (by rw [t6, q1, y6])
/-- all that stays true of a loop -/
def J (n : Nat) (v : pLV) : Prop := JA v ∧ BL 0 v ∧ ICk n v
theorem J.nl {n : Nat} {v : pLV} (h : J n v) : J n (NL v) := h
theorem J.up {n m : Nat} {v : pLV} (h : J n v) (hm : n ≤ m) : J m v := ⟨h.1, h.2.1, h.2.2.up hm⟩
theorem J.tick {n : Nat} {v : pLV} (h : J n v) : J (n + 1) (tickV v) := by
  obtain ⟨ja, jb, c, l, h1, h2, h3, h4, h5⟩ := h
  obtain ⟨k0, k5, k28, km, -, k6⟩ := tick_K ja
  have hz : IB 0 9 (v 0 28) := by
    rcases h5 with ⟨-, -, z⟩ | ⟨-, -, z, -⟩
    · rw [z]; exact ⟨by decide, by decide⟩
    · exact ⟨by have := z.1; omega, z.2⟩
  refine ⟨ja.tick, BL.tick ja jb, ?_⟩
  have hs : IB 1 9 (tickV v 0 28) := by rw [k28]; exact sz_b hz
  rcases k6 with k6 | k6
  · exact ⟨c + 1, l, by omega, by omega, by rw [k0, h3, nI_1], by rw [k6, h4], Or.inr ⟨by omega, k5, hs, km⟩⟩
  · exact ⟨c + 1, l + 1, by omega, by omega, by rw [k0, h3, nI_1], by rw [k6, h4, nI_1], Or.inr ⟨by omega, k5, hs, km⟩⟩
theorem J.ticks {n : Nat} {v : pLV} (h : J n v) : ∀ k, J (n + k) (tickI k v)
  | 0 => h
  | k + 1 => J.tick (J.nl (J.ticks h k))
-- what the law asks
theorem nlt0 {x : Int32} (h : 0 ≤ x.toInt) : ¬ x < 0 := by
  rw [ilt, toI0]
  omega
theorem J.acc {n : Nat} {v : pLV} (h : J n v) : AccC v := by
  obtain ⟨ja, jb, -⟩ := h
  have q : ∀ {r : Int} {R f w : Int32}, CH r f w → r ≤ 1000000 → R.toInt = r → ¬ f < 0 ∧ ¬ w < 0 ∧ ¬ R < f + w ∧ csC f w = (if f + w = 0 then 0 else f * 1000 / (f + w)) := by
    intro r R f w hc hr hR
    have hs := hc.sum (by omega)
    refine ⟨nlt0 hc.1, nlt0 hc.2.1, ?_, (csM_eq hc (by omega)).symm⟩
    rw [ilt, hs, hR]
    have := hc.2.2
    omega
  have g : ∀ {g R : Int32} {r : Int}, g.toInt ≤ r → R.toInt = r → g ≤ R := by
    intro g R r h1 h2
    rw [ile, h2]
    exact h1
  obtain ⟨a1, a2, a3, a4⟩ := q (R := 20000) ja.2.1.1 (by omega) rfl
  obtain ⟨b1, b2, b3, b4⟩ := q (R := 30000) ja.2.1.2.1 (by omega) rfl
  obtain ⟨c1, c2, c3, c4⟩ := q (R := 10000) ja.2.1.2.2.1 (by omega) rfl
  obtain ⟨d1, d2, d3, d4⟩ := q (R := 10000) ja.2.1.2.2.2 (by omega) rfl
  refine ⟨⟨a1, a2, a3, ja.1.1, a4, g ja.2.2.1.1 rfl⟩, ⟨b1, b2, b3, ja.1.2.1, b4, g ja.2.2.1.2.1 rfl⟩, ⟨c1, c2, c3, ja.1.2.2.1, c4, g ja.2.2.1.2.2.1 rfl⟩, ⟨d1, d2, d3, ja.1.2.2.2, d4, g ja.2.2.1.2.2.2 rfl⟩, ?_⟩
  have jb : 400 + v 0 22 + v 0 23 = sumP (v 2) 4 + v 0 24 + v 0 25 + fibV v + 0 := jb
  rw [jb, Int32.add_zero]
theorem ngt {x : Int32} {hi : Int} (c : Int32) (hc : c.toInt = hi) (h : x.toInt ≤ hi) : ¬ c < x := by
  rw [ilt, hc]
  omega
theorem J.loo {n : Nat} {v : pLV} (h : J n v) (hn : n ≤ 1000000) : LooC v := by
  obtain ⟨ja, -, c, l, h1, h2, h3, h4, h5⟩ := h
  obtain ⟨N, h20, hN, hE, hS⟩ := ja.2.2.2.2.2
  obtain ⟨g1, g2, g3, g4⟩ := ja.2.2.2.2.1
  have hle : ∀ {x c : Int32} {hi : Int}, c.toInt = hi → x.toInt ≤ hi → x ≤ c := by
    intro x c hi hc h
    rw [ile, hc]
    exact h
  refine ⟨N, h20, hN, fun k hk => ?_, fun k hk => ?_, nlt0 g2.1, ngt 50 rfl g2.2, nlt0 g3.1, ngt 20 rfl g3.2, nlt0 g4.1, ngt 3000 rfl g4.2, ?_, ?_, ?_⟩
  · rcases hE k hk with ⟨e1, e2⟩ | ⟨e1, e2⟩ | ⟨e1, e2⟩
    · exact ⟨Or.inl ⟨e1, hle rfl e2.2⟩, nlt0 e2.1⟩
    · exact ⟨Or.inr (Or.inl ⟨e1, hle rfl e2.2⟩), nlt0 e2.1⟩
    · exact ⟨Or.inr (Or.inr ⟨e1, hle rfl e2.2⟩), nlt0 e2.1⟩
  · rw [ilt]
    have := hS k hk
    omega
  · rcases h5 with ⟨z1, z2, z3⟩ | ⟨z1, z2, z3, z4⟩
    · refine Or.inl ⟨by rw [h3, z1]; rfl, z2, ?_⟩
      unfold ltC
      rw [z3]
      exact if_neg (by decide)
    · have p0 : (0 : Int32) < v 0 28 := by
        rw [ilt, toI0]
        have := z3.1
        omega
      refine Or.inr ⟨?_, ?_, ?_⟩
      · rw [h3]
        exact nI_ne0 z1 (by omega)
      · intro q
        rw [q] at z2
        exact absurd z2.1 (by decide)
      · unfold ltC
        rw [if_pos p0]
        intro q
        rw [q] at z4
        exact absurd z4.1 (by decide)
  · have e : (v 0 5).toInt ≤ 3 := by
      rcases h5 with ⟨-, z2, -⟩ | ⟨-, z2, -⟩
      · rw [z2]; decide
      · exact z2.2
    rw [ile, show (4 : Int32).toInt = 4 from rfl]
    omega
  · rw [h3, h4]
    exact nI_nlt h1 (by omega)
theorem J.tic {n : Nat} {v x u : pLV} (h : J n v) (hx : XR x) (hu : IRm u) : TicC x v u :=
  ⟨hx, h.1.1, hu, IRm.tick (v := NL v) h.1.1, (tick_K (v := NL v) h.1).2.2.2.2.1⟩
end
