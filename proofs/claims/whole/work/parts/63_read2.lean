noncomputable section
/-! THE TWO SIDES ARE ALIKE: a number is read -/
theorem qCd_q {r : pLV} {a n : Nat} {t : Nat → Int32} (r2 : r 0 2 = nI a) (r4 : r 4 = t) (ha : a ≤ n) (hn : n ≤ 120) : qCd r (nI n) = if a < n then t a else -9 := by
  unfold qCd
  rw [r2, r4, if_neg (Int32.not_lt.mpr (nI_pos' (by omega)))]
  by_cases h : a < n
  · have z1 : ¬ nI n ≤ nI a := by
      rw [ile, nI_i (by omega), nI_i (by omega)]
      omega
    have z2 : ¬ 120 ≤ nI a := by
      rw [ile, nI_i (by omega)]
      have : (120 : Int32).toInt = 120 := rfl
      omega
    rw [if_pos h, if_neg z1, if_neg z2, nI_clamp (by omega)]
  · have z1 : nI n ≤ nI a := by
      rw [ile, nI_i (by omega), nI_i (by omega)]
      omega
    rw [if_neg h, if_pos z1]
theorem qnw_e {r : pLV} {n : Nat} (r2 : r 0 2 = nI n) : qNw r (nI n) = qNt r 3 (nI n) := by
  unfold qNw
  rw [r2, if_pos (Int32.le_refl _)]
theorem qnw_l {r : pLV} {a n : Nat} (r2 : r 0 2 = nI a) (h : a < n) (hn : n ≤ 120) : qNw r (nI n) = qNt r 1 (nI a) := by
  have z1 : ¬ nI n ≤ nI a := by
    rw [ile, nI_i (by omega), nI_i (by omega)]
    omega
  unfold qNw
  rw [r2, if_neg z1]
theorem rte_v {m : pLV} {st : Int32} (h : m 0 15 = -9) (h17 : m 0 17 = st) (hst : st = 1 ∨ st = 3) : rtE m = faM (NM m) 3 (m 0 6) := by
  unfold rtE
  rw [if_pos h, h17]
  rcases hst with e | e
  · subst e
    rw [if_neg (by decide), if_pos rfl]
  · subst e
    rw [if_neg (by decide), if_neg (by decide), if_pos rfl]
theorem rte_w {m : pLV} {st : Int32} (h : m 0 15 = -9) (h17 : m 0 17 = st) (hst : st = 2 ∨ st = 4) : rtE m = if iwR m = 0 then faM (NM m) 2 (m 0 19) else if st = 4 then eeM (NM m) else faM (NM m) 3 (m 0 6) := by
  unfold rtE
  rw [if_pos h, h17]
  rcases hst with e | e <;> subst e <;> rw [if_neg (by decide), if_neg (by decide), if_neg (by decide)]
theorem RF_num {m0 : pLV} {E : Nat → Int32} {c n a : Nat} {st : Int32} {t : Nat → Int32} {m r : pLV} (hst : st = 1 ∨ st = 3) (hn : n ≤ 120) (ht : ∀ j, j < n → m0 4 j = t j) (h6 : m0 0 6 = nI n) (h : QS m0 E c st m) (ha : a ≤ n) (r2 : r 0 2 = nI a) (r4 : r 4 = t) {lo hi : Int32} (hw : ∀ m', QS m0 E c (st + 1) m' → iwR m' = inI (m' 0 20) lo hi) :
    (∃ fk p, ¬ fk = 0 ∧ ¬ fk = -9 ∧ qRn r (nI n) lo hi 0 0 = fk ∧ qRn r (nI n) lo hi 0 1 = p ∧ qRn r (nI n) lo hi 4 = t ∧ FA m0 fk p (RF (n - a) a m)) ∨
    (∃ b m', a < b ∧ b ≤ n ∧ qRn r (nI n) lo hi = vS r 2 (nI b) ∧ QS m0 E c (st + 1) m' ∧ m' 0 20 = qRv r (nI n) ∧ (¬ iwR m' = 0 ∧ ¬ inI (qRv r (nI n)) lo hi = 0) ∧ RF (n - a) a m = RF (n - b) b m' ∧ (b < n → inI (t b) 48 57 = 0)) := by
  have hst2 : st + 1 = 2 ∨ st + 1 = 4 := by
    rcases hst with e | e <;> subst e
    · exact Or.inl rfl
    · exact Or.inr rfl
  have eR : qRn r (nI n) lo hi = qRt (vS r 2 (nI (dgA t n 4 a))) (nI n) (nI a) (dgV t n 4 a 0) lo hi := by
    unfold qRn
    rw [r2, r4, nI_clamp (by omega), nI_clamp (by omega)]
  have eV : qRv r (nI n) = dgV t n 4 a 0 := by
    unfold qRv
    rw [r2, r4, nI_clamp (by omega), nI_clamp (by omega)]
  rw [eR, eV]
  clear eR eV
  by_cases hd : a < n ∧ ¬ inI (t a) 48 57 = 0
  · obtain ⟨d1, d2⟩ := hd
    have h4 : m 4 a = t a := by rw [h.1.2.2.2.1, ht a d1]
    have e1 : dgA t n 4 a = dgA t n 3 (a + 1) := (if_pos d1).trans (if_neg d2)
    have e2 : dgV t n 4 a 0 = dgV t n 3 (a + 1) (0 * 10 + t a - 48) := (if_pos d1).trans (if_neg d2)
    have hq := rd_first h hst (show a < 1000 by omega)
    rw [h4] at hq
    obtain ⟨m', g1, g2, g3, g4, g5⟩ := RF_dig hst2 hn ht 3 1 (a + 1) _ _ hq (by omega) (by omega)
    have e3 : RF (n - a) a m = RF (n - dgA t n 3 (a + 1)) (dgA t n 3 (a + 1)) m' := by
      rw [show n - a = n - (a + 1) + 1 by omega, RF_s h.2.1, rtS_d (by rw [h4]; exact d2), g2]
    rw [e1, e2, e3]
    clear e1 e2 e3 g2
    generalize dgA t n 3 (a + 1) = b at g1 g3 g4 g5
    generalize dgV t n 3 (a + 1) (0 * 10 + t a - 48) = V at g1
    obtain ⟨k1, k2, k3, k4⟩ := g1
    have n1 : ¬ vS r 2 (nI b) 0 2 = nI a := nI_ne (by omega) (by omega) (by omega)
    have ec : qCd (vS r 2 (nI b)) (nI n) = if b < n then t b else -9 := qCd_q (r := vS r 2 (nI b)) rfl r4 g4 hn
    by_cases hb : b < n ∧ ¬ inI (t b) 48 57 = 0
    · obtain ⟨b1, b2⟩ := hb
      have b3 := g5 b1 b2
      have hR : qRt (vS r 2 (nI b)) (nI n) (nI a) V lo hi = qNt (NQ (vS r 2 (nI b))) 1 (nI b) := by
        unfold qRt
        rw [if_neg n1, ec, if_pos b1, if_neg b2]
        exact qnw_l rfl b1 hn
      rw [hR]
      refine Or.inl ⟨1, nI b, by decide, by decide, rfl, rfl, r4, ?_⟩
      have hm4 : m' 4 b = t b := by rw [k1.1.2.2.2.1, ht b b1]
      have k2' : m' 0 18 = 4 := by
        rw [k2, b3, show 1 + (a + 1 + 3 - (a + 1)) = 4 by omega]
        rfl
      rw [show n - b = n - (b + 1) + 1 by omega, RF_s k1.2.1, rtS_d (by rw [hm4]; exact b2)]
      have : rdgM (NM m') (nI b) = faM (NM (NM m')) 1 (nI b) := by
        unfold rdgM
        rw [NM_17, NM_18, k1.2.2.2.1, k2', if_pos rfl]
        rcases hst2 with e | e <;> rw [e]
        · rw [if_neg (by decide), if_pos rfl]
        · rw [if_neg (by decide), if_neg (by decide), if_pos rfl]
      rw [this]
      exact (FA_f k1.1 1 (nI b)).run (by decide) _ _
    · have hnd : inI (qCd (vS r 2 (nI b)) (nI n)) 48 57 = 0 := by
        rw [ec]
        by_cases z : b < n
        · rw [if_pos z]
          exact Classical.byContradiction fun q => hb ⟨z, q⟩
        · rw [if_neg z]
          decide
      have hiw : iwR m' = inI V lo hi := by rw [hw m' k1, k4]
      by_cases hV : inI V lo hi = 0
      · have hR : qRt (vS r 2 (nI b)) (nI n) (nI a) V lo hi = qNt (vS r 2 (nI b)) 2 (nI a) := by
          unfold qRt
          rw [if_neg n1, if_pos hnd]
          by_cases y : V < lo
          · rw [if_pos y]
          · rw [if_neg y]
            by_cases y2 : hi < V
            · rw [if_neg (Int32.not_le.mpr y2)]
            · exact absurd hV (inI_1 y y2)
        rw [hR]
        refine Or.inl ⟨2, nI a, by decide, by decide, rfl, rfl, r4, ?_⟩
        have hz : iwR m' = 0 := hiw.trans hV
        by_cases z : b < n
        · have hm4 : m' 4 b = t b := by rw [k1.1.2.2.2.1, ht b z]
          have hnd' : inI (m' 4 b) 48 57 = 0 := by
            rw [hm4]
            exact Classical.byContradiction fun q => hb ⟨z, q⟩
          rw [show n - b = n - (b + 1) + 1 by omega, RF_s k1.2.1, rtS_o hnd', rom_w k1.2.2.2.1 hst2 (by omega), if_pos hz, k3]
          exact (FA_f k1.1 2 (nI a)).run (by decide) _ _
        · have : b = n := by omega
          subst this
          rw [Nat.sub_self]
          have : RF 0 b m' = faM (NM m') 2 (nI a) := by
            show rtE m' = _
            rw [rte_w k1.2.1 k1.2.2.2.1 hst2, if_pos hz, k3]
          rw [this]
          exact FA_f1 k1.1 2 (nI a)
      · have hR : qRt (vS r 2 (nI b)) (nI n) (nI a) V lo hi = vS r 2 (nI b) := by
          unfold qRt
          rw [if_neg n1, if_pos hnd]
          obtain ⟨y1, y2⟩ := inI_i.mp hV
          rw [if_neg (by rw [ilt]; omega), if_pos (ile.mpr y2)]
        rw [hR]
        refine Or.inr ⟨b, m', by omega, g4, rfl, k1, k4, ⟨by rw [hiw]; exact hV, hV⟩, rfl, fun z => ?_⟩
        exact Classical.byContradiction fun q => hb ⟨z, q⟩
  · have e1 : dgA t n 4 a = a := by
      by_cases z : a < n
      · exact (if_pos z).trans (if_pos (Classical.byContradiction fun q => hd ⟨z, q⟩))
      · exact if_neg z
    rw [e1]
    have hR : qRt (vS r 2 (nI a)) (nI n) (nI a) (dgV t n 4 a 0) lo hi = qNw (NQ (vS r 2 (nI a))) (nI n) := if_pos rfl
    rw [hR]
    by_cases z : a < n
    · have hm4 : m 4 a = t a := by rw [h.1.2.2.2.1, ht a z]
      have hnd : inI (m 4 a) 48 57 = 0 := by
        rw [hm4]
        exact Classical.byContradiction fun q => hd ⟨z, q⟩
      rw [qnw_l (r := NQ (vS r 2 (nI a))) (a := a) rfl z hn]
      refine Or.inl ⟨1, nI a, by decide, by decide, rfl, rfl, r4, ?_⟩
      rw [show n - a = n - (a + 1) + 1 by omega, RF_s h.2.1, rtS_o hnd]
      have : roM (NM m) (nI a) = faM (NM (NM m)) 1 (nI a) := by
        rcases hst with e | e
        · subst e
          rw [rom_z h.2.2.2.1 (by decide) (by decide) (by omega)]
          unfold roT
          rw [NM_17, h.2.2.2.1, if_neg (by decide), if_neg (by decide), if_neg (by decide)]
        · subst e
          rw [rom_z h.2.2.2.1 (by decide) (by decide) (by omega)]
          unfold roT
          rw [NM_17, h.2.2.2.1, if_neg (by decide), if_neg (by decide), if_neg (by decide)]
      rw [this]
      exact (FA_f h.1 1 (nI a)).run (by decide) _ _
    · have : a = n := by omega
      subst this
      rw [qnw_e (r := NQ (vS r 2 (nI a))) rfl]
      refine Or.inl ⟨3, nI a, by decide, by decide, rfl, rfl, r4, ?_⟩
      rw [Nat.sub_self]
      have : RF 0 a m = faM (NM m) 3 (nI a) := by
        show rtE m = _
        rw [rte_v h.2.1 h.2.2.2.1 hst, h.1.2.2.2.2.2.2.2.1, h6]
      rw [this]
      exact FA_f1 h.1 3 (nI a)
end
