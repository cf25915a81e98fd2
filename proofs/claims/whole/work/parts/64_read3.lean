noncomputable section
/-! THE TWO SIDES ARE ALIKE: an entry is read -/
theorem kd_rk (c : Int32) : kdI c = rkI c := by
  unfold kdI rkI
  by_cases h1 : c = 98
  · rw [if_pos h1, if_pos h1]
  · rw [if_neg h1, if_neg h1]
    by_cases h2 : c = 102
    · subst h2
      rw [if_neg (by decide), if_pos rfl, if_pos rfl]
    · rw [if_neg h2, if_neg h2]
theorem rk_3 {c : Int32} (h : ¬ rkI c = -9) : inI c 48 57 = 0 ∧ (rkI c = 0 ∨ rkI c = 1 ∨ rkI c = 2) := by
  unfold rkI at h ⊢
  by_cases h1 : c = 98
  · subst h1
    exact ⟨by decide, Or.inl rfl⟩
  · rw [if_neg h1] at h ⊢
    by_cases h2 : c = 102
    · subst h2
      exact ⟨by decide, Or.inr (Or.inr rfl)⟩
    · rw [if_neg h2] at h ⊢
      by_cases h3 : c = 103
      · subst h3
        exact ⟨by decide, Or.inr (Or.inl rfl)⟩
      · rw [if_neg h3] at h
        exact absurd rfl h
def ENT (E : Nat → Int32) (c : Nat) : Prop := ∀ k, k < c → (E (3 * k + 1) = 1 → IB 0 3 (E (3 * k + 2))) ∧ (¬ E (3 * k + 1) = 0 → ¬ E (3 * k + 1) = 1 → IB 0 2000 (E (3 * k + 2)))
theorem isN_c {c : Nat} (h : c < 20) : isN (nI c) = nI (c + 1) := by
  unfold isN
  have z1 : ¬ 20 ≤ nI c := by
    rw [ile, nI_i (by omega)]
    have : (20 : Int32).toInt = 20 := rfl
    omega
  rw [if_neg (Int32.not_lt.mpr (nI_pos' (by omega))), if_neg z1, nI_1]
theorem isF_c {c : Nat} (h : c < 20) (t : Int32) (f0 f : Nat → Int32) (x : Int32) : isF (nI c) t f0 f x = isA f (isP f0 t c) c x := by
  unfold isF
  have z1 : ¬ 20 ≤ nI c := by
    rw [ile, nI_i (by omega)]
    have : (20 : Int32).toInt = 20 := rfl
    omega
  rw [if_neg (Int32.not_lt.mpr (nI_pos' (by omega))), if_neg z1, nI_clamp (by omega)]
theorem ee_S {m0 m : pLV} {E : Nat → Int32} {c : Nat} (hc : c < 20) (h : QS m0 E c 4 m) {v : Int32} (hv : m 0 20 = v) : QS m0 (upd E (3 * c + 2) v) (c + 1) 0 (eeM (NM m)) := by
  refine ⟨h.1.tr ⟨rfl, rfl, rfl, rfl, rfl, rfl, rfl, rfl, rfl, rfl⟩, h.2.1, ?_, rfl, ?_⟩
  · show m 0 13 + 1 = _
    rw [h.2.2.1, nI_1]
  · show upd (m 5) (3 * m 0 13 + 2).toNatClampNeg (m 0 20) = _
    rw [h.2.2.2.2, h.2.2.1, hv, nI_3, nI_p2, nI_clamp (by omega)]
theorem QS.nm {m0 m : pLV} {E : Nat → Int32} {c : Nat} {st : Int32} (h : QS m0 E c st m) : QS m0 E c st (NM m) := ⟨h.1.tr ⟨rfl, rfl, rfl, rfl, rfl, rfl, rfl, rfl, rfl, rfl⟩, h.2⟩
theorem rte_0 {m0 m : pLV} {E : Nat → Int32} {c : Nat} (h : QS m0 E c 0 m) : rtE m = m := (if_pos h.2.1).trans (if_pos h.2.2.2.1)
theorem skA_s {t : Nat → Int32} {n b : Nat} (hb : b < n) (h : t b = 32) : skA t (n - b) b = skA t (n - (b + 1)) (b + 1) := by
  rw [show n - b = n - (b + 1) + 1 by omega]
  exact if_pos h
/-- both sides fault alike, or both have one entry more -/
def ENX (m0 : pLV) (t : Nat → Int32) (n c a : Nat) (R M : pLV) : Prop :=
  (∃ fk p, ¬ fk = 0 ∧ ¬ fk = -9 ∧ R 0 0 = fk ∧ R 0 1 = p ∧ R 4 = t ∧ FA m0 fk p M) ∨
  (∃ b a2 m' E', c < 20 ∧ a < b ∧ b ≤ n ∧ R 0 0 = 0 ∧ R 0 2 = nI b ∧ R 0 3 = nI (c + 1) ∧ R 4 = t ∧ QS m0 E' (c + 1) 0 m' ∧ SRT E' (c + 1) (R 1) (R 2) (R 3) ∧ ENT E' (c + 1) ∧ M = RF (n - a2) a2 m' ∧ a2 ≤ n ∧ skA t (n - b) b = skA t (n - a2) a2)
theorem RF_val {m0 : pLV} {E E0 : Nat → Int32} {c n a a0 : Nat} {t : Nat → Int32} {m r : pLV} {K tv : Int32} (hn : n ≤ 120) (ht : ∀ j, j < n → m0 4 j = t j) (h6 : m0 0 6 = nI n) (h : QS m0 E c 3 m) (ha : a ≤ n) (haa : a0 < a) (hc : c < 20) (r0 : r 0 0 = 0) (r2 : r 0 2 = nI a) (r3 : r 0 3 = nI c) (r4 : r 4 = t) (hS : SRT E0 c (r 1) (r 2) (r 3)) (hE : ENT E0 c) (eE : E = upd (upd E0 (3 * c + 1) K) (3 * c) tv) (hK : K = 0 ∨ K = 1 ∨ K = 2) :
    ENX m0 t n c a0 (qE6 (qE5 (qRn r (nI n) (lsI K) (msI K)) (nI n)) tv K (qRv r (nI n))) (RF (n - a) a m) := by
  have hw : ∀ m', QS m0 E c (3 + 1) m' → iwR m' = inI (m' 0 20) (lsI K) (msI K) := by
    intro m' h'
    have e17 : m' 0 17 = 4 := h'.2.2.2.1
    have eK : m' 5 (3 * m' 0 13 + 1).toNatClampNeg = K := by
      rw [h'.2.2.2.2, h'.2.2.1, nI_3, nI_1, nI_clamp (by omega), eE, upd_ne (by omega)]
      exact if_pos rfl
    unfold iwR
    rw [e17, if_neg (by decide), eK]
    rcases hK with e | e | e <;> subst e
    · rw [if_pos rfl]
      rfl
    · rw [if_neg (by decide), if_pos rfl]
      rfl
    · rw [if_neg (by decide), if_neg (by decide)]
      rfl
  rcases RF_num (Or.inr rfl) hn ht h6 h ha r2 r4 hw with ⟨fk, p, f1, f2, f3, f4, f5, f6⟩ | ⟨b, m', g1, g2, g3, g4, g5, ⟨g6, g6'⟩, g7, g8⟩
  · have e1 : qE5 (qRn r (nI n) (lsI K) (msI K)) (nI n) = qRn r (nI n) (lsI K) (msI K) := if_neg (by rw [f3]; exact f1)
    have e2 : qE6 (qRn r (nI n) (lsI K) (msI K)) tv K (qRv r (nI n)) = qRn r (nI n) (lsI K) (msI K) := if_neg (by rw [f3]; exact f1)
    rw [e1, e2]
    exact Or.inl ⟨fk, p, f1, f2, f3, f4, f5, f6⟩
  · rw [g3, g7]
    have s0 : vS r 2 (nI b) 0 0 = 0 := r0
    have q4 : QS m0 E c 4 m' := g4
    generalize qRv r (nI n) = V at g5 g6'
    have hfin : ∀ R, R = qIn (vS r 2 (nI b)) tv K V → ∀ M a2 m2, QS m0 (upd E (3 * c + 2) V) (c + 1) 0 m2 → M = RF (n - a2) a2 m2 → a2 ≤ n → skA t (n - b) b = skA t (n - a2) a2 → ENX m0 t n c a0 R M := by
      intro R hR M a2 m2 j1 j2 j3 j4
      subst hR
      refine Or.inr ⟨b, a2, m2, _, hc, by omega, g2, r0, rfl, ?_, r4, j1, ?_, ?_, j2, j3, j4⟩
      · show isN (r 0 3) = _
        rw [r3, isN_c hc]
      · show SRT _ (c + 1) (isF (r 0 3) tv (r 1) (r 1) tv) (isF (r 0 3) tv (r 1) (r 2) K) (isF (r 0 3) tv (r 1) (r 3) V)
        rw [r3, isF_c hc, isF_c hc, isF_c hc]
        subst eE
        exact hS.ins (fun j hj => by rw [upd_ne (by omega), upd_ne (by omega), upd_ne (by omega)]) (by rw [upd_ne (by omega)]; exact if_pos rfl) (by rw [upd_ne (by omega), upd_ne (by omega)]; exact if_pos rfl) (if_pos rfl)
      · intro k hk
        subst eE
        by_cases z : k = c
        · subst z
          have z1 : upd (upd (upd E0 (3 * k + 1) K) (3 * k) tv) (3 * k + 2) V (3 * k + 1) = K := by
            rw [upd_ne (by omega), upd_ne (by omega)]
            exact if_pos rfl
          have z2 : upd (upd (upd E0 (3 * k + 1) K) (3 * k) tv) (3 * k + 2) V (3 * k + 2) = V := if_pos rfl
          rw [z1, z2]
          have hb := inI_i.mp g6'
          rcases hK with e | e | e <;> subst e
          · exact ⟨fun q => absurd q (by decide), fun q => absurd rfl q⟩
          · exact ⟨fun _ => hb, fun _ q => absurd rfl q⟩
          · exact ⟨fun q => absurd q (by decide), fun _ _ => hb⟩
        · rw [upd_ne (by omega), upd_ne (by omega), upd_ne (by omega), upd_ne (by omega), upd_ne (by omega), upd_ne (by omega)]
          exact hE k (by omega)
    by_cases hb : b < n
    · have z1 : ¬ nI n ≤ nI b := by
        rw [ile, nI_i (by omega), nI_i (by omega)]
        omega
      have ec : qCd (vS r 2 (nI b)) (nI n) = t b := (qCd_q (r := vS r 2 (nI b)) rfl r4 g2 hn).trans (if_pos hb)
      have hm4 : m' 4 b = t b := by rw [q4.1.2.2.2.1, ht b hb]
      have em : rtS m' b = roT (NM m') (nI b) (t b) := by
        rw [rtS_o (by rw [hm4]; exact g8 hb), rom_w q4.2.2.2.1 (Or.inr rfl) (by omega), if_neg g6, hm4]
      have eM : RF (n - b) b m' = RF (n - (b + 1)) (b + 1) (rtS m' b) := by
        rw [show n - b = n - (b + 1) + 1 by omega, RF_s q4.2.1]
      rw [eM, em]
      by_cases h32 : t b = 32
      · have e5 : qE5 (vS r 2 (nI b)) (nI n) = vS r 2 (nI b) := (if_pos s0).trans ((if_neg z1).trans (if_pos (by rw [ec]; exact h32)))
        have e6 : qE6 (vS r 2 (nI b)) tv K V = qIn (vS r 2 (nI b)) tv K V := if_pos s0
        have eT : roT (NM m') (nI b) (t b) = eeM (NM (NM m')) := by
          unfold roT
          rw [NM_17, q4.2.2.2.1, if_neg (by decide), if_neg (by decide), if_pos rfl, if_pos h32]
        rw [e5, e6, eT]
        exact hfin _ rfl _ (b + 1) _ (ee_S hc q4.nm g5) rfl (by omega) (skA_s hb h32)
      · have e5 : qE5 (vS r 2 (nI b)) (nI n) = qNt (vS r 2 (nI b)) 1 (nI b) := (if_pos s0).trans ((if_neg z1).trans (if_neg (by rw [ec]; exact h32)))
        have e6 : qE6 (qNt (vS r 2 (nI b)) 1 (nI b)) tv K V = qNt (vS r 2 (nI b)) 1 (nI b) := if_neg (show ¬ (1 : Int32) = 0 by decide)
        have eT : roT (NM m') (nI b) (t b) = faM (NM (NM m')) 1 (nI b) := by
          unfold roT
          rw [NM_17, q4.2.2.2.1, if_neg (by decide), if_neg (by decide), if_pos rfl, if_neg h32]
        rw [e5, e6, eT]
        exact Or.inl ⟨1, nI b, by decide, by decide, rfl, rfl, r4, (FA_f q4.1 1 (nI b)).run (by decide) _ _⟩
    · have : b = n := by omega
      subst this
      have e5 : qE5 (vS r 2 (nI b)) (nI b) = vS r 2 (nI b) := (if_pos s0).trans (if_pos (Int32.le_refl _))
      have e6 : qE6 (vS r 2 (nI b)) tv K V = qIn (vS r 2 (nI b)) tv K V := if_pos s0
      have e1 : RF (b - b) b m' = eeM (NM m') := by
        rw [Nat.sub_self]
        show rtE m' = _
        rw [rte_w q4.2.1 q4.2.2.2.1 (Or.inr rfl), if_neg g6, if_pos rfl]
      rw [e5, e6, e1]
      have j1 := ee_S hc q4 g5
      refine hfin _ rfl _ b _ j1 ?_ (Nat.le_refl _) rfl
      rw [Nat.sub_self]
      exact (rte_0 j1).symm
theorem RF_entry {m0 : pLV} {E : Nat → Int32} {c n a : Nat} {t : Nat → Int32} {m r : pLV} (hn : n ≤ 120) (ht : ∀ j, j < n → m0 4 j = t j) (h6 : m0 0 6 = nI n) (h : QS m0 E c 0 m) (ha : a < n) (h32 : ¬ t a = 32) (hc : c ≤ 20) (r0 : r 0 0 = 0) (r2 : r 0 2 = nI a) (r3 : r 0 3 = nI c) (r4 : r 4 = t) (hS : SRT E c (r 1) (r 2) (r 3)) (hE : ENT E c) :
    ENX m0 t n c a (qRe r (nI n)) (RF (n - a) a m) := by
  have ec : qCd r (nI n) = t a := (qCd_q r2 r4 (by omega) hn).trans (if_pos ha)
  have hm4 : m 4 a = t a := by rw [h.1.2.2.2.1, ht a ha]
  have eM : RF (n - a) a m = RF (n - (a + 1)) (a + 1) (rtS m a) := by
    rw [show n - a = n - (a + 1) + 1 by omega, RF_s h.2.1]
  rw [eM]
  by_cases hk : rkI (t a) = -9
  · have e1 : qRe r (nI n) = qNt r 1 (nI a) := by
      unfold qRe
      rw [ec, if_pos hk, r2]
    have e2 : rtS m a = faM (NM (NM m)) 1 (nI a) := by
      by_cases y : inI (t a) 48 57 = 0
      · rw [rtS_o (by rw [hm4]; exact y), rom_z h.2.2.2.1 (by decide) (by decide) (by omega), hm4]
        exact (if_pos h.2.2.2.1).trans ((if_pos (by rw [kd_rk]; exact hk)).trans (if_neg h32))
      · rw [rtS_d (by rw [hm4]; exact y)]
        exact if_pos h.2.2.2.1
    rw [e1, e2]
    exact Or.inl ⟨1, nI a, by decide, by decide, rfl, rfl, r4, (FA_f h.1 1 (nI a)).run (by decide) _ _⟩
  · obtain ⟨hnd, hK⟩ := rk_3 hk
    have e2 : rtS m a = if m 0 13 = 20 then faM (NM (NM m)) 4 (nI a) else vS (vA (NM m) 5 (upd (m 5) (3 * m 0 13 + 1).toNatClampNeg (kdI (t a)))) 17 1 := by
      rw [rtS_o (by rw [hm4]; exact hnd), rom_z h.2.2.2.1 (by decide) (by decide) (by omega), hm4]
      exact (if_pos h.2.2.2.1).trans (if_neg (by rw [kd_rk]; exact hk))
    rw [e2]
    by_cases h20 : c = 20
    · subst h20
      have e1 : qRe r (nI n) = qNt r 4 (nI a) := by
        unfold qRe
        rw [ec, if_neg hk, r3, if_neg (by decide), r2]
      rw [e1, if_pos (show m 0 13 = 20 from h.2.2.1)]
      exact Or.inl ⟨4, nI a, by decide, by decide, rfl, rfl, r4, (FA_f h.1 4 (nI a)).run (by decide) _ _⟩
    have hc' : c < 20 := by omega
    have hlt : nI c < 20 := by
      rw [ilt, nI_i (by omega)]
      have : (20 : Int32).toInt = 20 := rfl
      omega
    have e1 : qRe r (nI n) = qEa r (nI n) (rkI (t a)) := by
      unfold qRe
      rw [ec, if_neg hk, r3, if_pos hlt]
    rw [e1, if_neg (by rw [h.2.2.1]; exact nI_ne (b := 20) h20 (by omega) (by omega)), kd_rk]
    clear e1 e2 eM hk
    generalize rkI (t a) = K at hK
    have hq : QS m0 (upd E (3 * c + 1) K) c 1 (vS (vA (NM m) 5 (upd (m 5) (3 * m 0 13 + 1).toNatClampNeg K)) 17 1) := by
      refine ⟨h.1.tr ⟨rfl, rfl, rfl, rfl, rfl, rfl, rfl, rfl, rfl, rfl⟩, h.2.1, h.2.2.1, rfl, ?_⟩
      show upd (m 5) (3 * m 0 13 + 1).toNatClampNeg K = _
      rw [h.2.2.2.2, h.2.2.1, nI_3, nI_1, nI_clamp (by omega)]
    generalize vS (vA (NM m) 5 (upd (m 5) (3 * m 0 13 + 1).toNatClampNeg K)) 17 1 = m1 at hq
    have q2 : NQ (qAd r) 0 2 = nI (a + 1) := by
      show r 0 2 + 1 = _
      rw [r2, nI_1]
    have hw : ∀ m', QS m0 (upd E (3 * c + 1) K) c (1 + 1) m' → iwR m' = inI (m' 0 20) 1 9999 := fun m' h' => if_pos h'.2.2.2.1
    rcases RF_num (r := NQ (qAd r)) (Or.inl rfl) hn ht h6 hq (show a + 1 ≤ n by omega) q2 r4 hw with ⟨fk, p, f1, f2, f3, f4, f5, f6⟩ | ⟨b, m', g1, g2, g3, g4, g5, ⟨g6, g6'⟩, g7, g8⟩
    · have e1 : qE2 (qRn (NQ (qAd r)) (nI n) 1 9999) (nI n) = qRn (NQ (qAd r)) (nI n) 1 9999 := if_neg (by rw [f3]; exact f1)
      have e2 : qEa r (nI n) K = qRn (NQ (qAd r)) (nI n) 1 9999 := by
        unfold qEa
        rw [e1]
        exact if_neg (by rw [f3]; exact f1)
      rw [e2]
      exact Or.inl ⟨fk, p, f1, f2, f3, f4, f5, f6⟩
    · have q4 : QS m0 (upd E (3 * c + 1) K) c 2 m' := g4
      have s0 : vS (NQ (qAd r)) 2 (nI b) 0 0 = 0 := r0
      have ec : qCd (vS (NQ (qAd r)) 2 (nI b)) (nI n) = if b < n then t b else -9 := qCd_q (r := vS (NQ (qAd r)) 2 (nI b)) rfl r4 g2 hn
      unfold qEa
      rw [g3, g7]
      generalize qRv (NQ (qAd r)) (nI n) = tv at g5
      by_cases hb : b < n
      · rw [if_pos hb] at ec
        have hm4 : m' 4 b = t b := by rw [q4.1.2.2.2.1, ht b hb]
        have em : rtS m' b = roT (NM m') (nI b) (t b) := by
          rw [rtS_o (by rw [hm4]; exact g8 hb), rom_w q4.2.2.2.1 (Or.inl rfl) (by omega), if_neg g6, hm4]
        have eM : RF (n - b) b m' = RF (n - (b + 1)) (b + 1) (rtS m' b) := by
          rw [show n - b = n - (b + 1) + 1 by omega, RF_s q4.2.1]
        rw [eM, em]
        by_cases h58 : t b = 58
        · have e2 : qE2 (vS (NQ (qAd r)) 2 (nI b)) (nI n) = vS (NQ (qAd r)) 2 (nI b) := (if_pos s0).trans (if_pos (by rw [ec]; exact h58))
          have eT : roT (NM m') (nI b) (t b) = vS (vA (NM m') 5 (upd (m' 5) (3 * m' 0 13).toNatClampNeg (m' 0 20))) 17 3 := by
            unfold roT
            rw [NM_17, q4.2.2.2.1, if_neg (by decide), if_pos rfl, if_pos h58]
            rfl
          have hq3 : QS m0 (upd (upd E (3 * c + 1) K) (3 * c) tv) c 3 (vS (vA (NM m') 5 (upd (m' 5) (3 * m' 0 13).toNatClampNeg (m' 0 20))) 17 3) := by
            refine ⟨q4.1.tr ⟨rfl, rfl, rfl, rfl, rfl, rfl, rfl, rfl, rfl, rfl⟩, q4.2.1, q4.2.2.1, rfl, ?_⟩
            show upd (m' 5) (3 * m' 0 13).toNatClampNeg (m' 0 20) = _
            rw [q4.2.2.2.2, q4.2.2.1, g5, nI_3, nI_clamp (by omega)]
          have e3 : qEb (vS (NQ (qAd r)) 2 (nI b)) (nI n) tv K = qE6 (qE5 (qRn (NQ (qAd (vS (NQ (qAd r)) 2 (nI b)))) (nI n) (lsI K) (msI K)) (nI n)) tv K (qRv (NQ (qAd (vS (NQ (qAd r)) 2 (nI b)))) (nI n)) := if_pos s0
          rw [e2, eT, e3]
          have q5 : NQ (qAd (vS (NQ (qAd r)) 2 (nI b))) 0 2 = nI (b + 1) := by
            show nI b + 1 = _
            rw [nI_1]
          exact RF_val (r := NQ (qAd (vS (NQ (qAd r)) 2 (nI b)))) hn ht h6 hq3 (by omega) (by omega) hc' r0 q5 r3 r4 hS hE rfl hK
        · have e2 : qE2 (vS (NQ (qAd r)) 2 (nI b)) (nI n) = qNt (NQ (vS (NQ (qAd r)) 2 (nI b))) 1 (nI b) := by
            refine (if_pos s0).trans ((if_neg (by rw [ec]; exact h58)).trans ?_)
            exact qnw_l (r := NQ (vS (NQ (qAd r)) 2 (nI b))) rfl hb hn
          have e3 : qEb (qNt (NQ (vS (NQ (qAd r)) 2 (nI b))) 1 (nI b)) (nI n) tv K = qNt (NQ (vS (NQ (qAd r)) 2 (nI b))) 1 (nI b) := if_neg (show ¬ (1 : Int32) = 0 by decide)
          have eT : roT (NM m') (nI b) (t b) = faM (NM (NM m')) 1 (nI b) := by
            unfold roT
            rw [NM_17, q4.2.2.2.1, if_neg (by decide), if_pos rfl, if_neg h58]
          rw [e2, e3, eT]
          exact Or.inl ⟨1, nI b, by decide, by decide, rfl, rfl, r4, (FA_f q4.1 1 (nI b)).run (by decide) _ _⟩
      · have : b = n := by omega
        subst this
        rw [if_neg (Nat.lt_irrefl _)] at ec
        have e2 : qE2 (vS (NQ (qAd r)) 2 (nI b)) (nI b) = qNt (NQ (vS (NQ (qAd r)) 2 (nI b))) 3 (nI b) := by
          refine (if_pos s0).trans ((if_neg (by rw [ec]; decide)).trans ?_)
          exact qnw_e (r := NQ (vS (NQ (qAd r)) 2 (nI b))) rfl
        have e3 : qEb (qNt (NQ (vS (NQ (qAd r)) 2 (nI b))) 3 (nI b)) (nI b) tv K = qNt (NQ (vS (NQ (qAd r)) 2 (nI b))) 3 (nI b) := if_neg (show ¬ (3 : Int32) = 0 by decide)
        have e1 : RF (b - b) b m' = faM (NM m') 3 (nI b) := by
          rw [Nat.sub_self]
          show rtE m' = _
          rw [rte_w q4.2.1 q4.2.2.2.1 (Or.inl rfl), if_neg g6, if_neg (by decide), q4.1.2.2.2.2.2.2.2.1, h6]
        rw [e2, e3, e1]
        exact Or.inl ⟨3, nI b, by decide, by decide, rfl, rfl, r4, FA_f1 q4.1 3 (nI b)⟩
end
