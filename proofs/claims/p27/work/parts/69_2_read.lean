noncomputable section
/-! SCHEDULES THAT ARE READ ARE IN ORDER -/
theorem isP_a {f : Nat → Int32} {t : Int32} : ∀ n j, isP f t n ≤ j → j < n → t.toInt < (f j).toInt
  | 0, j, _, h => absurd h (Nat.not_lt_zero _)
  | n + 1, j, h1, h2 => by
    unfold isP at h1
    by_cases z : f n ≤ t
    · rw [if_pos z] at h1
      omega
    · rw [if_neg z] at h1
      by_cases y : j = n
      · subst y
        rw [ile] at z
        omega
      · exact isP_a n j h1 (by omega)
theorem isP_b {f : Nat → Int32} {t : Int32} : ∀ n, 0 < isP f t n → (f (isP f t n - 1)).toInt ≤ t.toInt
  | 0, h => absurd h (Nat.not_lt_zero _)
  | n + 1, h => by
    unfold isP at h ⊢
    by_cases z : f n ≤ t
    · rw [if_pos z]
      exact ile.mp z
    · rw [if_neg z] at h ⊢
      exact isP_b n h
theorem upd_ne {f : Nat → Int32} {k j : Nat} {x : Int32} (h : j ≠ k) : upd f k x j = f j := if_neg h
theorem isA_l (f : Nat → Int32) (p m : Nat) (x : Int32) {j : Nat} (h : j < p) : isA f p m x j = f j := by
  unfold isA shI
  rw [upd_ne (by omega), if_pos (by omega)]
theorem isA_e (f : Nat → Int32) (p m : Nat) (x : Int32) : isA f p m x p = x := if_pos rfl
theorem isA_r (f : Nat → Int32) (p m : Nat) (x : Int32) {j : Nat} (h : p < j) (h2 : j ≤ m) : isA f p m x j = f (j - 1) := by
  unfold isA shI
  rw [upd_ne (by omega), if_neg (by omega), if_pos h2]
theorem isN_c {c : Nat} (h : c < 20) : isN (nI c) = nI (c + 1) := by
  unfold isN
  have z1 : ¬ 20 ≤ nI c := by
    rw [ile, nI_toInt (by omega)]
    have : (20 : Int32).toInt = 20 := rfl
    omega
  rw [if_neg (Int32.not_lt.mpr (nI_pos' (by omega))), if_neg z1, nI_1]
theorem isF_c {c : Nat} (h : c < 20) (t : Int32) (f0 f : Nat → Int32) (x : Int32) : isF (nI c) t f0 f x = isA f (isP f0 t c) c x := by
  unfold isF
  have z1 : ¬ 20 ≤ nI c := by
    rw [ile, nI_toInt (by omega)]
    have : (20 : Int32).toInt = 20 := rfl
    omega
  rw [if_neg (Int32.not_lt.mpr (nI_pos' (by omega))), if_neg z1, nI_clamp (by omega)]
theorem rk_3 {c : Int32} (h : ¬ rkI c = -9) : inI c 48 57 = 0 ∧ (rkI c = 0 ∨ rkI c = 1 ∨ rkI c = 2) := by
  unfold rkI at h ⊢
  by_cases h1 : c = 98
  · subst h1
    exact ⟨by decide, Or.inl rfl⟩
  · rw [if_neg h1] at h ⊢
    by_cases h2 : c = 102
    · subst h2
      exact ⟨by decide, Or.inr (Or.inr rfl)⟩
    · rw [if_neg h2] at h ⊢
      by_cases h3 : c = 103
      · subst h3
        exact ⟨by decide, Or.inr (Or.inl rfl)⟩
      · rw [if_neg h3] at h
        exact absurd rfl h
theorem ISx.ins {c : Nat} {f g e : Nat → Int32} (h : ISx (nI c) f g e) (hc : c < 20) (t k x : Int32) (hk : IEn k x) : ISx (isN (nI c)) (isF (nI c) t f f t) (isF (nI c) t f g k) (isF (nI c) t f e x) := by
  obtain ⟨N, h20, hN, hE, hS⟩ := h
  have hNc : N = c := ((nI_eq (by omega) (by omega)).mp hN).symm
  subst hNc
  rw [isN_c hc, isF_c hc, isF_c hc, isF_c hc]
  have hp := isP_le f t N
  have pa := fun j => isP_a (f := f) (t := t) N j
  have pb := isP_b (f := f) (t := t) N
  generalize isP f t N = p at hp pa pb
  refine ⟨N + 1, by omega, rfl, fun j hj => ?_, fun j hj => ?_⟩
  · rcases Nat.lt_trichotomy j p with q | q | q
    · rw [isA_l _ _ _ _ q, isA_l _ _ _ _ q]
      exact hE j (by omega)
    · subst q
      rw [isA_e, isA_e]
      exact hk
    · rw [isA_r _ _ _ _ q (by omega), isA_r _ _ _ _ q (by omega)]
      exact hE (j - 1) (by omega)
  · rcases Nat.lt_trichotomy (j + 1) p with q | q | q
    · rw [isA_l _ _ _ _ (show j < p by omega), isA_l _ _ _ _ q]
      exact hS j (by omega)
    · rw [isA_l _ _ _ _ (show j < p by omega), ← q, isA_e]
      have := pb (by omega)
      rw [← q] at this
      exact this
    · rcases Nat.lt_or_ge j p with z | z
      · omega
      · rcases Nat.lt_or_ge p j with y | y
        · rw [isA_r _ _ _ _ y (by omega), isA_r _ _ _ _ q (by omega)]
          obtain ⟨i, rfl⟩ : ∃ i, j = i + 1 := ⟨j - 1, by omega⟩
          exact hS i (by omega)
        · have : j = p := by omega
          subst this
          rw [isA_e, isA_r _ _ _ _ q (by omega)]
          have := pa j (by omega) (by omega)
          show t.toInt ≤ (f (j + 1 - 1)).toInt
          rw [Nat.add_sub_cancel]
          omega
def QI (r : pLV) : Prop := ISx (r 0 3) (r 1) (r 2) (r 3)
theorem QI.nq {r : pLV} (h : QI r) : QI (NQ r) := h
theorem QI.nt {r : pLV} (k p : Int32) (h : QI r) : QI (qNt r k p) := h
theorem QI.nw {r : pLV} (L : Int32) (h : QI r) : QI (qNw r L) := by
  unfold qNw
  split
  · exact h.nt _ _
  · exact h.nt _ _
theorem QI.sk {r : pLV} (L : Int32) (h : QI r) : QI (qSk r L) := h
theorem QI.ad {r : pLV} (h : QI r) : QI (qAd r) := h
theorem QI.at_ {r : pLV} (z : Int32) (h : QI r) : QI (vS r 2 z) := h
theorem QI.rt {r : pLV} (L p v lo hi : Int32) (h : QI r) : QI (qRt r L p v lo hi) := by
  unfold qRt
  split
  · exact h.nq.nw _
  · split
    · split
      · exact h.nt _ _
      · split
        · exact h
        · exact h.nt _ _
    · exact h.nq.nw _
theorem QI.rn {r : pLV} (L lo hi : Int32) (h : QI r) : QI (qRn r L lo hi) := (h.at_ _).rt _ _ _ _ _
theorem QI.e2 {r : pLV} (L : Int32) (h : QI r) : QI (qE2 r L) := by
  unfold qE2
  split
  · split
    · exact h
    · exact h.nq.nw _
  · exact h
theorem QI.e5 {r : pLV} (L : Int32) (h : QI r) : QI (qE5 r L) := by
  unfold qE5
  split
  · split
    · exact h
    · split
      · exact h
      · exact h.nt _ _
  · exact h
/-- no fault -/
theorem nw_0 (r : pLV) (L : Int32) : ¬ qNw r L 0 0 = 0 := by
  unfold qNw
  split
  · exact fun q => absurd (show (3 : Int32) = 0 from q) (by decide)
  · exact fun q => absurd (show (1 : Int32) = 0 from q) (by decide)
theorem rt_0 {r : pLV} {L p v lo hi : Int32} (h : qRt r L p v lo hi 0 0 = 0) : ¬ v < lo ∧ v ≤ hi := by
  unfold qRt at h
  split at h
  · exact absurd h (nw_0 _ _)
  · split at h
    · split at h
      · exact absurd (show (2 : Int32) = 0 from h) (by decide)
      · rename_i q1
        split at h
        · rename_i q2
          exact ⟨q1, q2⟩
        · exact absurd (show (2 : Int32) = 0 from h) (by decide)
    · exact absurd h (nw_0 _ _)
theorem rn_0 {r : pLV} {L lo hi : Int32} (h : qRn r L lo hi 0 0 = 0) : ¬ qRv r L < lo ∧ qRv r L ≤ hi := rt_0 h
theorem e5_0 {r : pLV} {L : Int32} (h : qE5 r L 0 0 = 0) : r 0 0 = 0 := by
  unfold qE5 at h
  split at h
  · rename_i q
    exact q
  · exact h
theorem e5_3 (r : pLV) (L : Int32) : qE5 r L 0 3 = r 0 3 := by
  unfold qE5
  split
  · split
    · rfl
    · split <;> rfl
  · rfl
theorem nw_3 (r : pLV) (L : Int32) : qNw r L 0 3 = r 0 3 := by
  unfold qNw
  split <;> rfl
theorem rt_3 (r : pLV) (L p v lo hi : Int32) : qRt r L p v lo hi 0 3 = r 0 3 := by
  unfold qRt
  split
  · exact nw_3 _ _
  · split
    · split
      · rfl
      · split <;> rfl
    · exact nw_3 _ _
theorem rn_3 (r : pLV) (L lo hi : Int32) : qRn r L lo hi 0 3 = r 0 3 := rt_3 _ _ _ _ _ _
theorem e2_3 (r : pLV) (L : Int32) : qE2 r L 0 3 = r 0 3 := by
  unfold qE2
  split
  · split
    · rfl
    · exact nw_3 _ _
  · rfl
theorem QI.ins {r : pLV} (t k x : Int32) (h : QI r) (hr : r 0 3 < 20) (hk : IEn k x) : QI (qIn r t k x) := by
  have h' := h
  obtain ⟨N, h20, hN, -⟩ := h
  have hlt : N < 20 := by
    rw [hN] at hr
    exact (nI_ltI (b := 20) (by omega) (by omega)).mp hr
  have g : ISx (nI N) (r 1) (r 2) (r 3) := by rw [← hN]; exact h'
  have g2 := g.ins hlt t k x hk
  rw [← hN] at g2
  exact g2
theorem kind_n {k v : Int32} (hk : k = 0 ∨ k = 1 ∨ k = 2) (h1 : ¬ v < lsI k) (h2 : v ≤ msI k) : IEn k v := by
  have h1 := ile.mp (Int32.not_lt.mp h1)
  have h2 := ile.mp h2
  rcases hk with rfl | rfl | rfl
  · have e1 : (lsI 0).toInt = 1 := by decide
    have e2 : (msI 0).toInt = 50 := by decide
    exact Or.inl ⟨rfl, by omega, by omega⟩
  · have e1 : (lsI 1).toInt = 0 := by decide
    have e2 : (msI 1).toInt = 3 := by decide
    exact Or.inr (Or.inl ⟨rfl, by omega, by omega⟩)
  · have e1 : (lsI 2).toInt = 0 := by decide
    have e2 : (msI 2).toInt = 2000 := by decide
    exact Or.inr (Or.inr ⟨rfl, by omega, by omega⟩)
theorem QI.eb {r : pLV} (L t k : Int32) (h : QI r) (hr : r 0 3 < 20) (hk : k = 0 ∨ k = 1 ∨ k = 2) : QI (qEb r L t k) := by
  unfold qEb
  split
  · have g : QI (qE5 (qRn (NQ (qAd r)) L (lsI k) (msI k)) L) := (h.ad.nq.rn L (lsI k) (msI k)).e5 L
    have e3 : qE5 (qRn (NQ (qAd r)) L (lsI k) (msI k)) L 0 3 = r 0 3 := (e5_3 _ _).trans (rn_3 _ _ _ _)
    have e0 : qE5 (qRn (NQ (qAd r)) L (lsI k) (msI k)) L 0 0 = 0 → IEn k (qRv (NQ (qAd r)) L) := fun q => by
      obtain ⟨q1, q2⟩ := rn_0 (e5_0 q)
      exact kind_n hk q1 q2
    generalize qE5 (qRn (NQ (qAd r)) L (lsI k) (msI k)) L = y at g e3 e0 ⊢
    unfold qE6
    split
    · rename_i q
      exact g.ins _ _ _ (by rw [e3]; exact hr) (e0 q)
    · exact g
  · exact h
theorem QI.ea {r : pLV} (L k : Int32) (h : QI r) (hr : r 0 3 < 20) (hk : k = 0 ∨ k = 1 ∨ k = 2) : QI (qEa r L k) := by
  unfold qEa
  refine QI.eb _ _ _ ((h.ad.nq.rn L 1 9999).e2 L) ?_ hk
  rw [e2_3, rn_3]
  exact hr
theorem QI.re {r : pLV} (L : Int32) (h : QI r) : QI (qRe r L) := by
  unfold qRe
  split
  · exact h.nt _ _
  · rename_i q
    split
    · rename_i hr
      exact h.ea _ _ hr (rk_3 q).2
    · exact h.nt _ _
theorem QI.ri (L : Int32) : ∀ (d : Nat) (r : pLV), QI r → QI (qRi L d r)
  | 0, _, h => h
  | d + 1, r, h => by
    unfold qRi
    split
    · exact h
    · split
      · exact QI.ri L d _ ((h.nq.re L).nq.sk L)
      · exact h
theorem QI.rd (r : pLV) (L : Int32) : QI (qRd r L) := by
  have h0 : QI (q0 r) := ⟨0, by omega, rfl, fun j hj => absurd hj (Nat.not_lt_zero j), fun j hj => absurd hj (Nat.not_lt_zero _)⟩
  exact QI.ri L 21 _ (h0.nq.sk L)
theorem plan_I (x : pLV) : ISx (plX x 0 10) (plX x 2) (plX x 3) (plX x 4) := QI.rd (rOf x) (x 0 0)
end
