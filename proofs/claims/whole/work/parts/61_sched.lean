noncomputable section
/-! THE TWO SIDES ARE ALIKE: a schedule in order -/
theorem rk1_i (e : Nat → Int32) (i k : Nat) : rk1 e i k = if (e (3 * i)).toInt < (e (3 * k)).toInt ∨ ((e (3 * i)).toInt = (e (3 * k)).toInt ∧ i < k) then 1 else 0 := by
  unfold rk1
  by_cases h1 : e (3 * i) < e (3 * k)
  · rw [if_pos h1, if_pos (Or.inl (ilt.mp h1))]
  · rw [if_neg h1]
    rw [ilt] at h1
    by_cases h2 : e (3 * i) = e (3 * k)
    · rw [if_pos h2]
      by_cases h3 : i < k
      · rw [if_pos h3, if_pos (Or.inr ⟨ieq.mp h2, h3⟩)]
      · rw [if_neg h3, if_neg (by omega)]
    · rw [if_neg h2]
      rw [ieq] at h2
      rw [if_neg (by omega)]
theorem rk_mono {e e' : Nat → Int32} {k k' : Nat} : ∀ m, (∀ i, i < m → rk1 e i k ≤ rk1 e' i k') → rkN e k m ≤ rkN e' k' m
  | 0, _ => Nat.le_refl _
  | m + 1, h => Nat.add_le_add (rk_mono m (fun i hi => h i (by omega))) (h m (by omega))
theorem rk_strict {e e' : Nat → Int32} {k k' i0 : Nat} : ∀ m, (∀ i, i < m → rk1 e i k ≤ rk1 e' i k') → i0 < m → rk1 e i0 k < rk1 e' i0 k' → rkN e k m < rkN e' k' m
  | 0, _, h, _ => absurd h (Nat.not_lt_zero _)
  | m + 1, h, h0, hs => by
    have h1 := h m (by omega)
    show rkN e k m + rk1 e m k < rkN e' k' m + rk1 e' m k'
    by_cases z : i0 = m
    · subst z
      have := rk_mono (e := e) (e' := e') (k := k) (k' := k') i0 (fun i hi => h i (by omega))
      omega
    · have := rk_strict (e := e) (e' := e') (k := k) (k' := k') m (fun i hi => h i (by omega)) (by omega) hs
      omega
theorem rk_congr {e e' : Nat → Int32} {k k' : Nat} : ∀ m, (∀ i, i < m → rk1 e i k = rk1 e' i k') → rkN e k m = rkN e' k' m
  | 0, _ => rfl
  | m + 1, h => by
    show rkN e k m + rk1 e m k = rkN e' k' m + rk1 e' m k'
    rw [rk_congr m (fun i hi => h i (by omega)), h m (by omega)]
theorem rk_inj {e : Nat → Int32} {n k k' : Nat} (h : k < n) (h' : k' < n) (hr : rkN e k n = rkN e k' n) : k = k' := by
  have key : ∀ a b : Nat, a < n → (e (3 * a)).toInt < (e (3 * b)).toInt ∨ ((e (3 * a)).toInt = (e (3 * b)).toInt ∧ a < b) → rkN e a n < rkN e b n := by
    intro a b ha hab
    refine rk_strict (i0 := a) n (fun i hi => ?_) ha ?_
    · rw [rk1_i, rk1_i]
      split
      · rw [if_pos (by omega)]
        exact Nat.le_refl _
      · exact Nat.zero_le _
    · rw [rk1_i, rk1_i, if_neg (by omega), if_pos hab]
      omega
  have h1 := key k k' h
  have h2 := key k' k h'
  omega
theorem isP_a {f : Nat → Int32} {t : Int32} : ∀ n j, isP f t n ≤ j → j < n → t.toInt < (f j).toInt
  | 0, j, _, h => absurd h (Nat.not_lt_zero _)
  | n + 1, j, h1, h2 => by
    unfold isP at h1
    by_cases z : f n ≤ t
    · rw [if_pos z] at h1
      omega
    · rw [if_neg z] at h1
      by_cases y : j = n
      · subst y
        rw [ile] at z
        omega
      · exact isP_a n j h1 (by omega)
theorem isP_b {f : Nat → Int32} {t : Int32} : ∀ n, 0 < isP f t n → (f (isP f t n - 1)).toInt ≤ t.toInt
  | 0, h => absurd h (Nat.not_lt_zero _)
  | n + 1, h => by
    unfold isP at h ⊢
    by_cases z : f n ≤ t
    · rw [if_pos z]
      exact ile.mp z
    · rw [if_neg z] at h ⊢
      exact isP_b n h
/-- f, g, h are the rows of e's n entries in the order of their times -/
def SRT (e : Nat → Int32) (n : Nat) (f g h : Nat → Int32) : Prop := (∀ i j, i < j → j < n → (f i).toInt ≤ (f j).toInt) ∧ ∀ j, j < n → ∃ k, k < n ∧ rkN e k n = j ∧ f j = e (3 * k) ∧ g j = e (3 * k + 1) ∧ h j = e (3 * k + 2)
theorem isA_l (f : Nat → Int32) (p m : Nat) (x : Int32) {j : Nat} (h : j < p) : isA f p m x j = f j := by
  unfold isA shI
  rw [upd_ne (by omega), if_pos (by omega)]
theorem isA_e (f : Nat → Int32) (p m : Nat) (x : Int32) : isA f p m x p = x := if_pos rfl
theorem isA_r (f : Nat → Int32) (p m : Nat) (x : Int32) {j : Nat} (h : p < j) (h2 : j ≤ m) : isA f p m x j = f (j - 1) := by
  unfold isA shI
  rw [upd_ne (by omega), if_neg (by omega), if_pos h2]
theorem SRT.ins {e e' : Nat → Int32} {n : Nat} {f g h : Nat → Int32} (H : SRT e n f g h) {t a b : Int32} (he : ∀ j, j < 3 * n → e' j = e j) (et : e' (3 * n) = t) (ea : e' (3 * n + 1) = a) (eb : e' (3 * n + 2) = b) : SRT e' (n + 1) (isA f (isP f t n) n t) (isA g (isP f t n) n a) (isA h (isP f t n) n b) := by
  obtain ⟨hs, hx⟩ := H
  have pa := fun j => @isP_a f t n j
  have pb := @isP_b f t n
  have pn := isP_le f t n
  have r1e : ∀ i k, i < n → k < n → rk1 e' i k = rk1 e i k := by
    intro i k hi hk
    rw [rk1_i, rk1_i, he _ (by omega), he _ (by omega)]
  have r1n : ∀ i, i < n → rk1 e' i n = if (e (3 * i)).toInt ≤ t.toInt then 1 else 0 := by
    intro i hi
    rw [rk1_i, he _ (by omega), et]
    by_cases z : (e (3 * i)).toInt ≤ t.toInt
    · rw [if_pos z, if_pos (by omega)]
    · rw [if_neg z, if_neg (by omega)]
  have rnk : ∀ k, k < n → rk1 e' n k = if t.toInt < (e (3 * k)).toInt then 1 else 0 := by
    intro k hk
    rw [rk1_i, et, he _ (by omega)]
    by_cases z : t.toInt < (e (3 * k)).toInt
    · rw [if_pos z, if_pos (Or.inl z)]
    · rw [if_neg z, if_neg (by omega)]
  have old : ∀ k, k < n → rkN e' k (n + 1) = rkN e k n + if t.toInt < (e (3 * k)).toInt then 1 else 0 := by
    intro k hk
    show rkN e' k n + rk1 e' n k = _
    rw [rk_congr n (fun i hi => r1e i k hi hk), rnk k hk]
  have new : rkN e' n (n + 1) = isP f t n := by
    show rkN e' n n + rk1 e' n n = _
    rw [rk1_k]
    have c1 : isP f t n ≤ rkN e' n n := by
      by_cases z : isP f t n = 0
      · omega
      obtain ⟨k, k1, k2, k3, -⟩ := hx (isP f t n - 1) (by omega)
      have hb := pb (by omega)
      rw [k3] at hb
      have := rk_strict (e := e) (e' := e') (k := k) (k' := n) (i0 := k) n (fun i hi => by
        rw [r1n i hi, rk1_i]
        split
        · rw [if_pos (by omega)]
          exact Nat.le_refl _
        · exact Nat.zero_le _) k1 (by
        rw [r1n k k1, rk1_k, if_pos hb]
        omega)
      omega
    have c2 : rkN e' n n ≤ isP f t n := by
      by_cases z : isP f t n = n
      · rw [z]
        exact rkN_le e' n n
      obtain ⟨k, k1, k2, k3, -⟩ := hx (isP f t n) (by omega)
      have hb := pa _ (Nat.le_refl _) (by omega)
      rw [k3] at hb
      have := rk_mono (e := e') (e' := e) (k := n) (k' := k) n (fun i hi => by
        rw [r1n i hi, rk1_i]
        split
        · rw [if_pos (by omega)]
          exact Nat.le_refl _
        · exact Nat.zero_le _)
      omega
    omega
  refine ⟨fun i j hij hj => ?_, fun j hj => ?_⟩
  · by_cases i1 : i < isP f t n
    · rw [isA_l f _ _ _ i1]
      have bi : (f i).toInt ≤ t.toInt := by
        have hb := pb (by omega)
        by_cases z : i = isP f t n - 1
        · rw [z]
          exact hb
        · exact Int.le_trans (hs i (isP f t n - 1) (by omega) (by omega)) hb
      by_cases j1 : j < isP f t n
      · rw [isA_l f _ _ _ j1]
        exact hs i j hij (by omega)
      · by_cases j2 : j = isP f t n
        · rw [j2, isA_e]
          exact bi
        · rw [isA_r f _ _ _ (by omega) (by omega)]
          exact Int.le_trans bi (Int.le_of_lt (pa (j - 1) (by omega) (by omega)))
    · by_cases i2 : i = isP f t n
      · rw [i2, isA_e, isA_r f _ _ _ (by omega) (by omega)]
        exact Int.le_of_lt (pa (j - 1) (by omega) (by omega))
      · rw [isA_r f _ _ _ (by omega) (by omega), isA_r f _ _ _ (by omega) (by omega)]
        exact hs (i - 1) (j - 1) (by omega) (by omega)
  · by_cases j1 : j < isP f t n
    · obtain ⟨k, k1, k2, k3, k4, k5⟩ := hx j (by omega)
      refine ⟨k, by omega, ?_, ?_, ?_, ?_⟩
      · rw [old k k1, k2, if_neg, Nat.add_zero]
        rw [← k3]
        have hb := pb (by omega)
        by_cases z : j = isP f t n - 1
        · rw [z]
          omega
        · have := hs j (isP f t n - 1) (by omega) (by omega)
          omega
      · rw [isA_l f _ _ _ j1, k3, he _ (by omega)]
      · rw [isA_l g _ _ _ j1, k4, he _ (by omega)]
      · rw [isA_l h _ _ _ j1, k5, he _ (by omega)]
    · by_cases j2 : j = isP f t n
      · refine ⟨n, by omega, by rw [new, j2], ?_, ?_, ?_⟩
        · rw [j2, isA_e, et]
        · rw [j2, isA_e, ea]
        · rw [j2, isA_e, eb]
      · obtain ⟨k, k1, k2, k3, k4, k5⟩ := hx (j - 1) (by omega)
        refine ⟨k, by omega, ?_, ?_, ?_, ?_⟩
        · rw [old k k1, k2, if_pos]
          · omega
          · rw [← k3]
            exact pa (j - 1) (by omega) (by omega)
        · rw [isA_r f _ _ _ (by omega) (by omega), k3, he _ (by omega)]
        · rw [isA_r g _ _ _ (by omega) (by omega), k4, he _ (by omega)]
        · rw [isA_r h _ _ _ (by omega) (by omega), k5, he _ (by omega)]
/-- the reference's entries in their places -/
theorem plS_1 (n : Nat) (x : pLV) : ∀ K, K ≤ n → (∀ j, j < 50 → plS n x K 1 j = x 1 j) ∧ ∀ k, k < K → ∀ q, q < 3 → plS n x K 1 (50 + 3 * rkN (x 5) k n + q) = x 5 (3 * k + q)
  | 0, _ => ⟨fun _ _ => rfl, fun k h => absurd h (Nat.not_lt_zero _)⟩
  | K + 1, hK => by
    obtain ⟨h1, h2⟩ := plS_1 n x K (by omega)
    have e5 : plS n x K 5 = x 5 := (plS_k n x K).1
    have eK : ∀ j, plS n x (K + 1) 1 j = upd (upd (upd (plS n x K 1) (50 + 3 * rkN (x 5) K n + 0) (plS n x K 5 (3 * K + 0))) (50 + 3 * rkN (x 5) K n + 1) (plS n x K 5 (3 * K + 1))) (50 + 3 * rkN (x 5) K n + 2) (plS n x K 5 (3 * K + 2)) j := fun j => rfl
    refine ⟨fun j hj => ?_, fun k hk q hq => ?_⟩
    · rw [eK, upd_ne (by omega), upd_ne (by omega), upd_ne (by omega)]
      exact h1 j hj
    · rw [eK, e5]
      by_cases z : k = K
      · subst z
        have hq3 : q = 0 ∨ q = 1 ∨ q = 2 := by omega
        rcases hq3 with rfl | rfl | rfl
        · rw [upd_ne (by omega), upd_ne (by omega)]
          exact if_pos rfl
        · rw [upd_ne (by omega)]
          exact if_pos rfl
        · exact if_pos rfl
      · have hn : rkN (x 5) k n ≠ rkN (x 5) K n := fun e => z (rk_inj (by omega) (by omega) e)
        rw [upd_ne (by omega), upd_ne (by omega), upd_ne (by omega)]
        exact h2 k (by omega) q hq
end
