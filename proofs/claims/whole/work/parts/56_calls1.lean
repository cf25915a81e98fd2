noncomputable section
/-! THE TWO SIDES ARE ALIKE: the calls -/
theorem inI_0l {v a b : Int32} (h : v < a) : inI v a b = 0 := if_pos h
theorem inI_0r {v a b : Int32} (h : ¬ v < a) (h2 : b < v) : inI v a b = 0 := (if_neg h).trans (if_pos h2)
theorem inI_1 {v a b : Int32} (h : ¬ v < a) (h2 : ¬ b < v) : ¬ inI v a b = 0 := by
  rw [show inI v a b = 1 from (if_neg h).trans (if_neg h2)]
  decide
theorem ge4 {c : Int32} (h : 4 ≤ c) : 3 < c := by
  rw [ile] at h
  rw [ilt]
  have e3 : (3 : Int32).toInt = 3 := rfl
  have e4 : (4 : Int32).toInt = 4 := rfl
  omega
theorem nge4 {c : Int32} (h : ¬ 4 ≤ c) : ¬ 3 < c := by
  rw [ile] at h
  rw [ilt]
  have e3 : (3 : Int32).toInt = 3 := rfl
  have e4 : (4 : Int32).toInt = 4 := rfl
  omega
theorem RS.nm {B : Int} {x v u : pLV} {h : Nat → pLV} {m : pLV} (r : RS B x v u h m) : RS B x v u h (NM m) := r
/-- the loop changes behind what is remembered -/
theorem RS.set {B C : Int} {x v u v' : pLV} {h : Nat → pLV} {m m' : pLV} (r : RS B x v u h m) (hs : SN C v' (m' 1)) (hBC : B ≤ C) (f : FR m m') : RS C x v' u h m' := r.fr hs hBC f
theorem begin_S {B : Int} {x v u : pLV} {h : Nat → pLV} {m : pLV} (r : RS B x v u h m) (hB : 0 ≤ B) : v 0 0 = rememM (NM m) 1 9 ∧ RS B (xRem x) (startV v) u (hRem x v h) (begM m) ∧ pOK m := by
  obtain ⟨q1, q2, q3⟩ := rem_S r.nm
  have h1 : SN B v (rememM (NM m) 1) := q1.1
  refine ⟨(h1.1 9 (by omega)).symm, ?_, q2⟩
  unfold begM
  refine q1.set ?_ (by omega) ⟨rfl, rfl, rfl, rfl, rfl, rfl, rfl, rfl, rfl, rfl⟩
  generalize rememM (NM m) = y at h1
  have hz : ∀ j, 49 ≤ j → layW (y 1) j = y 1 j := by
    intro j hj
    unfold layW
    rw [upd_ne (by omega), upd_ne (by omega), upd_ne (by omega), upd_ne (by omega)]
    unfold zB
    rw [if_neg (by omega)]
  have h2 := h1.2.2.2.1
  have c1 : CH 20000 (400 : Int32) 9600 := ⟨by decide, by decide, by decide⟩
  have c2 : CH 30000 (0 : Int32) 0 := ⟨by decide, by decide, by decide⟩
  have c3 : CH 10000 (0 : Int32) 0 := ⟨by decide, by decide, by decide⟩
  have c4 : IB 0 3 (0 : Int32) := ⟨by decide, by decide⟩
  have c5 : IB 0 3000 (0 : Int32) := ⟨by decide, by decide⟩
  have c6 : IB 0 9 (0 : Int32) := ⟨by decide, by decide⟩
  have z0 : (0 : Int) ≤ (0 : Int32).toInt := by decide
  refine ⟨by
    intro j hj
    match j, hj with
    | 0, _ => exact h1.1 0 (by omega)
    | 1, _ => exact h1.1 1 (by omega)
    | 2, _ => exact h1.1 2 (by omega)
    | 3, _ => exact h1.1 3 (by omega)
    | 4, _ => exact h1.1 4 (by omega)
    | 5, _ => exact h1.1 5 (by omega)
    | 6, _ => exact h1.1 6 (by omega)
    | 7, _ => exact h1.1 7 (by omega)
    | 8, _ => exact h1.1 8 (by omega)
    | 9, _ => exact rfl
    | 10, _ => exact rfl
    | 11, _ => exact rfl
    | 12, _ => exact rfl
    | 13, _ => exact rfl
    | 14, _ => exact rfl
    | 15, _ => exact rfl
    | 16, _ => exact rfl
    | 17, _ => exact rfl
    | 18, _ => exact rfl
    | 19, _ => exact rfl
    | 20, _ => exact rfl
    | 21, _ => exact rfl
    | 22, _ => exact rfl
    | 23, _ => exact rfl
    | 24, _ => exact rfl
    | 25, _ => exact rfl
    | 26, _ => exact rfl
    | 27, _ => exact rfl
    | 28, _ => exact rfl
    | 29, _ => exact rfl
    | 30, _ => exact rfl
    | 31, _ => exact rfl
    | 32, _ => exact rfl
    | 33, _ => exact rfl
    | 34, _ => exact rfl
    | 35, _ => exact rfl
    | 36, _ => exact rfl
    | 37, _ => exact rfl
    | 38, _ => exact rfl
    | 39, _ => exact rfl
    | j + 40, hj => exact absurd hj (by omega), fun j hj => absurd hj (Nat.not_lt_zero j), ⟨(hz 49 (by omega)).trans h1.2.2.1.1, fun k hk => ?_⟩, ⟨h2.1, ⟨c1, c2, c3, c3⟩, h2.2.2.1, ⟨c4, z0, z0, c5, c6, h2.2.2.2.1.2.2.2.2.2⟩, h2.2.2.2.2.1, ⟨z0, z0, z0, z0, ?_⟩⟩, z0⟩
  · show layW (y 1) (50 + 3 * k) = _ ∧ layW (y 1) (50 + 3 * k + 1) = _ ∧ layW (y 1) (50 + 3 * k + 2) = _
    rw [hz _ (by omega), hz _ (by omega), hz _ (by omega)]
    exact h1.2.2.1.2 k hk
  · show (0 : Int) + 0 + 0 + 0 ≤ B
    omega
theorem setB_0 (x v : pLV) (s a : Int32) (h : isOfI s a = 0) : cset_B x v s a = -1 := by
  unfold cset_B
  by_cases h0 : s < 0
  · rw [if_pos h0]
  rw [if_neg h0]
  by_cases h9 : 9 ≤ s
  · rw [if_pos h9]
  rw [if_neg h9]
  have hs : s = 0 ∨ s = 1 ∨ s = 2 ∨ s = 3 ∨ s = 4 ∨ s = 5 ∨ s = 6 ∨ s = 7 ∨ s = 8 := by
    rw [ilt] at h0
    rw [ile] at h9
    have e0 : (0 : Int32).toInt = 0 := rfl
    have e9 : (9 : Int32).toInt = 9 := rfl
    have : s.toInt = 0 ∨ s.toInt = 1 ∨ s.toInt = 2 ∨ s.toInt = 3 ∨ s.toInt = 4 ∨ s.toInt = 5 ∨ s.toInt = 6 ∨ s.toInt = 7 ∨ s.toInt = 8 := by omega
    rcases this with q | q | q | q | q | q | q | q | q
    · exact Or.inl (Int32.toInt_inj.mp q)
    · exact Or.inr (Or.inl (Int32.toInt_inj.mp q))
    · exact Or.inr (Or.inr (Or.inl (Int32.toInt_inj.mp q)))
    · exact Or.inr (Or.inr (Or.inr (Or.inl (Int32.toInt_inj.mp q))))
    · exact Or.inr (Or.inr (Or.inr (Or.inr (Or.inl (Int32.toInt_inj.mp q)))))
    · exact Or.inr (Or.inr (Or.inr (Or.inr (Or.inr (Or.inl (Int32.toInt_inj.mp q))))))
    · exact Or.inr (Or.inr (Or.inr (Or.inr (Or.inr (Or.inr (Or.inl (Int32.toInt_inj.mp q)))))))
    · exact Or.inr (Or.inr (Or.inr (Or.inr (Or.inr (Or.inr (Or.inr (Or.inl (Int32.toInt_inj.mp q))))))))
    · exact Or.inr (Or.inr (Or.inr (Or.inr (Or.inr (Or.inr (Or.inr (Or.inr (Int32.toInt_inj.mp q))))))))
  have key : ∀ lo hi : Int32, inI a lo hi = 0 → (if a < lo then (-1 : Int32) else if hi < a then -1 else 0) = -1 := by
    intro lo hi hI
    by_cases c1 : a < lo
    · rw [if_pos c1]
    · rw [if_neg c1]
      by_cases c2 : hi < a
      · rw [if_pos c2]
      · exact absurd hI (inI_1 c1 c2)
  rcases hs with rfl | rfl | rfl | rfl | rfl | rfl | rfl | rfl | rfl
  · exact key 0 200 h
  · exact key 0 5000 h
  · exact key 0 2000 h
  · exact key 0 1000 h
  · exact key 1 100 h
  · exact key 0 8 h
  · exact key 0 50 h
  · exact key 0 2000 h
  · exact key 0 20 h
set_option maxHeartbeats 2000000 in
theorem set_S {B : Int} {x v u : pLV} {h : Nat → pLV} {m : pLV} (r : RS B x v u h m) (s a : Int32) : cset_R x v u h s a = setR m s a ∧ RS B (cset_X x v u h s a) (cset_V x v u h s a) u (cset_H x v u h s a) (setM m s a) ∧ pOK m := by
  obtain ⟨q1, q2, q3⟩ := rem_S r.nm
  have h1 : SN B v (rememM (NM m) 1) := q1.1
  by_cases hI : isOfI s a = 0
  · have hB := setB_0 x v s a hI
    have hN : ¬ cset_B x v s a = 0 := by rw [hB]; decide
    rw [show cset_R x v u h s a = -1 from (if_neg hN).trans hB, show cset_X x v u h s a = _ from if_neg hN, show cset_V x v u h s a = _ from if_neg hN, show cset_H x v u h s a = _ from if_neg hN, show setR m s a = -1 from if_pos hI, show setM m s a = m from if_pos hI]
    exact ⟨rfl, r, q2⟩
  by_cases s0 : s = 0
  · subst s0
    have c1 : ¬ a < 0 := fun z => hI (inI_0l z)
    have c2 : ¬ (200 : Int32) < a := fun z => hI (inI_0r c1 z)
    have hB : cset_B x v 0 a = 0 := (if_neg (by decide)).trans ((if_neg (by decide)).trans ((if_neg c1).trans (if_neg c2)))
    have b1 : (0 : Int) ≤ a.toInt := by
      rw [ilt] at c1
      exact Int.not_lt.mp c1
    have b2 : a.toInt ≤ 200 := by
      rw [ilt] at c2
      exact Int.not_lt.mp c2
    rw [show cset_R x v u h 0 a = v 1 0 from if_pos hB, show cset_X x v u h 0 a = _ from if_pos hB, show cset_V x v u h 0 a = vA v 1 (upd (v 1) 0 a) from if_pos hB, show cset_H x v u h 0 a = _ from if_pos hB, show setR m 0 a = rememM (NM m) 1 0 from if_neg hI, show setM m 0 a = vA (rememM (NM m)) 1 (upd (rememM (NM m) 1) 0 a) from if_neg hI]
    refine ⟨(h1.1 0 (by omega)).symm, q1.set ?_ (by omega) ⟨rfl, rfl, rfl, rfl, rfl, rfl, rfl, rfl, rfl, rfl⟩, q2⟩
    generalize rememM (NM m) = y at h1
    have h2 := h1.2.2.2.1
    exact ⟨by
      intro j hj
      match j, hj with
      | 0, _ => exact rfl
      | 1, _ => exact h1.1 1 (Nat.le_of_ble_eq_true rfl)
      | 2, _ => exact h1.1 2 (Nat.le_of_ble_eq_true rfl)
      | 3, _ => exact h1.1 3 (Nat.le_of_ble_eq_true rfl)
      | 4, _ => exact h1.1 4 (Nat.le_of_ble_eq_true rfl)
      | 5, _ => exact h1.1 5 (Nat.le_of_ble_eq_true rfl)
      | 6, _ => exact h1.1 6 (Nat.le_of_ble_eq_true rfl)
      | 7, _ => exact h1.1 7 (Nat.le_of_ble_eq_true rfl)
      | 8, _ => exact h1.1 8 (Nat.le_of_ble_eq_true rfl)
      | 9, _ => exact h1.1 9 (Nat.le_of_ble_eq_true rfl)
      | 10, _ => exact h1.1 10 (Nat.le_of_ble_eq_true rfl)
      | 11, _ => exact h1.1 11 (Nat.le_of_ble_eq_true rfl)
      | 12, _ => exact h1.1 12 (Nat.le_of_ble_eq_true rfl)
      | 13, _ => exact h1.1 13 (Nat.le_of_ble_eq_true rfl)
      | 14, _ => exact h1.1 14 (Nat.le_of_ble_eq_true rfl)
      | 15, _ => exact h1.1 15 (Nat.le_of_ble_eq_true rfl)
      | 16, _ => exact h1.1 16 (Nat.le_of_ble_eq_true rfl)
      | 17, _ => exact h1.1 17 (Nat.le_of_ble_eq_true rfl)
      | 18, _ => exact h1.1 18 (Nat.le_of_ble_eq_true rfl)
      | 19, _ => exact h1.1 19 (Nat.le_of_ble_eq_true rfl)
      | 20, _ => exact h1.1 20 (Nat.le_of_ble_eq_true rfl)
      | 21, _ => exact h1.1 21 (Nat.le_of_ble_eq_true rfl)
      | 22, _ => exact h1.1 22 (Nat.le_of_ble_eq_true rfl)
      | 23, _ => exact h1.1 23 (Nat.le_of_ble_eq_true rfl)
      | 24, _ => exact h1.1 24 (Nat.le_of_ble_eq_true rfl)
      | 25, _ => exact h1.1 25 (Nat.le_of_ble_eq_true rfl)
      | 26, _ => exact h1.1 26 (Nat.le_of_ble_eq_true rfl)
      | 27, _ => exact h1.1 27 (Nat.le_of_ble_eq_true rfl)
      | 28, _ => exact h1.1 28 (Nat.le_of_ble_eq_true rfl)
      | 29, _ => exact h1.1 29 (Nat.le_of_ble_eq_true rfl)
      | 30, _ => exact h1.1 30 (Nat.le_of_ble_eq_true rfl)
      | 31, _ => exact h1.1 31 (Nat.le_of_ble_eq_true rfl)
      | 32, _ => exact h1.1 32 (Nat.le_of_ble_eq_true rfl)
      | 33, _ => exact h1.1 33 (Nat.le_of_ble_eq_true rfl)
      | 34, _ => exact h1.1 34 (Nat.le_of_ble_eq_true rfl)
      | 35, _ => exact h1.1 35 (Nat.le_of_ble_eq_true rfl)
      | 36, _ => exact h1.1 36 (Nat.le_of_ble_eq_true rfl)
      | 37, _ => exact h1.1 37 (Nat.le_of_ble_eq_true rfl)
      | 38, _ => exact h1.1 38 (Nat.le_of_ble_eq_true rfl)
      | 39, _ => exact h1.1 39 (Nat.le_of_ble_eq_true rfl)
      | j + 40, hj => exact absurd hj (by omega), h1.2.1.hi rfl rfl (upd_hi (by omega)), h1.2.2.1.hi rfl rfl rfl rfl (upd_hi (by omega)), ⟨h2.1, h2.2.1, ⟨⟨b1, b2⟩, h2.2.2.1.2.1, h2.2.2.1.2.2.1, h2.2.2.1.2.2.2.1, h2.2.2.1.2.2.2.2.1, h2.2.2.1.2.2.2.2.2.1, h2.2.2.1.2.2.2.2.2.2⟩, h2.2.2.2⟩, h1.2.2.2.2⟩
  by_cases s1 : s = 1
  · subst s1
    have c1 : ¬ a < 0 := fun z => hI (inI_0l z)
    have c2 : ¬ (5000 : Int32) < a := fun z => hI (inI_0r c1 z)
    have hB : cset_B x v 1 a = 0 := (if_neg (by decide)).trans ((if_neg (by decide)).trans ((if_neg c1).trans (if_neg c2)))
    have b1 : (0 : Int) ≤ a.toInt := by
      rw [ilt] at c1
      exact Int.not_lt.mp c1
    have b2 : a.toInt ≤ 5000 := by
      rw [ilt] at c2
      exact Int.not_lt.mp c2
    rw [show cset_R x v u h 1 a = v 1 1 from if_pos hB, show cset_X x v u h 1 a = _ from if_pos hB, show cset_V x v u h 1 a = vA v 1 (upd (v 1) 1 a) from if_pos hB, show cset_H x v u h 1 a = _ from if_pos hB, show setR m 1 a = rememM (NM m) 1 1 from if_neg hI, show setM m 1 a = vA (rememM (NM m)) 1 (upd (rememM (NM m) 1) 1 a) from if_neg hI]
    refine ⟨(h1.1 1 (by omega)).symm, q1.set ?_ (by omega) ⟨rfl, rfl, rfl, rfl, rfl, rfl, rfl, rfl, rfl, rfl⟩, q2⟩
    generalize rememM (NM m) = y at h1
    have h2 := h1.2.2.2.1
    exact ⟨by
      intro j hj
      match j, hj with
      | 0, _ => exact h1.1 0 (Nat.le_of_ble_eq_true rfl)
      | 1, _ => exact rfl
      | 2, _ => exact h1.1 2 (Nat.le_of_ble_eq_true rfl)
      | 3, _ => exact h1.1 3 (Nat.le_of_ble_eq_true rfl)
      | 4, _ => exact h1.1 4 (Nat.le_of_ble_eq_true rfl)
      | 5, _ => exact h1.1 5 (Nat.le_of_ble_eq_true rfl)
      | 6, _ => exact h1.1 6 (Nat.le_of_ble_eq_true rfl)
      | 7, _ => exact h1.1 7 (Nat.le_of_ble_eq_true rfl)
      | 8, _ => exact h1.1 8 (Nat.le_of_ble_eq_true rfl)
      | 9, _ => exact h1.1 9 (Nat.le_of_ble_eq_true rfl)
      | 10, _ => exact h1.1 10 (Nat.le_of_ble_eq_true rfl)
      | 11, _ => exact h1.1 11 (Nat.le_of_ble_eq_true rfl)
      | 12, _ => exact h1.1 12 (Nat.le_of_ble_eq_true rfl)
      | 13, _ => exact h1.1 13 (Nat.le_of_ble_eq_true rfl)
      | 14, _ => exact h1.1 14 (Nat.le_of_ble_eq_true rfl)
      | 15, _ => exact h1.1 15 (Nat.le_of_ble_eq_true rfl)
      | 16, _ => exact h1.1 16 (Nat.le_of_ble_eq_true rfl)
      | 17, _ => exact h1.1 17 (Nat.le_of_ble_eq_true rfl)
      | 18, _ => exact h1.1 18 (Nat.le_of_ble_eq_true rfl)
      | 19, _ => exact h1.1 19 (Nat.le_of_ble_eq_true rfl)
      | 20, _ => exact h1.1 20 (Nat.le_of_ble_eq_true rfl)
      | 21, _ => exact h1.1 21 (Nat.le_of_ble_eq_true rfl)
      | 22, _ => exact h1.1 22 (Nat.le_of_ble_eq_true rfl)
      | 23, _ => exact h1.1 23 (Nat.le_of_ble_eq_true rfl)
      | 24, _ => exact h1.1 24 (Nat.le_of_ble_eq_true rfl)
      | 25, _ => exact h1.1 25 (Nat.le_of_ble_eq_true rfl)
      | 26, _ => exact h1.1 26 (Nat.le_of_ble_eq_true rfl)
      | 27, _ => exact h1.1 27 (Nat.le_of_ble_eq_true rfl)
      | 28, _ => exact h1.1 28 (Nat.le_of_ble_eq_true rfl)
      | 29, _ => exact h1.1 29 (Nat.le_of_ble_eq_true rfl)
      | 30, _ => exact h1.1 30 (Nat.le_of_ble_eq_true rfl)
      | 31, _ => exact h1.1 31 (Nat.le_of_ble_eq_true rfl)
      | 32, _ => exact h1.1 32 (Nat.le_of_ble_eq_true rfl)
      | 33, _ => exact h1.1 33 (Nat.le_of_ble_eq_true rfl)
      | 34, _ => exact h1.1 34 (Nat.le_of_ble_eq_true rfl)
      | 35, _ => exact h1.1 35 (Nat.le_of_ble_eq_true rfl)
      | 36, _ => exact h1.1 36 (Nat.le_of_ble_eq_true rfl)
      | 37, _ => exact h1.1 37 (Nat.le_of_ble_eq_true rfl)
      | 38, _ => exact h1.1 38 (Nat.le_of_ble_eq_true rfl)
      | 39, _ => exact h1.1 39 (Nat.le_of_ble_eq_true rfl)
      | j + 40, hj => exact absurd hj (by omega), h1.2.1.hi rfl rfl (upd_hi (by omega)), h1.2.2.1.hi rfl rfl rfl rfl (upd_hi (by omega)), ⟨h2.1, h2.2.1, ⟨h2.2.2.1.1, ⟨b1, b2⟩, h2.2.2.1.2.2.1, h2.2.2.1.2.2.2.1, h2.2.2.1.2.2.2.2.1, h2.2.2.1.2.2.2.2.2.1, h2.2.2.1.2.2.2.2.2.2⟩, h2.2.2.2⟩, h1.2.2.2.2⟩
  by_cases s2 : s = 2
  · subst s2
    have c1 : ¬ a < 0 := fun z => hI (inI_0l z)
    have c2 : ¬ (2000 : Int32) < a := fun z => hI (inI_0r c1 z)
    have hB : cset_B x v 2 a = 0 := (if_neg (by decide)).trans ((if_neg (by decide)).trans ((if_neg c1).trans (if_neg c2)))
    have b1 : (0 : Int) ≤ a.toInt := by
      rw [ilt] at c1
      exact Int.not_lt.mp c1
    have b2 : a.toInt ≤ 2000 := by
      rw [ilt] at c2
      exact Int.not_lt.mp c2
    rw [show cset_R x v u h 2 a = v 1 2 from if_pos hB, show cset_X x v u h 2 a = _ from if_pos hB, show cset_V x v u h 2 a = vA v 1 (upd (v 1) 2 a) from if_pos hB, show cset_H x v u h 2 a = _ from if_pos hB, show setR m 2 a = rememM (NM m) 1 2 from if_neg hI, show setM m 2 a = vA (rememM (NM m)) 1 (upd (rememM (NM m) 1) 2 a) from if_neg hI]
    refine ⟨(h1.1 2 (by omega)).symm, q1.set ?_ (by omega) ⟨rfl, rfl, rfl, rfl, rfl, rfl, rfl, rfl, rfl, rfl⟩, q2⟩
    generalize rememM (NM m) = y at h1
    have h2 := h1.2.2.2.1
    exact ⟨by
      intro j hj
      match j, hj with
      | 0, _ => exact h1.1 0 (Nat.le_of_ble_eq_true rfl)
      | 1, _ => exact h1.1 1 (Nat.le_of_ble_eq_true rfl)
      | 2, _ => exact rfl
      | 3, _ => exact h1.1 3 (Nat.le_of_ble_eq_true rfl)
      | 4, _ => exact h1.1 4 (Nat.le_of_ble_eq_true rfl)
      | 5, _ => exact h1.1 5 (Nat.le_of_ble_eq_true rfl)
      | 6, _ => exact h1.1 6 (Nat.le_of_ble_eq_true rfl)
      | 7, _ => exact h1.1 7 (Nat.le_of_ble_eq_true rfl)
      | 8, _ => exact h1.1 8 (Nat.le_of_ble_eq_true rfl)
      | 9, _ => exact h1.1 9 (Nat.le_of_ble_eq_true rfl)
      | 10, _ => exact h1.1 10 (Nat.le_of_ble_eq_true rfl)
      | 11, _ => exact h1.1 11 (Nat.le_of_ble_eq_true rfl)
      | 12, _ => exact h1.1 12 (Nat.le_of_ble_eq_true rfl)
      | 13, _ => exact h1.1 13 (Nat.le_of_ble_eq_true rfl)
      | 14, _ => exact h1.1 14 (Nat.le_of_ble_eq_true rfl)
      | 15, _ => exact h1.1 15 (Nat.le_of_ble_eq_true rfl)
      | 16, _ => exact h1.1 16 (Nat.le_of_ble_eq_true rfl)
      | 17, _ => exact h1.1 17 (Nat.le_of_ble_eq_true rfl)
      | 18, _ => exact h1.1 18 (Nat.le_of_ble_eq_true rfl)
      | 19, _ => exact h1.1 19 (Nat.le_of_ble_eq_true rfl)
      | 20, _ => exact h1.1 20 (Nat.le_of_ble_eq_true rfl)
      | 21, _ => exact h1.1 21 (Nat.le_of_ble_eq_true rfl)
      | 22, _ => exact h1.1 22 (Nat.le_of_ble_eq_true rfl)
      | 23, _ => exact h1.1 23 (Nat.le_of_ble_eq_true rfl)
      | 24, _ => exact h1.1 24 (Nat.le_of_ble_eq_true rfl)
      | 25, _ => exact h1.1 25 (Nat.le_of_ble_eq_true rfl)
      | 26, _ => exact h1.1 26 (Nat.le_of_ble_eq_true rfl)
      | 27, _ => exact h1.1 27 (Nat.le_of_ble_eq_true rfl)
      | 28, _ => exact h1.1 28 (Nat.le_of_ble_eq_true rfl)
      | 29, _ => exact h1.1 29 (Nat.le_of_ble_eq_true rfl)
      | 30, _ => exact h1.1 30 (Nat.le_of_ble_eq_true rfl)
      | 31, _ => exact h1.1 31 (Nat.le_of_ble_eq_true rfl)
      | 32, _ => exact h1.1 32 (Nat.le_of_ble_eq_true rfl)
      | 33, _ => exact h1.1 33 (Nat.le_of_ble_eq_true rfl)
      | 34, _ => exact h1.1 34 (Nat.le_of_ble_eq_true rfl)
      | 35, _ => exact h1.1 35 (Nat.le_of_ble_eq_true rfl)
      | 36, _ => exact h1.1 36 (Nat.le_of_ble_eq_true rfl)
      | 37, _ => exact h1.1 37 (Nat.le_of_ble_eq_true rfl)
      | 38, _ => exact h1.1 38 (Nat.le_of_ble_eq_true rfl)
      | 39, _ => exact h1.1 39 (Nat.le_of_ble_eq_true rfl)
      | j + 40, hj => exact absurd hj (by omega), h1.2.1.hi rfl rfl (upd_hi (by omega)), h1.2.2.1.hi rfl rfl rfl rfl (upd_hi (by omega)), ⟨h2.1, h2.2.1, ⟨h2.2.2.1.1, h2.2.2.1.2.1, ⟨b1, b2⟩, h2.2.2.1.2.2.2.1, h2.2.2.1.2.2.2.2.1, h2.2.2.1.2.2.2.2.2.1, h2.2.2.1.2.2.2.2.2.2⟩, h2.2.2.2⟩, h1.2.2.2.2⟩
  by_cases s3 : s = 3
  · subst s3
    have c1 : ¬ a < 0 := fun z => hI (inI_0l z)
    have c2 : ¬ (1000 : Int32) < a := fun z => hI (inI_0r c1 z)
    have hB : cset_B x v 3 a = 0 := (if_neg (by decide)).trans ((if_neg (by decide)).trans ((if_neg c1).trans (if_neg c2)))
    have b1 : (0 : Int) ≤ a.toInt := by
      rw [ilt] at c1
      exact Int.not_lt.mp c1
    have b2 : a.toInt ≤ 1000 := by
      rw [ilt] at c2
      exact Int.not_lt.mp c2
    rw [show cset_R x v u h 3 a = v 1 3 from if_pos hB, show cset_X x v u h 3 a = _ from if_pos hB, show cset_V x v u h 3 a = vA v 1 (upd (v 1) 3 a) from if_pos hB, show cset_H x v u h 3 a = _ from if_pos hB, show setR m 3 a = rememM (NM m) 1 3 from if_neg hI, show setM m 3 a = vA (rememM (NM m)) 1 (upd (rememM (NM m) 1) 3 a) from if_neg hI]
    refine ⟨(h1.1 3 (by omega)).symm, q1.set ?_ (by omega) ⟨rfl, rfl, rfl, rfl, rfl, rfl, rfl, rfl, rfl, rfl⟩, q2⟩
    generalize rememM (NM m) = y at h1
    have h2 := h1.2.2.2.1
    exact ⟨by
      intro j hj
      match j, hj with
      | 0, _ => exact h1.1 0 (Nat.le_of_ble_eq_true rfl)
      | 1, _ => exact h1.1 1 (Nat.le_of_ble_eq_true rfl)
      | 2, _ => exact h1.1 2 (Nat.le_of_ble_eq_true rfl)
      | 3, _ => exact rfl
      | 4, _ => exact h1.1 4 (Nat.le_of_ble_eq_true rfl)
      | 5, _ => exact h1.1 5 (Nat.le_of_ble_eq_true rfl)
      | 6, _ => exact h1.1 6 (Nat.le_of_ble_eq_true rfl)
      | 7, _ => exact h1.1 7 (Nat.le_of_ble_eq_true rfl)
      | 8, _ => exact h1.1 8 (Nat.le_of_ble_eq_true rfl)
      | 9, _ => exact h1.1 9 (Nat.le_of_ble_eq_true rfl)
      | 10, _ => exact h1.1 10 (Nat.le_of_ble_eq_true rfl)
      | 11, _ => exact h1.1 11 (Nat.le_of_ble_eq_true rfl)
      | 12, _ => exact h1.1 12 (Nat.le_of_ble_eq_true rfl)
      | 13, _ => exact h1.1 13 (Nat.le_of_ble_eq_true rfl)
      | 14, _ => exact h1.1 14 (Nat.le_of_ble_eq_true rfl)
      | 15, _ => exact h1.1 15 (Nat.le_of_ble_eq_true rfl)
      | 16, _ => exact h1.1 16 (Nat.le_of_ble_eq_true rfl)
      | 17, _ => exact h1.1 17 (Nat.le_of_ble_eq_true rfl)
      | 18, _ => exact h1.1 18 (Nat.le_of_ble_eq_true rfl)
      | 19, _ => exact h1.1 19 (Nat.le_of_ble_eq_true rfl)
      | 20, _ => exact h1.1 20 (Nat.le_of_ble_eq_true rfl)
      | 21, _ => exact h1.1 21 (Nat.le_of_ble_eq_true rfl)
      | 22, _ => exact h1.1 22 (Nat.le_of_ble_eq_true rfl)
      | 23, _ => exact h1.1 23 (Nat.le_of_ble_eq_true rfl)
      | 24, _ => exact h1.1 24 (Nat.le_of_ble_eq_true rfl)
      | 25, _ => exact h1.1 25 (Nat.le_of_ble_eq_true rfl)
      | 26, _ => exact h1.1 26 (Nat.le_of_ble_eq_true rfl)
      | 27, _ => exact h1.1 27 (Nat.le_of_ble_eq_true rfl)
      | 28, _ => exact h1.1 28 (Nat.le_of_ble_eq_true rfl)
      | 29, _ => exact h1.1 29 (Nat.le_of_ble_eq_true rfl)
      | 30, _ => exact h1.1 30 (Nat.le_of_ble_eq_true rfl)
      | 31, _ => exact h1.1 31 (Nat.le_of_ble_eq_true rfl)
      | 32, _ => exact h1.1 32 (Nat.le_of_ble_eq_true rfl)
      | 33, _ => exact h1.1 33 (Nat.le_of_ble_eq_true rfl)
      | 34, _ => exact h1.1 34 (Nat.le_of_ble_eq_true rfl)
      | 35, _ => exact h1.1 35 (Nat.le_of_ble_eq_true rfl)
      | 36, _ => exact h1.1 36 (Nat.le_of_ble_eq_true rfl)
      | 37, _ => exact h1.1 37 (Nat.le_of_ble_eq_true rfl)
      | 38, _ => exact h1.1 38 (Nat.le_of_ble_eq_true rfl)
      | 39, _ => exact h1.1 39 (Nat.le_of_ble_eq_true rfl)
      | j + 40, hj => exact absurd hj (by omega), h1.2.1.hi rfl rfl (upd_hi (by omega)), h1.2.2.1.hi rfl rfl rfl rfl (upd_hi (by omega)), ⟨h2.1, h2.2.1, ⟨h2.2.2.1.1, h2.2.2.1.2.1, h2.2.2.1.2.2.1, ⟨b1, b2⟩, h2.2.2.1.2.2.2.2.1, h2.2.2.1.2.2.2.2.2.1, h2.2.2.1.2.2.2.2.2.2⟩, h2.2.2.2⟩, h1.2.2.2.2⟩
  by_cases s4 : s = 4
  · subst s4
    have c1 : ¬ a < 1 := fun z => hI (inI_0l z)
    have c2 : ¬ (100 : Int32) < a := fun z => hI (inI_0r c1 z)
    have hB : cset_B x v 4 a = 0 := (if_neg (by decide)).trans ((if_neg (by decide)).trans ((if_neg c1).trans (if_neg c2)))
    have b1 : (1 : Int) ≤ a.toInt := by
      rw [ilt] at c1
      exact Int.not_lt.mp c1
    have b2 : a.toInt ≤ 100 := by
      rw [ilt] at c2
      exact Int.not_lt.mp c2
    rw [show cset_R x v u h 4 a = v 1 4 from if_pos hB, show cset_X x v u h 4 a = _ from if_pos hB, show cset_V x v u h 4 a = vA v 1 (upd (v 1) 4 a) from if_pos hB, show cset_H x v u h 4 a = _ from if_pos hB, show setR m 4 a = rememM (NM m) 1 4 from if_neg hI, show setM m 4 a = vA (rememM (NM m)) 1 (upd (rememM (NM m) 1) 4 a) from if_neg hI]
    refine ⟨(h1.1 4 (by omega)).symm, q1.set ?_ (by omega) ⟨rfl, rfl, rfl, rfl, rfl, rfl, rfl, rfl, rfl, rfl⟩, q2⟩
    generalize rememM (NM m) = y at h1
    have h2 := h1.2.2.2.1
    exact ⟨by
      intro j hj
      match j, hj with
      | 0, _ => exact h1.1 0 (Nat.le_of_ble_eq_true rfl)
      | 1, _ => exact h1.1 1 (Nat.le_of_ble_eq_true rfl)
      | 2, _ => exact h1.1 2 (Nat.le_of_ble_eq_true rfl)
      | 3, _ => exact h1.1 3 (Nat.le_of_ble_eq_true rfl)
      | 4, _ => exact rfl
      | 5, _ => exact h1.1 5 (Nat.le_of_ble_eq_true rfl)
      | 6, _ => exact h1.1 6 (Nat.le_of_ble_eq_true rfl)
      | 7, _ => exact h1.1 7 (Nat.le_of_ble_eq_true rfl)
      | 8, _ => exact h1.1 8 (Nat.le_of_ble_eq_true rfl)
      | 9, _ => exact h1.1 9 (Nat.le_of_ble_eq_true rfl)
      | 10, _ => exact h1.1 10 (Nat.le_of_ble_eq_true rfl)
      | 11, _ => exact h1.1 11 (Nat.le_of_ble_eq_true rfl)
      | 12, _ => exact h1.1 12 (Nat.le_of_ble_eq_true rfl)
      | 13, _ => exact h1.1 13 (Nat.le_of_ble_eq_true rfl)
      | 14, _ => exact h1.1 14 (Nat.le_of_ble_eq_true rfl)
      | 15, _ => exact h1.1 15 (Nat.le_of_ble_eq_true rfl)
      | 16, _ => exact h1.1 16 (Nat.le_of_ble_eq_true rfl)
      | 17, _ => exact h1.1 17 (Nat.le_of_ble_eq_true rfl)
      | 18, _ => exact h1.1 18 (Nat.le_of_ble_eq_true rfl)
      | 19, _ => exact h1.1 19 (Nat.le_of_ble_eq_true rfl)
      | 20, _ => exact h1.1 20 (Nat.le_of_ble_eq_true rfl)
      | 21, _ => exact h1.1 21 (Nat.le_of_ble_eq_true rfl)
      | 22, _ => exact h1.1 22 (Nat.le_of_ble_eq_true rfl)
      | 23, _ => exact h1.1 23 (Nat.le_of_ble_eq_true rfl)
      | 24, _ => exact h1.1 24 (Nat.le_of_ble_eq_true rfl)
      | 25, _ => exact h1.1 25 (Nat.le_of_ble_eq_true rfl)
      | 26, _ => exact h1.1 26 (Nat.le_of_ble_eq_true rfl)
      | 27, _ => exact h1.1 27 (Nat.le_of_ble_eq_true rfl)
      | 28, _ => exact h1.1 28 (Nat.le_of_ble_eq_true rfl)
      | 29, _ => exact h1.1 29 (Nat.le_of_ble_eq_true rfl)
      | 30, _ => exact h1.1 30 (Nat.le_of_ble_eq_true rfl)
      | 31, _ => exact h1.1 31 (Nat.le_of_ble_eq_true rfl)
      | 32, _ => exact h1.1 32 (Nat.le_of_ble_eq_true rfl)
      | 33, _ => exact h1.1 33 (Nat.le_of_ble_eq_true rfl)
      | 34, _ => exact h1.1 34 (Nat.le_of_ble_eq_true rfl)
      | 35, _ => exact h1.1 35 (Nat.le_of_ble_eq_true rfl)
      | 36, _ => exact h1.1 36 (Nat.le_of_ble_eq_true rfl)
      | 37, _ => exact h1.1 37 (Nat.le_of_ble_eq_true rfl)
      | 38, _ => exact h1.1 38 (Nat.le_of_ble_eq_true rfl)
      | 39, _ => exact h1.1 39 (Nat.le_of_ble_eq_true rfl)
      | j + 40, hj => exact absurd hj (by omega), h1.2.1.hi rfl rfl (upd_hi (by omega)), h1.2.2.1.hi rfl rfl rfl rfl (upd_hi (by omega)), ⟨h2.1, h2.2.1, ⟨h2.2.2.1.1, h2.2.2.1.2.1, h2.2.2.1.2.2.1, h2.2.2.1.2.2.2.1, h2.2.2.1.2.2.2.2.1, h2.2.2.1.2.2.2.2.2.1, h2.2.2.1.2.2.2.2.2.2⟩, h2.2.2.2⟩, h1.2.2.2.2⟩
  by_cases s5 : s = 5
  · subst s5
    have c1 : ¬ a < 0 := fun z => hI (inI_0l z)
    have c2 : ¬ (8 : Int32) < a := fun z => hI (inI_0r c1 z)
    have hB : cset_B x v 5 a = 0 := (if_neg (by decide)).trans ((if_neg (by decide)).trans ((if_neg c1).trans (if_neg c2)))
    have b1 : (0 : Int) ≤ a.toInt := by
      rw [ilt] at c1
      exact Int.not_lt.mp c1
    have b2 : a.toInt ≤ 8 := by
      rw [ilt] at c2
      exact Int.not_lt.mp c2
    rw [show cset_R x v u h 5 a = v 1 5 from if_pos hB, show cset_X x v u h 5 a = _ from if_pos hB, show cset_V x v u h 5 a = vA v 1 (upd (v 1) 5 a) from if_pos hB, show cset_H x v u h 5 a = _ from if_pos hB, show setR m 5 a = rememM (NM m) 1 5 from if_neg hI, show setM m 5 a = vA (rememM (NM m)) 1 (upd (rememM (NM m) 1) 5 a) from if_neg hI]
    refine ⟨(h1.1 5 (by omega)).symm, q1.set ?_ (by omega) ⟨rfl, rfl, rfl, rfl, rfl, rfl, rfl, rfl, rfl, rfl⟩, q2⟩
    generalize rememM (NM m) = y at h1
    have h2 := h1.2.2.2.1
    exact ⟨by
      intro j hj
      match j, hj with
      | 0, _ => exact h1.1 0 (Nat.le_of_ble_eq_true rfl)
      | 1, _ => exact h1.1 1 (Nat.le_of_ble_eq_true rfl)
      | 2, _ => exact h1.1 2 (Nat.le_of_ble_eq_true rfl)
      | 3, _ => exact h1.1 3 (Nat.le_of_ble_eq_true rfl)
      | 4, _ => exact h1.1 4 (Nat.le_of_ble_eq_true rfl)
      | 5, _ => exact rfl
      | 6, _ => exact h1.1 6 (Nat.le_of_ble_eq_true rfl)
      | 7, _ => exact h1.1 7 (Nat.le_of_ble_eq_true rfl)
      | 8, _ => exact h1.1 8 (Nat.le_of_ble_eq_true rfl)
      | 9, _ => exact h1.1 9 (Nat.le_of_ble_eq_true rfl)
      | 10, _ => exact h1.1 10 (Nat.le_of_ble_eq_true rfl)
      | 11, _ => exact h1.1 11 (Nat.le_of_ble_eq_true rfl)
      | 12, _ => exact h1.1 12 (Nat.le_of_ble_eq_true rfl)
      | 13, _ => exact h1.1 13 (Nat.le_of_ble_eq_true rfl)
      | 14, _ => exact h1.1 14 (Nat.le_of_ble_eq_true rfl)
      | 15, _ => exact h1.1 15 (Nat.le_of_ble_eq_true rfl)
      | 16, _ => exact h1.1 16 (Nat.le_of_ble_eq_true rfl)
      | 17, _ => exact h1.1 17 (Nat.le_of_ble_eq_true rfl)
      | 18, _ => exact h1.1 18 (Nat.le_of_ble_eq_true rfl)
      | 19, _ => exact h1.1 19 (Nat.le_of_ble_eq_true rfl)
      | 20, _ => exact h1.1 20 (Nat.le_of_ble_eq_true rfl)
      | 21, _ => exact h1.1 21 (Nat.le_of_ble_eq_true rfl)
      | 22, _ => exact h1.1 22 (Nat.le_of_ble_eq_true rfl)
      | 23, _ => exact h1.1 23 (Nat.le_of_ble_eq_true rfl)
      | 24, _ => exact h1.1 24 (Nat.le_of_ble_eq_true rfl)
      | 25, _ => exact h1.1 25 (Nat.le_of_ble_eq_true rfl)
      | 26, _ => exact h1.1 26 (Nat.le_of_ble_eq_true rfl)
      | 27, _ => exact h1.1 27 (Nat.le_of_ble_eq_true rfl)
      | 28, _ => exact h1.1 28 (Nat.le_of_ble_eq_true rfl)
      | 29, _ => exact h1.1 29 (Nat.le_of_ble_eq_true rfl)
      | 30, _ => exact h1.1 30 (Nat.le_of_ble_eq_true rfl)
      | 31, _ => exact h1.1 31 (Nat.le_of_ble_eq_true rfl)
      | 32, _ => exact h1.1 32 (Nat.le_of_ble_eq_true rfl)
      | 33, _ => exact h1.1 33 (Nat.le_of_ble_eq_true rfl)
      | 34, _ => exact h1.1 34 (Nat.le_of_ble_eq_true rfl)
      | 35, _ => exact h1.1 35 (Nat.le_of_ble_eq_true rfl)
      | 36, _ => exact h1.1 36 (Nat.le_of_ble_eq_true rfl)
      | 37, _ => exact h1.1 37 (Nat.le_of_ble_eq_true rfl)
      | 38, _ => exact h1.1 38 (Nat.le_of_ble_eq_true rfl)
      | 39, _ => exact h1.1 39 (Nat.le_of_ble_eq_true rfl)
      | j + 40, hj => exact absurd hj (by omega), h1.2.1.hi rfl rfl (upd_hi (by omega)), h1.2.2.1.hi rfl rfl rfl rfl (upd_hi (by omega)), ⟨h2.1, h2.2.1, ⟨h2.2.2.1.1, h2.2.2.1.2.1, h2.2.2.1.2.2.1, h2.2.2.1.2.2.2.1, ⟨b1, b2⟩, h2.2.2.1.2.2.2.2.2.1, h2.2.2.1.2.2.2.2.2.2⟩, h2.2.2.2⟩, h1.2.2.2.2⟩
  by_cases s6 : s = 6
  · subst s6
    have c1 : ¬ a < 0 := fun z => hI (inI_0l z)
    have c2 : ¬ (50 : Int32) < a := fun z => hI (inI_0r c1 z)
    have hB : cset_B x v 6 a = 0 := (if_neg (by decide)).trans ((if_neg (by decide)).trans ((if_neg c1).trans (if_neg c2)))
    have b1 : (0 : Int) ≤ a.toInt := by
      rw [ilt] at c1
      exact Int.not_lt.mp c1
    have b2 : a.toInt ≤ 50 := by
      rw [ilt] at c2
      exact Int.not_lt.mp c2
    rw [show cset_R x v u h 6 a = v 1 6 from if_pos hB, show cset_X x v u h 6 a = _ from if_pos hB, show cset_V x v u h 6 a = vA v 1 (upd (v 1) 6 a) from if_pos hB, show cset_H x v u h 6 a = _ from if_pos hB, show setR m 6 a = rememM (NM m) 1 6 from if_neg hI, show setM m 6 a = vA (rememM (NM m)) 1 (upd (rememM (NM m) 1) 6 a) from if_neg hI]
    refine ⟨(h1.1 6 (by omega)).symm, q1.set ?_ (by omega) ⟨rfl, rfl, rfl, rfl, rfl, rfl, rfl, rfl, rfl, rfl⟩, q2⟩
    generalize rememM (NM m) = y at h1
    have h2 := h1.2.2.2.1
    exact ⟨by
      intro j hj
      match j, hj with
      | 0, _ => exact h1.1 0 (Nat.le_of_ble_eq_true rfl)
      | 1, _ => exact h1.1 1 (Nat.le_of_ble_eq_true rfl)
      | 2, _ => exact h1.1 2 (Nat.le_of_ble_eq_true rfl)
      | 3, _ => exact h1.1 3 (Nat.le_of_ble_eq_true rfl)
      | 4, _ => exact h1.1 4 (Nat.le_of_ble_eq_true rfl)
      | 5, _ => exact h1.1 5 (Nat.le_of_ble_eq_true rfl)
      | 6, _ => exact rfl
      | 7, _ => exact h1.1 7 (Nat.le_of_ble_eq_true rfl)
      | 8, _ => exact h1.1 8 (Nat.le_of_ble_eq_true rfl)
      | 9, _ => exact h1.1 9 (Nat.le_of_ble_eq_true rfl)
      | 10, _ => exact h1.1 10 (Nat.le_of_ble_eq_true rfl)
      | 11, _ => exact h1.1 11 (Nat.le_of_ble_eq_true rfl)
      | 12, _ => exact h1.1 12 (Nat.le_of_ble_eq_true rfl)
      | 13, _ => exact h1.1 13 (Nat.le_of_ble_eq_true rfl)
      | 14, _ => exact h1.1 14 (Nat.le_of_ble_eq_true rfl)
      | 15, _ => exact h1.1 15 (Nat.le_of_ble_eq_true rfl)
      | 16, _ => exact h1.1 16 (Nat.le_of_ble_eq_true rfl)
      | 17, _ => exact h1.1 17 (Nat.le_of_ble_eq_true rfl)
      | 18, _ => exact h1.1 18 (Nat.le_of_ble_eq_true rfl)
      | 19, _ => exact h1.1 19 (Nat.le_of_ble_eq_true rfl)
      | 20, _ => exact h1.1 20 (Nat.le_of_ble_eq_true rfl)
      | 21, _ => exact h1.1 21 (Nat.le_of_ble_eq_true rfl)
      | 22, _ => exact h1.1 22 (Nat.le_of_ble_eq_true rfl)
      | 23, _ => exact h1.1 23 (Nat.le_of_ble_eq_true rfl)
      | 24, _ => exact h1.1 24 (Nat.le_of_ble_eq_true rfl)
      | 25, _ => exact h1.1 25 (Nat.le_of_ble_eq_true rfl)
      | 26, _ => exact h1.1 26 (Nat.le_of_ble_eq_true rfl)
      | 27, _ => exact h1.1 27 (Nat.le_of_ble_eq_true rfl)
      | 28, _ => exact h1.1 28 (Nat.le_of_ble_eq_true rfl)
      | 29, _ => exact h1.1 29 (Nat.le_of_ble_eq_true rfl)
      | 30, _ => exact h1.1 30 (Nat.le_of_ble_eq_true rfl)
      | 31, _ => exact h1.1 31 (Nat.le_of_ble_eq_true rfl)
      | 32, _ => exact h1.1 32 (Nat.le_of_ble_eq_true rfl)
      | 33, _ => exact h1.1 33 (Nat.le_of_ble_eq_true rfl)
      | 34, _ => exact h1.1 34 (Nat.le_of_ble_eq_true rfl)
      | 35, _ => exact h1.1 35 (Nat.le_of_ble_eq_true rfl)
      | 36, _ => exact h1.1 36 (Nat.le_of_ble_eq_true rfl)
      | 37, _ => exact h1.1 37 (Nat.le_of_ble_eq_true rfl)
      | 38, _ => exact h1.1 38 (Nat.le_of_ble_eq_true rfl)
      | 39, _ => exact h1.1 39 (Nat.le_of_ble_eq_true rfl)
      | j + 40, hj => exact absurd hj (by omega), h1.2.1.hi rfl rfl (upd_hi (by omega)), h1.2.2.1.hi rfl rfl rfl rfl (upd_hi (by omega)), ⟨h2.1, h2.2.1, ⟨h2.2.2.1.1, h2.2.2.1.2.1, h2.2.2.1.2.2.1, h2.2.2.1.2.2.2.1, h2.2.2.1.2.2.2.2.1, h2.2.2.1.2.2.2.2.2.1, h2.2.2.1.2.2.2.2.2.2⟩, h2.2.2.2⟩, h1.2.2.2.2⟩
  by_cases s7 : s = 7
  · subst s7
    have c1 : ¬ a < 0 := fun z => hI (inI_0l z)
    have c2 : ¬ (2000 : Int32) < a := fun z => hI (inI_0r c1 z)
    have hB : cset_B x v 7 a = 0 := (if_neg (by decide)).trans ((if_neg (by decide)).trans ((if_neg c1).trans (if_neg c2)))
    have b1 : (0 : Int) ≤ a.toInt := by
      rw [ilt] at c1
      exact Int.not_lt.mp c1
    have b2 : a.toInt ≤ 2000 := by
      rw [ilt] at c2
      exact Int.not_lt.mp c2
    rw [show cset_R x v u h 7 a = v 1 7 from if_pos hB, show cset_X x v u h 7 a = _ from if_pos hB, show cset_V x v u h 7 a = vA v 1 (upd (v 1) 7 a) from if_pos hB, show cset_H x v u h 7 a = _ from if_pos hB, show setR m 7 a = rememM (NM m) 1 7 from if_neg hI, show setM m 7 a = vA (rememM (NM m)) 1 (upd (rememM (NM m) 1) 7 a) from if_neg hI]
    refine ⟨(h1.1 7 (by omega)).symm, q1.set ?_ (by omega) ⟨rfl, rfl, rfl, rfl, rfl, rfl, rfl, rfl, rfl, rfl⟩, q2⟩
    generalize rememM (NM m) = y at h1
    have h2 := h1.2.2.2.1
    exact ⟨by
      intro j hj
      match j, hj with
      | 0, _ => exact h1.1 0 (Nat.le_of_ble_eq_true rfl)
      | 1, _ => exact h1.1 1 (Nat.le_of_ble_eq_true rfl)
      | 2, _ => exact h1.1 2 (Nat.le_of_ble_eq_true rfl)
      | 3, _ => exact h1.1 3 (Nat.le_of_ble_eq_true rfl)
      | 4, _ => exact h1.1 4 (Nat.le_of_ble_eq_true rfl)
      | 5, _ => exact h1.1 5 (Nat.le_of_ble_eq_true rfl)
      | 6, _ => exact h1.1 6 (Nat.le_of_ble_eq_true rfl)
      | 7, _ => exact rfl
      | 8, _ => exact h1.1 8 (Nat.le_of_ble_eq_true rfl)
      | 9, _ => exact h1.1 9 (Nat.le_of_ble_eq_true rfl)
      | 10, _ => exact h1.1 10 (Nat.le_of_ble_eq_true rfl)
      | 11, _ => exact h1.1 11 (Nat.le_of_ble_eq_true rfl)
      | 12, _ => exact h1.1 12 (Nat.le_of_ble_eq_true rfl)
      | 13, _ => exact h1.1 13 (Nat.le_of_ble_eq_true rfl)
      | 14, _ => exact h1.1 14 (Nat.le_of_ble_eq_true rfl)
      | 15, _ => exact h1.1 15 (Nat.le_of_ble_eq_true rfl)
      | 16, _ => exact h1.1 16 (Nat.le_of_ble_eq_true rfl)
      | 17, _ => exact h1.1 17 (Nat.le_of_ble_eq_true rfl)
      | 18, _ => exact h1.1 18 (Nat.le_of_ble_eq_true rfl)
      | 19, _ => exact h1.1 19 (Nat.le_of_ble_eq_true rfl)
      | 20, _ => exact h1.1 20 (Nat.le_of_ble_eq_true rfl)
      | 21, _ => exact h1.1 21 (Nat.le_of_ble_eq_true rfl)
      | 22, _ => exact h1.1 22 (Nat.le_of_ble_eq_true rfl)
      | 23, _ => exact h1.1 23 (Nat.le_of_ble_eq_true rfl)
      | 24, _ => exact h1.1 24 (Nat.le_of_ble_eq_true rfl)
      | 25, _ => exact h1.1 25 (Nat.le_of_ble_eq_true rfl)
      | 26, _ => exact h1.1 26 (Nat.le_of_ble_eq_true rfl)
      | 27, _ => exact h1.1 27 (Nat.le_of_ble_eq_true rfl)
      | 28, _ => exact h1.1 28 (Nat.le_of_ble_eq_true rfl)
      | 29, _ => exact h1.1 29 (Nat.le_of_ble_eq_true rfl)
      | 30, _ => exact h1.1 30 (Nat.le_of_ble_eq_true rfl)
      | 31, _ => exact h1.1 31 (Nat.le_of_ble_eq_true rfl)
      | 32, _ => exact h1.1 32 (Nat.le_of_ble_eq_true rfl)
      | 33, _ => exact h1.1 33 (Nat.le_of_ble_eq_true rfl)
      | 34, _ => exact h1.1 34 (Nat.le_of_ble_eq_true rfl)
      | 35, _ => exact h1.1 35 (Nat.le_of_ble_eq_true rfl)
      | 36, _ => exact h1.1 36 (Nat.le_of_ble_eq_true rfl)
      | 37, _ => exact h1.1 37 (Nat.le_of_ble_eq_true rfl)
      | 38, _ => exact h1.1 38 (Nat.le_of_ble_eq_true rfl)
      | 39, _ => exact h1.1 39 (Nat.le_of_ble_eq_true rfl)
      | j + 40, hj => exact absurd hj (by omega), h1.2.1.hi rfl rfl (upd_hi (by omega)), h1.2.2.1.hi rfl rfl rfl rfl (upd_hi (by omega)), ⟨h2.1, h2.2.1, ⟨h2.2.2.1.1, h2.2.2.1.2.1, h2.2.2.1.2.2.1, h2.2.2.1.2.2.2.1, h2.2.2.1.2.2.2.2.1, ⟨b1, b2⟩, h2.2.2.1.2.2.2.2.2.2⟩, h2.2.2.2⟩, h1.2.2.2.2⟩
  by_cases s8 : s = 8
  · subst s8
    have c1 : ¬ a < 0 := fun z => hI (inI_0l z)
    have c2 : ¬ (20 : Int32) < a := fun z => hI (inI_0r c1 z)
    have hB : cset_B x v 8 a = 0 := (if_neg (by decide)).trans ((if_neg (by decide)).trans ((if_neg c1).trans (if_neg c2)))
    have b1 : (0 : Int) ≤ a.toInt := by
      rw [ilt] at c1
      exact Int.not_lt.mp c1
    have b2 : a.toInt ≤ 20 := by
      rw [ilt] at c2
      exact Int.not_lt.mp c2
    rw [show cset_R x v u h 8 a = v 1 8 from if_pos hB, show cset_X x v u h 8 a = _ from if_pos hB, show cset_V x v u h 8 a = vA v 1 (upd (v 1) 8 a) from if_pos hB, show cset_H x v u h 8 a = _ from if_pos hB, show setR m 8 a = rememM (NM m) 1 8 from if_neg hI, show setM m 8 a = vA (rememM (NM m)) 1 (upd (rememM (NM m) 1) 8 a) from if_neg hI]
    refine ⟨(h1.1 8 (by omega)).symm, q1.set ?_ (by omega) ⟨rfl, rfl, rfl, rfl, rfl, rfl, rfl, rfl, rfl, rfl⟩, q2⟩
    generalize rememM (NM m) = y at h1
    have h2 := h1.2.2.2.1
    exact ⟨by
      intro j hj
      match j, hj with
      | 0, _ => exact h1.1 0 (Nat.le_of_ble_eq_true rfl)
      | 1, _ => exact h1.1 1 (Nat.le_of_ble_eq_true rfl)
      | 2, _ => exact h1.1 2 (Nat.le_of_ble_eq_true rfl)
      | 3, _ => exact h1.1 3 (Nat.le_of_ble_eq_true rfl)
      | 4, _ => exact h1.1 4 (Nat.le_of_ble_eq_true rfl)
      | 5, _ => exact h1.1 5 (Nat.le_of_ble_eq_true rfl)
      | 6, _ => exact h1.1 6 (Nat.le_of_ble_eq_true rfl)
      | 7, _ => exact h1.1 7 (Nat.le_of_ble_eq_true rfl)
      | 8, _ => exact rfl
      | 9, _ => exact h1.1 9 (Nat.le_of_ble_eq_true rfl)
      | 10, _ => exact h1.1 10 (Nat.le_of_ble_eq_true rfl)
      | 11, _ => exact h1.1 11 (Nat.le_of_ble_eq_true rfl)
      | 12, _ => exact h1.1 12 (Nat.le_of_ble_eq_true rfl)
      | 13, _ => exact h1.1 13 (Nat.le_of_ble_eq_true rfl)
      | 14, _ => exact h1.1 14 (Nat.le_of_ble_eq_true rfl)
      | 15, _ => exact h1.1 15 (Nat.le_of_ble_eq_true rfl)
      | 16, _ => exact h1.1 16 (Nat.le_of_ble_eq_true rfl)
      | 17, _ => exact h1.1 17 (Nat.le_of_ble_eq_true rfl)
      | 18, _ => exact h1.1 18 (Nat.le_of_ble_eq_true rfl)
      | 19, _ => exact h1.1 19 (Nat.le_of_ble_eq_true rfl)
      | 20, _ => exact h1.1 20 (Nat.le_of_ble_eq_true rfl)
      | 21, _ => exact h1.1 21 (Nat.le_of_ble_eq_true rfl)
      | 22, _ => exact h1.1 22 (Nat.le_of_ble_eq_true rfl)
      | 23, _ => exact h1.1 23 (Nat.le_of_ble_eq_true rfl)
      | 24, _ => exact h1.1 24 (Nat.le_of_ble_eq_true rfl)
      | 25, _ => exact h1.1 25 (Nat.le_of_ble_eq_true rfl)
      | 26, _ => exact h1.1 26 (Nat.le_of_ble_eq_true rfl)
      | 27, _ => exact h1.1 27 (Nat.le_of_ble_eq_true rfl)
      | 28, _ => exact h1.1 28 (Nat.le_of_ble_eq_true rfl)
      | 29, _ => exact h1.1 29 (Nat.le_of_ble_eq_true rfl)
      | 30, _ => exact h1.1 30 (Nat.le_of_ble_eq_true rfl)
      | 31, _ => exact h1.1 31 (Nat.le_of_ble_eq_true rfl)
      | 32, _ => exact h1.1 32 (Nat.le_of_ble_eq_true rfl)
      | 33, _ => exact h1.1 33 (Nat.le_of_ble_eq_true rfl)
      | 34, _ => exact h1.1 34 (Nat.le_of_ble_eq_true rfl)
      | 35, _ => exact h1.1 35 (Nat.le_of_ble_eq_true rfl)
      | 36, _ => exact h1.1 36 (Nat.le_of_ble_eq_true rfl)
      | 37, _ => exact h1.1 37 (Nat.le_of_ble_eq_true rfl)
      | 38, _ => exact h1.1 38 (Nat.le_of_ble_eq_true rfl)
      | 39, _ => exact h1.1 39 (Nat.le_of_ble_eq_true rfl)
      | j + 40, hj => exact absurd hj (by omega), h1.2.1.hi rfl rfl (upd_hi (by omega)), h1.2.2.1.hi rfl rfl rfl rfl (upd_hi (by omega)), ⟨h2.1, h2.2.1, ⟨h2.2.2.1.1, h2.2.2.1.2.1, h2.2.2.1.2.2.1, h2.2.2.1.2.2.2.1, h2.2.2.1.2.2.2.2.1, h2.2.2.1.2.2.2.2.2.1, ⟨b1, b2⟩⟩, h2.2.2.2⟩, h1.2.2.2.2⟩
  exact absurd ((if_neg s0).trans ((if_neg s1).trans ((if_neg s2).trans ((if_neg s3).trans ((if_neg s4).trans ((if_neg s5).trans ((if_neg s6).trans ((if_neg s7).trans (if_neg s8))))))))) hI
theorem tear_S {B : Int} {x v u : pLV} {h : Nat → pLV} {m : pLV} (r : RS B x v u h m) (t : Int32) : ctear_R x v u h t = teaR m t ∧ RS B (ctear_X x v u h t) (ctear_V x v u h t) u (ctear_H x v u h t) (teaM m t) ∧ pOK m := by
  obtain ⟨q1, q2, q3⟩ := rem_S r.nm
  have h1 : SN B v (rememM (NM m) 1) := q1.1
  by_cases p0 : t < 1
  · have hB : ctear_B x v t = -1 := if_pos p0
    have hI : inI t 1 50 = 0 := inI_0l p0
    have hN : ¬ ctear_B x v t = 0 := by rw [hB]; decide
    rw [show ctear_R x v u h t = -1 from (if_neg hN).trans hB, show ctear_X x v u h t = _ from if_neg hN, show ctear_V x v u h t = _ from if_neg hN, show ctear_H x v u h t = _ from if_neg hN, show teaR m t = -1 from if_pos hI, show teaM m t = m from if_pos hI]
    exact ⟨rfl, r, q2⟩
  by_cases p1 : 50 < t
  · have hB : ctear_B x v t = -1 := (if_neg p0).trans (if_pos p1)
    have hI : inI t 1 50 = 0 := inI_0r p0 p1
    have hN : ¬ ctear_B x v t = 0 := by rw [hB]; decide
    rw [show ctear_R x v u h t = -1 from (if_neg hN).trans hB, show ctear_X x v u h t = _ from if_neg hN, show ctear_V x v u h t = _ from if_neg hN, show ctear_H x v u h t = _ from if_neg hN, show teaR m t = -1 from if_pos hI, show teaM m t = m from if_pos hI]
    exact ⟨rfl, r, q2⟩
  have hB : ctear_B x v t = 0 := (if_neg p0).trans (if_neg p1)
  have hI := inI_1 p0 p1
  rw [show ctear_R x v u h t = mxI (v 0 2) t from if_pos hB, show ctear_X x v u h t = _ from if_pos hB, show ctear_V x v u h t = brkV v t from if_pos hB, show ctear_H x v u h t = _ from if_pos hB, show teaR m t = bkM (NM (rememM (NM m))) t 1 11 from if_neg hI, show teaM m t = bkM (NM (rememM (NM m))) t from if_neg hI]
  have e11 : rememM (NM m) 1 11 = v 0 2 := h1.1 11 (by omega)
  have eB : bkM (NM (rememM (NM m))) t 1 11 = mxI (v 0 2) t := by
    show (if t ≤ rememM (NM m) 1 11 then rememM (NM m) 1 11 else t) = _
    rw [e11]
    unfold mxI
    by_cases q : t ≤ v 0 2
    · rw [if_pos q, if_neg (Int32.not_lt.mpr q)]
    · rw [if_neg q, if_pos (Int32.not_le.mp q)]
  refine ⟨eB.symm, q1.set ?_ (by omega) ⟨rfl, rfl, rfl, rfl, rfl, rfl, rfl, rfl, rfl, rfl⟩, q2⟩
  have h2 := h1.2.2.2.1
  have hm := mxI_i (v 0 2) t
  have hz : 0 ≤ (mxI (v 0 2) t).toInt := by
    have := h2.2.2.2.1.2.1
    omega
  exact ⟨by
    intro j hj
    match j, hj with
    | 0, _ => exact h1.1 0 (Nat.le_of_ble_eq_true rfl)
    | 1, _ => exact h1.1 1 (Nat.le_of_ble_eq_true rfl)
    | 2, _ => exact h1.1 2 (Nat.le_of_ble_eq_true rfl)
    | 3, _ => exact h1.1 3 (Nat.le_of_ble_eq_true rfl)
    | 4, _ => exact h1.1 4 (Nat.le_of_ble_eq_true rfl)
    | 5, _ => exact h1.1 5 (Nat.le_of_ble_eq_true rfl)
    | 6, _ => exact h1.1 6 (Nat.le_of_ble_eq_true rfl)
    | 7, _ => exact h1.1 7 (Nat.le_of_ble_eq_true rfl)
    | 8, _ => exact h1.1 8 (Nat.le_of_ble_eq_true rfl)
    | 9, _ => exact h1.1 9 (Nat.le_of_ble_eq_true rfl)
    | 10, _ => exact h1.1 10 (Nat.le_of_ble_eq_true rfl)
    | 11, _ => exact eB
    | 12, _ => exact h1.1 12 (Nat.le_of_ble_eq_true rfl)
    | 13, _ => exact h1.1 13 (Nat.le_of_ble_eq_true rfl)
    | 14, _ => exact h1.1 14 (Nat.le_of_ble_eq_true rfl)
    | 15, _ => exact h1.1 15 (Nat.le_of_ble_eq_true rfl)
    | 16, _ => exact h1.1 16 (Nat.le_of_ble_eq_true rfl)
    | 17, _ => exact h1.1 17 (Nat.le_of_ble_eq_true rfl)
    | 18, _ => exact h1.1 18 (Nat.le_of_ble_eq_true rfl)
    | 19, _ => exact h1.1 19 (Nat.le_of_ble_eq_true rfl)
    | 20, _ => exact h1.1 20 (Nat.le_of_ble_eq_true rfl)
    | 21, _ => exact h1.1 21 (Nat.le_of_ble_eq_true rfl)
    | 22, _ => exact h1.1 22 (Nat.le_of_ble_eq_true rfl)
    | 23, _ => exact h1.1 23 (Nat.le_of_ble_eq_true rfl)
    | 24, _ => exact h1.1 24 (Nat.le_of_ble_eq_true rfl)
    | 25, _ => exact h1.1 25 (Nat.le_of_ble_eq_true rfl)
    | 26, _ => exact h1.1 26 (Nat.le_of_ble_eq_true rfl)
    | 27, _ => exact h1.1 27 (Nat.le_of_ble_eq_true rfl)
    | 28, _ => exact h1.1 28 (Nat.le_of_ble_eq_true rfl)
    | 29, _ => exact h1.1 29 (Nat.le_of_ble_eq_true rfl)
    | 30, _ => exact h1.1 30 (Nat.le_of_ble_eq_true rfl)
    | 31, _ => exact h1.1 31 (Nat.le_of_ble_eq_true rfl)
    | 32, _ => exact h1.1 32 (Nat.le_of_ble_eq_true rfl)
    | 33, _ => exact h1.1 33 (Nat.le_of_ble_eq_true rfl)
    | 34, _ => exact h1.1 34 (Nat.le_of_ble_eq_true rfl)
    | 35, _ => exact h1.1 35 (Nat.le_of_ble_eq_true rfl)
    | 36, _ => exact h1.1 36 (Nat.le_of_ble_eq_true rfl)
    | 37, _ => exact h1.1 37 (Nat.le_of_ble_eq_true rfl)
    | 38, _ => exact h1.1 38 (Nat.le_of_ble_eq_true rfl)
    | 39, _ => exact h1.1 39 (Nat.le_of_ble_eq_true rfl)
    | j + 40, hj => exact absurd hj (by omega), h1.2.1.hi rfl rfl (upd_hi (by omega)), h1.2.2.1.hi rfl rfl rfl rfl (upd_hi (by omega)), ⟨h2.1, h2.2.1, h2.2.2.1, ⟨h2.2.2.2.1.1, hz, h2.2.2.2.1.2.2⟩, h2.2.2.2.2⟩, hz⟩
theorem change_S {B : Int} {x v u : pLV} {h : Nat → pLV} {m : pLV} (r : RS B x v u h m) (g : Int32) : cchange_R x v u h g = chgR m g ∧ RS B (cchange_X x v u h g) (cchange_V x v u h g) u (cchange_H x v u h g) (chgM m g) ∧ pOK m := by
  obtain ⟨q1, q2, q3⟩ := rem_S r.nm
  have h1 : SN B v (rememM (NM m) 1) := q1.1
  by_cases p0 : g < 0
  · have hB : cchange_B x v g = -1 := if_pos p0
    have hI : inI g 0 3 = 0 := inI_0l p0
    have hN : ¬ cchange_B x v g = 0 := by rw [hB]; decide
    rw [show cchange_R x v u h g = -1 from (if_neg hN).trans hB, show cchange_X x v u h g = _ from if_neg hN, show cchange_V x v u h g = _ from if_neg hN, show cchange_H x v u h g = _ from if_neg hN, show chgR m g = -1 from if_pos hI, show chgM m g = m from if_pos hI]
    exact ⟨rfl, r, q2⟩
  by_cases p1 : 4 ≤ g
  · have hB : cchange_B x v g = -1 := (if_neg p0).trans (if_pos p1)
    have hI : inI g 0 3 = 0 := inI_0r p0 (ge4 p1)
    have hN : ¬ cchange_B x v g = 0 := by rw [hB]; decide
    rw [show cchange_R x v u h g = -1 from (if_neg hN).trans hB, show cchange_X x v u h g = _ from if_neg hN, show cchange_V x v u h g = _ from if_neg hN, show cchange_H x v u h g = _ from if_neg hN, show chgR m g = -1 from if_pos hI, show chgM m g = m from if_pos hI]
    exact ⟨rfl, r, q2⟩
  have hB : cchange_B x v g = 0 := (if_neg p0).trans (if_neg p1)
  have hI := inI_1 p0 (nge4 p1)
  rw [show cchange_R x v u h g = v 0 1 from if_pos hB, show cchange_X x v u h g = _ from if_pos hB, show cchange_V x v u h g = turnV (NL v) g from if_pos hB, show cchange_H x v u h g = _ from if_pos hB, show chgR m g = rememM (NM m) 1 10 from if_neg hI, show chgM m g = cgM (NM (rememM (NM m))) g from if_neg hI]
  have e10 : rememM (NM m) 1 10 = v 0 1 := h1.1 10 (by omega)
  have e12 : rememM (NM m) 1 12 = v 0 3 := h1.1 12 (by omega)
  have e8 : rememM (NM m) 1 8 = v 1 8 := h1.1 8 (by omega)
  refine ⟨e10.symm, q1.set ?_ (by omega) ⟨rfl, rfl, rfl, rfl, rfl, rfl, rfl, rfl, rfl, rfl⟩, q2⟩
  have h2 := h1.2.2.2.1
  have hg : IB 0 3 g := by
    have z0 := nge4 p1
    rw [ilt] at p0 z0
    exact ⟨Int.not_lt.mp p0, Int.not_lt.mp z0⟩
  by_cases hn : g = v 0 1
  · have f1 : turnV (NL v) g = NL v := if_pos hn
    rw [f1]
    have eA : cgM (NM (rememM (NM m))) g 1 12 = v 0 3 := by
      show (if g = rememM (NM m) 1 10 then rememM (NM m) 1 12 else rememM (NM m) 1 8) = _
      rw [if_pos (by rw [e10]; exact hn), e12]
    have eB : cgM (NM (rememM (NM m))) g 1 10 = v 0 1 := hn
    exact ⟨by
      intro j hj
      match j, hj with
      | 0, _ => exact h1.1 0 (Nat.le_of_ble_eq_true rfl)
      | 1, _ => exact h1.1 1 (Nat.le_of_ble_eq_true rfl)
      | 2, _ => exact h1.1 2 (Nat.le_of_ble_eq_true rfl)
      | 3, _ => exact h1.1 3 (Nat.le_of_ble_eq_true rfl)
      | 4, _ => exact h1.1 4 (Nat.le_of_ble_eq_true rfl)
      | 5, _ => exact h1.1 5 (Nat.le_of_ble_eq_true rfl)
      | 6, _ => exact h1.1 6 (Nat.le_of_ble_eq_true rfl)
      | 7, _ => exact h1.1 7 (Nat.le_of_ble_eq_true rfl)
      | 8, _ => exact h1.1 8 (Nat.le_of_ble_eq_true rfl)
      | 9, _ => exact h1.1 9 (Nat.le_of_ble_eq_true rfl)
      | 10, _ => exact eB
      | 11, _ => exact h1.1 11 (Nat.le_of_ble_eq_true rfl)
      | 12, _ => exact eA
      | 13, _ => exact h1.1 13 (Nat.le_of_ble_eq_true rfl)
      | 14, _ => exact h1.1 14 (Nat.le_of_ble_eq_true rfl)
      | 15, _ => exact h1.1 15 (Nat.le_of_ble_eq_true rfl)
      | 16, _ => exact h1.1 16 (Nat.le_of_ble_eq_true rfl)
      | 17, _ => exact h1.1 17 (Nat.le_of_ble_eq_true rfl)
      | 18, _ => exact h1.1 18 (Nat.le_of_ble_eq_true rfl)
      | 19, _ => exact h1.1 19 (Nat.le_of_ble_eq_true rfl)
      | 20, _ => exact h1.1 20 (Nat.le_of_ble_eq_true rfl)
      | 21, _ => exact h1.1 21 (Nat.le_of_ble_eq_true rfl)
      | 22, _ => exact h1.1 22 (Nat.le_of_ble_eq_true rfl)
      | 23, _ => exact h1.1 23 (Nat.le_of_ble_eq_true rfl)
      | 24, _ => exact h1.1 24 (Nat.le_of_ble_eq_true rfl)
      | 25, _ => exact h1.1 25 (Nat.le_of_ble_eq_true rfl)
      | 26, _ => exact h1.1 26 (Nat.le_of_ble_eq_true rfl)
      | 27, _ => exact h1.1 27 (Nat.le_of_ble_eq_true rfl)
      | 28, _ => exact h1.1 28 (Nat.le_of_ble_eq_true rfl)
      | 29, _ => exact h1.1 29 (Nat.le_of_ble_eq_true rfl)
      | 30, _ => exact h1.1 30 (Nat.le_of_ble_eq_true rfl)
      | 31, _ => exact h1.1 31 (Nat.le_of_ble_eq_true rfl)
      | 32, _ => exact h1.1 32 (Nat.le_of_ble_eq_true rfl)
      | 33, _ => exact h1.1 33 (Nat.le_of_ble_eq_true rfl)
      | 34, _ => exact h1.1 34 (Nat.le_of_ble_eq_true rfl)
      | 35, _ => exact h1.1 35 (Nat.le_of_ble_eq_true rfl)
      | 36, _ => exact h1.1 36 (Nat.le_of_ble_eq_true rfl)
      | 37, _ => exact h1.1 37 (Nat.le_of_ble_eq_true rfl)
      | 38, _ => exact h1.1 38 (Nat.le_of_ble_eq_true rfl)
      | 39, _ => exact h1.1 39 (Nat.le_of_ble_eq_true rfl)
      | j + 40, hj => exact absurd hj (by omega), h1.2.1.hi rfl rfl (fun j hj => (upd_hi (by omega) j hj).trans (upd_hi (by omega) j hj)), h1.2.2.1.hi rfl rfl rfl rfl (fun j hj => (upd_hi (by omega) j hj).trans (upd_hi (by omega) j hj)), h1.2.2.2⟩
  · have f1 : turnV (NL v) g = vS (vS (NL v) 1 g) 3 (v 1 8) := if_neg hn
    rw [f1]
    have eA : cgM (NM (rememM (NM m))) g 1 12 = v 1 8 := by
      show (if g = rememM (NM m) 1 10 then rememM (NM m) 1 12 else rememM (NM m) 1 8) = _
      rw [if_neg (by rw [e10]; exact hn), e8]
    have eB : cgM (NM (rememM (NM m))) g 1 10 = g := rfl
    exact ⟨by
      intro j hj
      match j, hj with
      | 0, _ => exact h1.1 0 (Nat.le_of_ble_eq_true rfl)
      | 1, _ => exact h1.1 1 (Nat.le_of_ble_eq_true rfl)
      | 2, _ => exact h1.1 2 (Nat.le_of_ble_eq_true rfl)
      | 3, _ => exact h1.1 3 (Nat.le_of_ble_eq_true rfl)
      | 4, _ => exact h1.1 4 (Nat.le_of_ble_eq_true rfl)
      | 5, _ => exact h1.1 5 (Nat.le_of_ble_eq_true rfl)
      | 6, _ => exact h1.1 6 (Nat.le_of_ble_eq_true rfl)
      | 7, _ => exact h1.1 7 (Nat.le_of_ble_eq_true rfl)
      | 8, _ => exact h1.1 8 (Nat.le_of_ble_eq_true rfl)
      | 9, _ => exact h1.1 9 (Nat.le_of_ble_eq_true rfl)
      | 10, _ => exact eB
      | 11, _ => exact h1.1 11 (Nat.le_of_ble_eq_true rfl)
      | 12, _ => exact eA
      | 13, _ => exact h1.1 13 (Nat.le_of_ble_eq_true rfl)
      | 14, _ => exact h1.1 14 (Nat.le_of_ble_eq_true rfl)
      | 15, _ => exact h1.1 15 (Nat.le_of_ble_eq_true rfl)
      | 16, _ => exact h1.1 16 (Nat.le_of_ble_eq_true rfl)
      | 17, _ => exact h1.1 17 (Nat.le_of_ble_eq_true rfl)
      | 18, _ => exact h1.1 18 (Nat.le_of_ble_eq_true rfl)
      | 19, _ => exact h1.1 19 (Nat.le_of_ble_eq_true rfl)
      | 20, _ => exact h1.1 20 (Nat.le_of_ble_eq_true rfl)
      | 21, _ => exact h1.1 21 (Nat.le_of_ble_eq_true rfl)
      | 22, _ => exact h1.1 22 (Nat.le_of_ble_eq_true rfl)
      | 23, _ => exact h1.1 23 (Nat.le_of_ble_eq_true rfl)
      | 24, _ => exact h1.1 24 (Nat.le_of_ble_eq_true rfl)
      | 25, _ => exact h1.1 25 (Nat.le_of_ble_eq_true rfl)
      | 26, _ => exact h1.1 26 (Nat.le_of_ble_eq_true rfl)
      | 27, _ => exact h1.1 27 (Nat.le_of_ble_eq_true rfl)
      | 28, _ => exact h1.1 28 (Nat.le_of_ble_eq_true rfl)
      | 29, _ => exact h1.1 29 (Nat.le_of_ble_eq_true rfl)
      | 30, _ => exact h1.1 30 (Nat.le_of_ble_eq_true rfl)
      | 31, _ => exact h1.1 31 (Nat.le_of_ble_eq_true rfl)
      | 32, _ => exact h1.1 32 (Nat.le_of_ble_eq_true rfl)
      | 33, _ => exact h1.1 33 (Nat.le_of_ble_eq_true rfl)
      | 34, _ => exact h1.1 34 (Nat.le_of_ble_eq_true rfl)
      | 35, _ => exact h1.1 35 (Nat.le_of_ble_eq_true rfl)
      | 36, _ => exact h1.1 36 (Nat.le_of_ble_eq_true rfl)
      | 37, _ => exact h1.1 37 (Nat.le_of_ble_eq_true rfl)
      | 38, _ => exact h1.1 38 (Nat.le_of_ble_eq_true rfl)
      | 39, _ => exact h1.1 39 (Nat.le_of_ble_eq_true rfl)
      | j + 40, hj => exact absurd hj (by omega), h1.2.1.hi rfl rfl (fun j hj => (upd_hi (by omega) j hj).trans (upd_hi (by omega) j hj)), h1.2.2.1.hi rfl rfl rfl rfl (fun j hj => (upd_hi (by omega) j hj).trans (upd_hi (by omega) j hj)), ⟨h2.1, h2.2.1, h2.2.2.1, ⟨hg, h2.2.2.2.1.2.1, h2.2.2.1.2.2.2.2.2.2.1, h2.2.2.2.1.2.2.2⟩, h2.2.2.2.2⟩, h1.2.2.2.2⟩
end
