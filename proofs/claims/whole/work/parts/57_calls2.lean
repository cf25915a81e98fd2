noncomputable section
/-! THE TWO SIDES ARE ALIKE: fill, drain, run, undo -/
theorem inI_i {v a b : Int32} : (¬ inI v a b = 0) ↔ (a.toInt ≤ v.toInt ∧ v.toInt ≤ b.toInt) := by
  by_cases h : v < a
  · rw [inI_0l h]
    rw [ilt] at h
    exact ⟨fun q => absurd rfl q, fun q => absurd q.1 (Int.not_le.mpr h)⟩
  · by_cases h2 : b < v
    · rw [inI_0r h h2]
      rw [ilt] at h2
      exact ⟨fun q => absurd rfl q, fun q => absurd q.2 (Int.not_le.mpr h2)⟩
    · have := inI_1 h h2
      rw [ilt] at h h2
      constructor
      · intro; omega
      · intro; exact this
theorem inI_z {v a b : Int32} : inI v a b = 0 ↔ (v.toInt < a.toInt ∨ b.toInt < v.toInt) := by
  have := @inI_i v a b
  by_cases h : inI v a b = 0
  · simp only [h, not_true_eq_false, false_iff] at this
    simp only [h, true_iff]
    omega
  · simp only [h, not_false_eq_true, true_iff] at this
    simp only [h, false_iff]
    omega
theorem i_nlt {a b : Int32} (h : ¬ a < b) : b.toInt ≤ a.toInt := by
  rw [ilt] at h
  exact Int.not_lt.mp h
theorem i_nle {a b : Int32} (h : ¬ a ≤ b) : b.toInt < a.toInt := by
  rw [ile] at h
  exact Int.not_le.mp h
theorem pourV_2 (c : Nat) (hc : c < 4) (v : pLV) (a b : Int32) : pourV c v a b 0 2 = v 0 2 := by
  match c, hc with
  | 0, _ => rfl
  | 1, _ => rfl
  | 2, _ => rfl
  | 3, _ => rfl
  | c + 4, h => exact absurd h (by omega)
theorem fi_S {B : Int} {v y : pLV} {a : Int32} (h1 : SN B v (y 1)) : SN B (vS v 23 (v 0 23 + a)) (fi1 y a 1) := by
  have e31 : fi1 y a 1 31 = v 0 23 + a := congrArg (· + a) (h1.1 31 (by omega))
  exact ⟨by
    intro j hj
    match j, hj with
    | 0, _ => exact h1.1 0 (Nat.le_of_ble_eq_true rfl)
    | 1, _ => exact h1.1 1 (Nat.le_of_ble_eq_true rfl)
    | 2, _ => exact h1.1 2 (Nat.le_of_ble_eq_true rfl)
    | 3, _ => exact h1.1 3 (Nat.le_of_ble_eq_true rfl)
    | 4, _ => exact h1.1 4 (Nat.le_of_ble_eq_true rfl)
    | 5, _ => exact h1.1 5 (Nat.le_of_ble_eq_true rfl)
    | 6, _ => exact h1.1 6 (Nat.le_of_ble_eq_true rfl)
    | 7, _ => exact h1.1 7 (Nat.le_of_ble_eq_true rfl)
    | 8, _ => exact h1.1 8 (Nat.le_of_ble_eq_true rfl)
    | 9, _ => exact h1.1 9 (Nat.le_of_ble_eq_true rfl)
    | 10, _ => exact h1.1 10 (Nat.le_of_ble_eq_true rfl)
    | 11, _ => exact h1.1 11 (Nat.le_of_ble_eq_true rfl)
    | 12, _ => exact h1.1 12 (Nat.le_of_ble_eq_true rfl)
    | 13, _ => exact h1.1 13 (Nat.le_of_ble_eq_true rfl)
    | 14, _ => exact h1.1 14 (Nat.le_of_ble_eq_true rfl)
    | 15, _ => exact h1.1 15 (Nat.le_of_ble_eq_true rfl)
    | 16, _ => exact h1.1 16 (Nat.le_of_ble_eq_true rfl)
    | 17, _ => exact h1.1 17 (Nat.le_of_ble_eq_true rfl)
    | 18, _ => exact h1.1 18 (Nat.le_of_ble_eq_true rfl)
    | 19, _ => exact h1.1 19 (Nat.le_of_ble_eq_true rfl)
    | 20, _ => exact h1.1 20 (Nat.le_of_ble_eq_true rfl)
    | 21, _ => exact h1.1 21 (Nat.le_of_ble_eq_true rfl)
    | 22, _ => exact h1.1 22 (Nat.le_of_ble_eq_true rfl)
    | 23, _ => exact h1.1 23 (Nat.le_of_ble_eq_true rfl)
    | 24, _ => exact h1.1 24 (Nat.le_of_ble_eq_true rfl)
    | 25, _ => exact h1.1 25 (Nat.le_of_ble_eq_true rfl)
    | 26, _ => exact h1.1 26 (Nat.le_of_ble_eq_true rfl)
    | 27, _ => exact h1.1 27 (Nat.le_of_ble_eq_true rfl)
    | 28, _ => exact h1.1 28 (Nat.le_of_ble_eq_true rfl)
    | 29, _ => exact h1.1 29 (Nat.le_of_ble_eq_true rfl)
    | 30, _ => exact h1.1 30 (Nat.le_of_ble_eq_true rfl)
    | 31, _ => exact e31
    | 32, _ => exact h1.1 32 (Nat.le_of_ble_eq_true rfl)
    | 33, _ => exact h1.1 33 (Nat.le_of_ble_eq_true rfl)
    | 34, _ => exact h1.1 34 (Nat.le_of_ble_eq_true rfl)
    | 35, _ => exact h1.1 35 (Nat.le_of_ble_eq_true rfl)
    | 36, _ => exact h1.1 36 (Nat.le_of_ble_eq_true rfl)
    | 37, _ => exact h1.1 37 (Nat.le_of_ble_eq_true rfl)
    | 38, _ => exact h1.1 38 (Nat.le_of_ble_eq_true rfl)
    | 39, _ => exact h1.1 39 (Nat.le_of_ble_eq_true rfl)
    | j + 40, hj => exact absurd hj (by omega), h1.2.1.hi rfl rfl (upd_hi (by omega)), h1.2.2.1.hi rfl rfl rfl rfl (upd_hi (by omega)), h1.2.2.2⟩
theorem dr_S0 {B : Int} {v m : pLV} {x : Int32} (h : SN B v (m 1)) (hx : 0 ≤ x.toInt) : SN B (vS (tv0 v x) 25 (v 0 25 + tkR (v 0 10) (v 0 11) (mnI x ((v 0 10) + (v 0 11))))) (dr1 (takeM 0 m x) 1) ∧ takeM 0 m x 0 9 = tkR (v 0 10) (v 0 11) (mnI x ((v 0 10) + (v 0 11))) ∧ FR m (dr1 (takeM 0 m x)) := by
  obtain ⟨h1, h2, -⟩ := take_S0 (bk := v 0 2) h hx
  have e33 : dr1 (takeM 0 m x) 1 33 = v 0 25 + tkR (v 0 10) (v 0 11) (mnI x ((v 0 10) + (v 0 11))) := by
    rw [← h2]
    exact congrArg (· + takeM 0 m x 0 9) (h1.1 33 (by omega))
  refine ⟨⟨by
    intro j hj
    match j, hj with
    | 0, _ => exact h1.1 0 (Nat.le_of_ble_eq_true rfl)
    | 1, _ => exact h1.1 1 (Nat.le_of_ble_eq_true rfl)
    | 2, _ => exact h1.1 2 (Nat.le_of_ble_eq_true rfl)
    | 3, _ => exact h1.1 3 (Nat.le_of_ble_eq_true rfl)
    | 4, _ => exact h1.1 4 (Nat.le_of_ble_eq_true rfl)
    | 5, _ => exact h1.1 5 (Nat.le_of_ble_eq_true rfl)
    | 6, _ => exact h1.1 6 (Nat.le_of_ble_eq_true rfl)
    | 7, _ => exact h1.1 7 (Nat.le_of_ble_eq_true rfl)
    | 8, _ => exact h1.1 8 (Nat.le_of_ble_eq_true rfl)
    | 9, _ => exact h1.1 9 (Nat.le_of_ble_eq_true rfl)
    | 10, _ => exact h1.1 10 (Nat.le_of_ble_eq_true rfl)
    | 11, _ => exact h1.1 11 (Nat.le_of_ble_eq_true rfl)
    | 12, _ => exact h1.1 12 (Nat.le_of_ble_eq_true rfl)
    | 13, _ => exact h1.1 13 (Nat.le_of_ble_eq_true rfl)
    | 14, _ => exact h1.1 14 (Nat.le_of_ble_eq_true rfl)
    | 15, _ => exact h1.1 15 (Nat.le_of_ble_eq_true rfl)
    | 16, _ => exact h1.1 16 (Nat.le_of_ble_eq_true rfl)
    | 17, _ => exact h1.1 17 (Nat.le_of_ble_eq_true rfl)
    | 18, _ => exact h1.1 18 (Nat.le_of_ble_eq_true rfl)
    | 19, _ => exact h1.1 19 (Nat.le_of_ble_eq_true rfl)
    | 20, _ => exact h1.1 20 (Nat.le_of_ble_eq_true rfl)
    | 21, _ => exact h1.1 21 (Nat.le_of_ble_eq_true rfl)
    | 22, _ => exact h1.1 22 (Nat.le_of_ble_eq_true rfl)
    | 23, _ => exact h1.1 23 (Nat.le_of_ble_eq_true rfl)
    | 24, _ => exact h1.1 24 (Nat.le_of_ble_eq_true rfl)
    | 25, _ => exact h1.1 25 (Nat.le_of_ble_eq_true rfl)
    | 26, _ => exact h1.1 26 (Nat.le_of_ble_eq_true rfl)
    | 27, _ => exact h1.1 27 (Nat.le_of_ble_eq_true rfl)
    | 28, _ => exact h1.1 28 (Nat.le_of_ble_eq_true rfl)
    | 29, _ => exact h1.1 29 (Nat.le_of_ble_eq_true rfl)
    | 30, _ => exact h1.1 30 (Nat.le_of_ble_eq_true rfl)
    | 31, _ => exact h1.1 31 (Nat.le_of_ble_eq_true rfl)
    | 32, _ => exact h1.1 32 (Nat.le_of_ble_eq_true rfl)
    | 33, _ => exact e33
    | 34, _ => exact h1.1 34 (Nat.le_of_ble_eq_true rfl)
    | 35, _ => exact h1.1 35 (Nat.le_of_ble_eq_true rfl)
    | 36, _ => exact h1.1 36 (Nat.le_of_ble_eq_true rfl)
    | 37, _ => exact h1.1 37 (Nat.le_of_ble_eq_true rfl)
    | 38, _ => exact h1.1 38 (Nat.le_of_ble_eq_true rfl)
    | 39, _ => exact h1.1 39 (Nat.le_of_ble_eq_true rfl)
    | j + 40, hj => exact absurd hj (by omega), h1.2.1.hi rfl rfl (upd_hi (by omega)), h1.2.2.1.hi rfl rfl rfl rfl (upd_hi (by omega)), h1.2.2.2⟩, h2, ⟨rfl, rfl, rfl, rfl, rfl, rfl, rfl, rfl, rfl, rfl⟩⟩
theorem dr_S1 {B : Int} {v m : pLV} {x : Int32} (h : SN B v (m 1)) (hx : 0 ≤ x.toInt) : SN B (vS (tv1 v x) 25 (v 0 25 + tkR (v 0 13) (v 0 14) (mnI x ((v 0 13) + (v 0 14))))) (dr1 (takeM 1 m x) 1) ∧ takeM 1 m x 0 9 = tkR (v 0 13) (v 0 14) (mnI x ((v 0 13) + (v 0 14))) ∧ FR m (dr1 (takeM 1 m x)) := by
  obtain ⟨h1, h2, -⟩ := take_S1 (bk := v 0 2) h hx
  have e33 : dr1 (takeM 1 m x) 1 33 = v 0 25 + tkR (v 0 13) (v 0 14) (mnI x ((v 0 13) + (v 0 14))) := by
    rw [← h2]
    exact congrArg (· + takeM 1 m x 0 9) (h1.1 33 (by omega))
  refine ⟨⟨by
    intro j hj
    match j, hj with
    | 0, _ => exact h1.1 0 (Nat.le_of_ble_eq_true rfl)
    | 1, _ => exact h1.1 1 (Nat.le_of_ble_eq_true rfl)
    | 2, _ => exact h1.1 2 (Nat.le_of_ble_eq_true rfl)
    | 3, _ => exact h1.1 3 (Nat.le_of_ble_eq_true rfl)
    | 4, _ => exact h1.1 4 (Nat.le_of_ble_eq_true rfl)
    | 5, _ => exact h1.1 5 (Nat.le_of_ble_eq_true rfl)
    | 6, _ => exact h1.1 6 (Nat.le_of_ble_eq_true rfl)
    | 7, _ => exact h1.1 7 (Nat.le_of_ble_eq_true rfl)
    | 8, _ => exact h1.1 8 (Nat.le_of_ble_eq_true rfl)
    | 9, _ => exact h1.1 9 (Nat.le_of_ble_eq_true rfl)
    | 10, _ => exact h1.1 10 (Nat.le_of_ble_eq_true rfl)
    | 11, _ => exact h1.1 11 (Nat.le_of_ble_eq_true rfl)
    | 12, _ => exact h1.1 12 (Nat.le_of_ble_eq_true rfl)
    | 13, _ => exact h1.1 13 (Nat.le_of_ble_eq_true rfl)
    | 14, _ => exact h1.1 14 (Nat.le_of_ble_eq_true rfl)
    | 15, _ => exact h1.1 15 (Nat.le_of_ble_eq_true rfl)
    | 16, _ => exact h1.1 16 (Nat.le_of_ble_eq_true rfl)
    | 17, _ => exact h1.1 17 (Nat.le_of_ble_eq_true rfl)
    | 18, _ => exact h1.1 18 (Nat.le_of_ble_eq_true rfl)
    | 19, _ => exact h1.1 19 (Nat.le_of_ble_eq_true rfl)
    | 20, _ => exact h1.1 20 (Nat.le_of_ble_eq_true rfl)
    | 21, _ => exact h1.1 21 (Nat.le_of_ble_eq_true rfl)
    | 22, _ => exact h1.1 22 (Nat.le_of_ble_eq_true rfl)
    | 23, _ => exact h1.1 23 (Nat.le_of_ble_eq_true rfl)
    | 24, _ => exact h1.1 24 (Nat.le_of_ble_eq_true rfl)
    | 25, _ => exact h1.1 25 (Nat.le_of_ble_eq_true rfl)
    | 26, _ => exact h1.1 26 (Nat.le_of_ble_eq_true rfl)
    | 27, _ => exact h1.1 27 (Nat.le_of_ble_eq_true rfl)
    | 28, _ => exact h1.1 28 (Nat.le_of_ble_eq_true rfl)
    | 29, _ => exact h1.1 29 (Nat.le_of_ble_eq_true rfl)
    | 30, _ => exact h1.1 30 (Nat.le_of_ble_eq_true rfl)
    | 31, _ => exact h1.1 31 (Nat.le_of_ble_eq_true rfl)
    | 32, _ => exact h1.1 32 (Nat.le_of_ble_eq_true rfl)
    | 33, _ => exact e33
    | 34, _ => exact h1.1 34 (Nat.le_of_ble_eq_true rfl)
    | 35, _ => exact h1.1 35 (Nat.le_of_ble_eq_true rfl)
    | 36, _ => exact h1.1 36 (Nat.le_of_ble_eq_true rfl)
    | 37, _ => exact h1.1 37 (Nat.le_of_ble_eq_true rfl)
    | 38, _ => exact h1.1 38 (Nat.le_of_ble_eq_true rfl)
    | 39, _ => exact h1.1 39 (Nat.le_of_ble_eq_true rfl)
    | j + 40, hj => exact absurd hj (by omega), h1.2.1.hi rfl rfl (upd_hi (by omega)), h1.2.2.1.hi rfl rfl rfl rfl (upd_hi (by omega)), h1.2.2.2⟩, h2, ⟨rfl, rfl, rfl, rfl, rfl, rfl, rfl, rfl, rfl, rfl⟩⟩
theorem dr_S2 {B : Int} {v m : pLV} {x : Int32} (h : SN B v (m 1)) (hx : 0 ≤ x.toInt) : SN B (vS (tv2 v x) 25 (v 0 25 + tkR (v 0 16) (v 0 17) (mnI x ((v 0 16) + (v 0 17))))) (dr1 (takeM 2 m x) 1) ∧ takeM 2 m x 0 9 = tkR (v 0 16) (v 0 17) (mnI x ((v 0 16) + (v 0 17))) ∧ FR m (dr1 (takeM 2 m x)) := by
  obtain ⟨h1, h2, -⟩ := take_S2 (bk := v 0 2) h hx
  have e33 : dr1 (takeM 2 m x) 1 33 = v 0 25 + tkR (v 0 16) (v 0 17) (mnI x ((v 0 16) + (v 0 17))) := by
    rw [← h2]
    exact congrArg (· + takeM 2 m x 0 9) (h1.1 33 (by omega))
  refine ⟨⟨by
    intro j hj
    match j, hj with
    | 0, _ => exact h1.1 0 (Nat.le_of_ble_eq_true rfl)
    | 1, _ => exact h1.1 1 (Nat.le_of_ble_eq_true rfl)
    | 2, _ => exact h1.1 2 (Nat.le_of_ble_eq_true rfl)
    | 3, _ => exact h1.1 3 (Nat.le_of_ble_eq_true rfl)
    | 4, _ => exact h1.1 4 (Nat.le_of_ble_eq_true rfl)
    | 5, _ => exact h1.1 5 (Nat.le_of_ble_eq_true rfl)
    | 6, _ => exact h1.1 6 (Nat.le_of_ble_eq_true rfl)
    | 7, _ => exact h1.1 7 (Nat.le_of_ble_eq_true rfl)
    | 8, _ => exact h1.1 8 (Nat.le_of_ble_eq_true rfl)
    | 9, _ => exact h1.1 9 (Nat.le_of_ble_eq_true rfl)
    | 10, _ => exact h1.1 10 (Nat.le_of_ble_eq_true rfl)
    | 11, _ => exact h1.1 11 (Nat.le_of_ble_eq_true rfl)
    | 12, _ => exact h1.1 12 (Nat.le_of_ble_eq_true rfl)
    | 13, _ => exact h1.1 13 (Nat.le_of_ble_eq_true rfl)
    | 14, _ => exact h1.1 14 (Nat.le_of_ble_eq_true rfl)
    | 15, _ => exact h1.1 15 (Nat.le_of_ble_eq_true rfl)
    | 16, _ => exact h1.1 16 (Nat.le_of_ble_eq_true rfl)
    | 17, _ => exact h1.1 17 (Nat.le_of_ble_eq_true rfl)
    | 18, _ => exact h1.1 18 (Nat.le_of_ble_eq_true rfl)
    | 19, _ => exact h1.1 19 (Nat.le_of_ble_eq_true rfl)
    | 20, _ => exact h1.1 20 (Nat.le_of_ble_eq_true rfl)
    | 21, _ => exact h1.1 21 (Nat.le_of_ble_eq_true rfl)
    | 22, _ => exact h1.1 22 (Nat.le_of_ble_eq_true rfl)
    | 23, _ => exact h1.1 23 (Nat.le_of_ble_eq_true rfl)
    | 24, _ => exact h1.1 24 (Nat.le_of_ble_eq_true rfl)
    | 25, _ => exact h1.1 25 (Nat.le_of_ble_eq_true rfl)
    | 26, _ => exact h1.1 26 (Nat.le_of_ble_eq_true rfl)
    | 27, _ => exact h1.1 27 (Nat.le_of_ble_eq_true rfl)
    | 28, _ => exact h1.1 28 (Nat.le_of_ble_eq_true rfl)
    | 29, _ => exact h1.1 29 (Nat.le_of_ble_eq_true rfl)
    | 30, _ => exact h1.1 30 (Nat.le_of_ble_eq_true rfl)
    | 31, _ => exact h1.1 31 (Nat.le_of_ble_eq_true rfl)
    | 32, _ => exact h1.1 32 (Nat.le_of_ble_eq_true rfl)
    | 33, _ => exact e33
    | 34, _ => exact h1.1 34 (Nat.le_of_ble_eq_true rfl)
    | 35, _ => exact h1.1 35 (Nat.le_of_ble_eq_true rfl)
    | 36, _ => exact h1.1 36 (Nat.le_of_ble_eq_true rfl)
    | 37, _ => exact h1.1 37 (Nat.le_of_ble_eq_true rfl)
    | 38, _ => exact h1.1 38 (Nat.le_of_ble_eq_true rfl)
    | 39, _ => exact h1.1 39 (Nat.le_of_ble_eq_true rfl)
    | j + 40, hj => exact absurd hj (by omega), h1.2.1.hi rfl rfl (upd_hi (by omega)), h1.2.2.1.hi rfl rfl rfl rfl (upd_hi (by omega)), h1.2.2.2⟩, h2, ⟨rfl, rfl, rfl, rfl, rfl, rfl, rfl, rfl, rfl, rfl⟩⟩
theorem dr_S3 {B : Int} {v m : pLV} {x : Int32} (h : SN B v (m 1)) (hx : 0 ≤ x.toInt) : SN B (vS (tv3 v x) 25 (v 0 25 + tkR (v 0 19) (v 0 20) (mnI x ((v 0 19) + (v 0 20))))) (dr1 (takeM 3 m x) 1) ∧ takeM 3 m x 0 9 = tkR (v 0 19) (v 0 20) (mnI x ((v 0 19) + (v 0 20))) ∧ FR m (dr1 (takeM 3 m x)) := by
  obtain ⟨h1, h2, -⟩ := take_S3 (bk := v 0 2) h hx
  have e33 : dr1 (takeM 3 m x) 1 33 = v 0 25 + tkR (v 0 19) (v 0 20) (mnI x ((v 0 19) + (v 0 20))) := by
    rw [← h2]
    exact congrArg (· + takeM 3 m x 0 9) (h1.1 33 (by omega))
  refine ⟨⟨by
    intro j hj
    match j, hj with
    | 0, _ => exact h1.1 0 (Nat.le_of_ble_eq_true rfl)
    | 1, _ => exact h1.1 1 (Nat.le_of_ble_eq_true rfl)
    | 2, _ => exact h1.1 2 (Nat.le_of_ble_eq_true rfl)
    | 3, _ => exact h1.1 3 (Nat.le_of_ble_eq_true rfl)
    | 4, _ => exact h1.1 4 (Nat.le_of_ble_eq_true rfl)
    | 5, _ => exact h1.1 5 (Nat.le_of_ble_eq_true rfl)
    | 6, _ => exact h1.1 6 (Nat.le_of_ble_eq_true rfl)
    | 7, _ => exact h1.1 7 (Nat.le_of_ble_eq_true rfl)
    | 8, _ => exact h1.1 8 (Nat.le_of_ble_eq_true rfl)
    | 9, _ => exact h1.1 9 (Nat.le_of_ble_eq_true rfl)
    | 10, _ => exact h1.1 10 (Nat.le_of_ble_eq_true rfl)
    | 11, _ => exact h1.1 11 (Nat.le_of_ble_eq_true rfl)
    | 12, _ => exact h1.1 12 (Nat.le_of_ble_eq_true rfl)
    | 13, _ => exact h1.1 13 (Nat.le_of_ble_eq_true rfl)
    | 14, _ => exact h1.1 14 (Nat.le_of_ble_eq_true rfl)
    | 15, _ => exact h1.1 15 (Nat.le_of_ble_eq_true rfl)
    | 16, _ => exact h1.1 16 (Nat.le_of_ble_eq_true rfl)
    | 17, _ => exact h1.1 17 (Nat.le_of_ble_eq_true rfl)
    | 18, _ => exact h1.1 18 (Nat.le_of_ble_eq_true rfl)
    | 19, _ => exact h1.1 19 (Nat.le_of_ble_eq_true rfl)
    | 20, _ => exact h1.1 20 (Nat.le_of_ble_eq_true rfl)
    | 21, _ => exact h1.1 21 (Nat.le_of_ble_eq_true rfl)
    | 22, _ => exact h1.1 22 (Nat.le_of_ble_eq_true rfl)
    | 23, _ => exact h1.1 23 (Nat.le_of_ble_eq_true rfl)
    | 24, _ => exact h1.1 24 (Nat.le_of_ble_eq_true rfl)
    | 25, _ => exact h1.1 25 (Nat.le_of_ble_eq_true rfl)
    | 26, _ => exact h1.1 26 (Nat.le_of_ble_eq_true rfl)
    | 27, _ => exact h1.1 27 (Nat.le_of_ble_eq_true rfl)
    | 28, _ => exact h1.1 28 (Nat.le_of_ble_eq_true rfl)
    | 29, _ => exact h1.1 29 (Nat.le_of_ble_eq_true rfl)
    | 30, _ => exact h1.1 30 (Nat.le_of_ble_eq_true rfl)
    | 31, _ => exact h1.1 31 (Nat.le_of_ble_eq_true rfl)
    | 32, _ => exact h1.1 32 (Nat.le_of_ble_eq_true rfl)
    | 33, _ => exact e33
    | 34, _ => exact h1.1 34 (Nat.le_of_ble_eq_true rfl)
    | 35, _ => exact h1.1 35 (Nat.le_of_ble_eq_true rfl)
    | 36, _ => exact h1.1 36 (Nat.le_of_ble_eq_true rfl)
    | 37, _ => exact h1.1 37 (Nat.le_of_ble_eq_true rfl)
    | 38, _ => exact h1.1 38 (Nat.le_of_ble_eq_true rfl)
    | 39, _ => exact h1.1 39 (Nat.le_of_ble_eq_true rfl)
    | j + 40, hj => exact absurd hj (by omega), h1.2.1.hi rfl rfl (upd_hi (by omega)), h1.2.2.1.hi rfl rfl rfl rfl (upd_hi (by omega)), h1.2.2.2⟩, h2, ⟨rfl, rfl, rfl, rfl, rfl, rfl, rfl, rfl, rfl, rfl⟩⟩
theorem fill_S {B : Int} {x v u : pLV} {h : Nat → pLV} {m : pLV} (r : RS B x v u h m) (c a b : Int32) : cfill_R x v u h c a b = filR m c a b ∧ RS B (cfill_X x v u h c a b) (cfill_V x v u h c a b) u (cfill_H x v u h c a b) (filM m c a b) ∧ pOK m := by
  obtain ⟨q1, q2, q3⟩ := rem_S r.nm
  have h1 : SN B v (rememM (NM m) 1) := q1.1
  have e0 : (0 : Int32).toInt = 0 := rfl
  have e3 : (3 : Int32).toInt = 3 := rfl
  have e4 : (4 : Int32).toInt = 4 := rfl
  have e5 : (5000 : Int32).toInt = 5000 := rfl
  have e50 : (50000 : Int32).toInt = 50000 := rfl
  by_cases p0 : c < 0
  · have hB : cfill_B x v c a b = -1 := if_pos p0
    have hN : ¬ cfill_B x v c a b = 0 := by rw [hB]; decide
    rw [show cfill_R x v u h c a b = -1 from (if_neg hN).trans hB, show cfill_X x v u h c a b = _ from if_neg hN, show cfill_V x v u h c a b = _ from if_neg hN, show cfill_H x v u h c a b = _ from if_neg hN, show filR m c a b = -1 from if_pos (inI_0l p0), show filM m c a b = m from if_pos (inI_0l p0)]
    exact ⟨rfl, r, q2⟩
  by_cases p1 : 4 ≤ c
  · have hB : cfill_B x v c a b = -1 := (if_neg p0).trans (if_pos p1)
    have hN : ¬ cfill_B x v c a b = 0 := by rw [hB]; decide
    rw [show cfill_R x v u h c a b = -1 from (if_neg hN).trans hB, show cfill_X x v u h c a b = _ from if_neg hN, show cfill_V x v u h c a b = _ from if_neg hN, show cfill_H x v u h c a b = _ from if_neg hN, show filR m c a b = -1 from if_pos (inI_0r p0 (ge4 p1)), show filM m c a b = m from if_pos (inI_0r p0 (ge4 p1))]
    exact ⟨rfl, r, q2⟩
  have hI : ¬ inI c 0 3 = 0 := inI_1 p0 (nge4 p1)
  by_cases p2 : a < 0
  · have hB : cfill_B x v c a b = -1 := (if_neg p0).trans ((if_neg p1).trans (if_pos p2))
    have hN : ¬ cfill_B x v c a b = 0 := by rw [hB]; decide
    rw [show cfill_R x v u h c a b = -1 from (if_neg hN).trans hB, show cfill_X x v u h c a b = _ from if_neg hN, show cfill_V x v u h c a b = _ from if_neg hN, show cfill_H x v u h c a b = _ from if_neg hN, show filR m c a b = -1 from (if_neg hI).trans (if_pos (inI_0l p2)), show filM m c a b = m from (if_neg hI).trans (if_pos (inI_0l p2))]
    exact ⟨rfl, r, q2⟩
  by_cases p3 : 5000 < a
  · have hB : cfill_B x v c a b = -1 := (if_neg p0).trans ((if_neg p1).trans ((if_neg p2).trans (if_pos p3)))
    have hN : ¬ cfill_B x v c a b = 0 := by rw [hB]; decide
    rw [show cfill_R x v u h c a b = -1 from (if_neg hN).trans hB, show cfill_X x v u h c a b = _ from if_neg hN, show cfill_V x v u h c a b = _ from if_neg hN, show cfill_H x v u h c a b = _ from if_neg hN, show filR m c a b = -1 from (if_neg hI).trans (if_pos (inI_0r p2 p3)), show filM m c a b = m from (if_neg hI).trans (if_pos (inI_0r p2 p3))]
    exact ⟨rfl, r, q2⟩
  have hI2 : ¬ inI a 0 5000 = 0 := inI_1 p2 p3
  by_cases p4 : b < 0
  · have hB : cfill_B x v c a b = -1 := (if_neg p0).trans ((if_neg p1).trans ((if_neg p2).trans ((if_neg p3).trans (if_pos p4))))
    have hN : ¬ cfill_B x v c a b = 0 := by rw [hB]; decide
    rw [show cfill_R x v u h c a b = -1 from (if_neg hN).trans hB, show cfill_X x v u h c a b = _ from if_neg hN, show cfill_V x v u h c a b = _ from if_neg hN, show cfill_H x v u h c a b = _ from if_neg hN, show filR m c a b = -1 from (if_neg hI).trans ((if_neg hI2).trans (if_pos (inI_0l p4))), show filM m c a b = m from (if_neg hI).trans ((if_neg hI2).trans (if_pos (inI_0l p4)))]
    exact ⟨rfl, r, q2⟩
  by_cases p5 : 50000 < b
  · have hB : cfill_B x v c a b = -1 := (if_neg p0).trans ((if_neg p1).trans ((if_neg p2).trans ((if_neg p3).trans ((if_neg p4).trans (if_pos p5)))))
    have hN : ¬ cfill_B x v c a b = 0 := by rw [hB]; decide
    rw [show cfill_R x v u h c a b = -1 from (if_neg hN).trans hB, show cfill_X x v u h c a b = _ from if_neg hN, show cfill_V x v u h c a b = _ from if_neg hN, show cfill_H x v u h c a b = _ from if_neg hN, show filR m c a b = -1 from (if_neg hI).trans ((if_neg hI2).trans (if_pos (inI_0r p4 p5))), show filM m c a b = m from (if_neg hI).trans ((if_neg hI2).trans (if_pos (inI_0r p4 p5)))]
    exact ⟨rfl, r, q2⟩
  have hI3 : ¬ inI b 0 50000 = 0 := inI_1 p4 p5
  have hB : cfill_B x v c a b = 0 := (if_neg p0).trans ((if_neg p1).trans ((if_neg p2).trans ((if_neg p3).trans ((if_neg p4).trans (if_neg p5)))))
  rw [show cfill_R x v u h c a b = _ from if_pos hB, show cfill_X x v u h c a b = _ from if_pos hB, show cfill_V x v u h c a b = _ from if_pos hB, show cfill_H x v u h c a b = _ from if_pos hB, show filR m c a b = _ from (if_neg hI).trans ((if_neg hI2).trans (if_neg hI3)), show filM m c a b = _ from (if_neg hI).trans ((if_neg hI2).trans (if_neg hI3))]
  have hc : IB 0 3 c := inI_i.mp hI
  have ha := i_nlt p2
  have hb := i_nlt p4
  have ha' := i_nlt p3
  have hb' := i_nlt p5
  have h2 : SL B (v 0 2) (vS v 23 (v 0 23 + a)) (NM (fi1 (rememM (NM m)) a) 1) := fi_S h1
  have hf : FR (rememM (NM m)) (NM (fi1 (rememM (NM m)) a)) := ⟨rfl, rfl, rfl, rfl, rfl, rfl, rfl, rfl, rfl, rfl⟩
  generalize rememM (NM m) = y at h1 h2 hf q1
  rcases IB_4 hc with rfl | rfl | rfl | rfl
  · obtain ⟨g1, g2, -, -⟩ := fill_S0 h2 (e0 ▸ ha) (e0 ▸ hb) (by omega)
    have g3 : SN B (pourV 0 (vS v 23 (v 0 23 + a)) a b) (fillM 0 (NM (fi1 y a)) a b 1) := g1
    exact ⟨g2.symm, q1.fr g3 (Int.le_refl _) (hf.tr (fillM_FR 0 _ _ _)), q2⟩
  · obtain ⟨g1, g2, -, -⟩ := fill_S1 h2 (e0 ▸ ha) (e0 ▸ hb) (by omega)
    have g3 : SN B (pourV 1 (vS v 23 (v 0 23 + a)) a b) (fillM 1 (NM (fi1 y a)) a b 1) := g1
    exact ⟨g2.symm, q1.fr g3 (Int.le_refl _) (hf.tr (fillM_FR 1 _ _ _)), q2⟩
  · obtain ⟨g1, g2, -, -⟩ := fill_S2 h2 (e0 ▸ ha) (e0 ▸ hb) (by omega)
    have g3 : SN B (pourV 2 (vS v 23 (v 0 23 + a)) a b) (fillM 2 (NM (fi1 y a)) a b 1) := g1
    exact ⟨g2.symm, q1.fr g3 (Int.le_refl _) (hf.tr (fillM_FR 2 _ _ _)), q2⟩
  · obtain ⟨g1, g2, -, -⟩ := fill_S3 h2 (e0 ▸ ha) (e0 ▸ hb) (by omega)
    have g3 : SN B (pourV 3 (vS v 23 (v 0 23 + a)) a b) (fillM 3 (NM (fi1 y a)) a b 1) := g1
    exact ⟨g2.symm, q1.fr g3 (Int.le_refl _) (hf.tr (fillM_FR 3 _ _ _)), q2⟩
theorem drain_S {B : Int} {x v u : pLV} {h : Nat → pLV} {m : pLV} (r : RS B x v u h m) (c a : Int32) : cdrain_R x v u h c a = draR m c a ∧ RS B (cdrain_X x v u h c a) (cdrain_V x v u h c a) u (cdrain_H x v u h c a) (draM m c a) ∧ pOK m := by
  obtain ⟨q1, q2, q3⟩ := rem_S r.nm
  have h1 : SN B v (rememM (NM m) 1) := q1.1
  by_cases p0 : c < 0
  · have hB : cdrain_B x v c a = -1 := if_pos p0
    have hN : ¬ cdrain_B x v c a = 0 := by rw [hB]; decide
    rw [show cdrain_R x v u h c a = -1 from (if_neg hN).trans hB, show cdrain_X x v u h c a = _ from if_neg hN, show cdrain_V x v u h c a = _ from if_neg hN, show cdrain_H x v u h c a = _ from if_neg hN, show draR m c a = -1 from if_pos (inI_0l p0), show draM m c a = m from if_pos (inI_0l p0)]
    exact ⟨rfl, r, q2⟩
  by_cases p1 : 4 ≤ c
  · have hB : cdrain_B x v c a = -1 := (if_neg p0).trans (if_pos p1)
    have hN : ¬ cdrain_B x v c a = 0 := by rw [hB]; decide
    rw [show cdrain_R x v u h c a = -1 from (if_neg hN).trans hB, show cdrain_X x v u h c a = _ from if_neg hN, show cdrain_V x v u h c a = _ from if_neg hN, show cdrain_H x v u h c a = _ from if_neg hN, show draR m c a = -1 from if_pos (inI_0r p0 (ge4 p1)), show draM m c a = m from if_pos (inI_0r p0 (ge4 p1))]
    exact ⟨rfl, r, q2⟩
  have hI : ¬ inI c 0 3 = 0 := inI_1 p0 (nge4 p1)
  by_cases p2 : a < 1
  · have hB : cdrain_B x v c a = -1 := (if_neg p0).trans ((if_neg p1).trans (if_pos p2))
    have hN : ¬ cdrain_B x v c a = 0 := by rw [hB]; decide
    rw [show cdrain_R x v u h c a = -1 from (if_neg hN).trans hB, show cdrain_X x v u h c a = _ from if_neg hN, show cdrain_V x v u h c a = _ from if_neg hN, show cdrain_H x v u h c a = _ from if_neg hN, show draR m c a = -1 from (if_neg hI).trans (if_pos (inI_0l p2)), show draM m c a = m from (if_neg hI).trans (if_pos (inI_0l p2))]
    exact ⟨rfl, r, q2⟩
  by_cases p3 : 50000 < a
  · have hB : cdrain_B x v c a = -1 := (if_neg p0).trans ((if_neg p1).trans ((if_neg p2).trans (if_pos p3)))
    have hN : ¬ cdrain_B x v c a = 0 := by rw [hB]; decide
    rw [show cdrain_R x v u h c a = -1 from (if_neg hN).trans hB, show cdrain_X x v u h c a = _ from if_neg hN, show cdrain_V x v u h c a = _ from if_neg hN, show cdrain_H x v u h c a = _ from if_neg hN, show draR m c a = -1 from (if_neg hI).trans (if_pos (inI_0r p2 p3)), show draM m c a = m from (if_neg hI).trans (if_pos (inI_0r p2 p3))]
    exact ⟨rfl, r, q2⟩
  have hI2 : ¬ inI a 1 50000 = 0 := inI_1 p2 p3
  have hB : cdrain_B x v c a = 0 := (if_neg p0).trans ((if_neg p1).trans ((if_neg p2).trans (if_neg p3)))
  rw [show cdrain_R x v u h c a = _ from if_pos hB, show cdrain_X x v u h c a = _ from if_pos hB, show cdrain_V x v u h c a = _ from if_pos hB, show cdrain_H x v u h c a = _ from if_pos hB, show draR m c a = _ from (if_neg hI).trans (if_neg hI2), show draM m c a = _ from (if_neg hI).trans (if_neg hI2)]
  have hc : IB 0 3 c := inI_i.mp hI
  have ha : 0 ≤ a.toInt := by
    have := i_nlt p2
    have e1 : (1 : Int32).toInt = 1 := rfl
    omega
  have h2 : SN B v (NM (rememM (NM m)) 1) := h1
  have hf : FR (rememM (NM m)) (NM (rememM (NM m))) := FR.nm _
  generalize rememM (NM m) = y at h2 hf q1
  rcases IB_4 hc with rfl | rfl | rfl | rfl
  · obtain ⟨g1, g2, g3⟩ := dr_S0 h2 ha
    exact ⟨g2.symm, q1.fr g1 (Int.le_refl _) (hf.tr g3), q2⟩
  · obtain ⟨g1, g2, g3⟩ := dr_S1 h2 ha
    exact ⟨g2.symm, q1.fr g1 (Int.le_refl _) (hf.tr g3), q2⟩
  · obtain ⟨g1, g2, g3⟩ := dr_S2 h2 ha
    exact ⟨g2.symm, q1.fr g1 (Int.le_refl _) (hf.tr g3), q2⟩
  · obtain ⟨g1, g2, g3⟩ := dr_S3 h2 ha
    exact ⟨g2.symm, q1.fr g1 (Int.le_refl _) (hf.tr g3), q2⟩
theorem run_S {B : Int} {x v u : pLV} {h : Nat → pLV} {m : pLV} (r : RS B x v u h m) (n : Int32) (hBB : B + 400000 ≤ 2000000000) : crun_R x v u h n = runR m n ∧ RS (B + 400000) (crun_X x v u h n) (crun_V x v u h n) u (crun_H x v u h n) (runM m n) ∧ runOK m n := by
  obtain ⟨q1, q2, q3⟩ := rem_S r.nm
  have h1 : SN B v (rememM (NM m) 1) := q1.1
  by_cases p0 : n < 1
  · have hB : crun_B x v n = -1 := if_pos p0
    have hI : inI n 1 200 = 0 := inI_0l p0
    have hN : ¬ crun_B x v n = 0 := by rw [hB]; decide
    rw [show crun_R x v u h n = -1 from (if_neg hN).trans hB, show crun_X x v u h n = _ from if_neg hN, show crun_V x v u h n = _ from if_neg hN, show crun_H x v u h n = _ from if_neg hN, show runR m n = -1 from if_pos hI, show runM m n = m from if_pos hI]
    exact ⟨rfl, r.up (by omega), q2, Or.inl hI⟩
  by_cases p1 : 200 < n
  · have hB : crun_B x v n = -1 := (if_neg p0).trans (if_pos p1)
    have hI : inI n 1 200 = 0 := inI_0r p0 p1
    have hN : ¬ crun_B x v n = 0 := by rw [hB]; decide
    rw [show crun_R x v u h n = -1 from (if_neg hN).trans hB, show crun_X x v u h n = _ from if_neg hN, show crun_V x v u h n = _ from if_neg hN, show crun_H x v u h n = _ from if_neg hN, show runR m n = -1 from if_pos hI, show runM m n = m from if_pos hI]
    exact ⟨rfl, r.up (by omega), q2, Or.inl hI⟩
  have hI := inI_1 p0 p1
  have hB : crun_B x v n = 0 := (if_neg p0).trans (if_neg p1)
  rw [show crun_R x v u h n = _ from if_pos hB, show crun_X x v u h n = _ from if_pos hB, show crun_V x v u h n = _ from if_pos hB, show crun_H x v u h n = _ from if_pos hB, show runR m n = _ from if_neg hI, show runM m n = _ from if_neg hI]
  have hk : n.toNatClampNeg ≤ 200 := by
    have g0 := i_nlt p0
    have g1 := i_nlt p1
    have e0 : (1 : Int32).toInt = 1 := rfl
    have e1 : (200 : Int32).toInt = 200 := rfl
    have e2 : n.toNatClampNeg = n.toInt.toNat := rfl
    omega
  have h2 : SL B (NL v 0 2) (NL v) (rememM (NM m) 1) := h1
  unfold runOK
  generalize n.toNatClampNeg = k at hk
  have hb : B + 2000 * (k : Int) ≤ 2000000000 := by omega
  obtain ⟨g1, g2⟩ := ticks_S h2 k hb
  have g3 := ticks_OK h2 hb
  refine ⟨?_, q1.fr (SN.up g1 (by omega)) (by omega) g2, q2, Or.inr g3⟩
  rw [ap_eq g1, ap_eq h2]
  rfl
theorem undo_S {B : Int} {x v u : pLV} {h : Nat → pLV} {m : pLV} (r : RS B x v u h m) : cundo_R x v u h = undR m ∧ RS B (cundo_X x v u h) (cundo_V x v u h) u h (undM m) ∧ pOK m ∧ (0 ≤ x 0 3 ∧ x 0 3 ≤ 7) := by
  have q2 := (rem_S r).2.1
  obtain ⟨r1, r2, r3, r4, ⟨s, q, h1, h2, h3, h4, h5, h6⟩, r6⟩ := id r
  have q3 : 0 ≤ x 0 3 ∧ x 0 3 ≤ 7 := by
    rw [h5]
    exact ⟨nI_pos' (by omega), nI_le (a := q) (b := 7) (by omega) (by omega)⟩
  by_cases p : s = 0
  · subst p
    have hB : cundo_B x v = -2 := if_pos (by rw [h3]; decide)
    have hN : ¬ cundo_B x v = 0 := by rw [hB]; decide
    rw [show cundo_R x v u h = -2 from (if_neg hN).trans hB, show cundo_X x v u h = _ from if_neg hN, show cundo_V x v u h = _ from if_neg hN, show undR m = -2 from if_pos h4, show undM m = m from if_pos h4]
    exact ⟨rfl, r, q2, q3⟩
  obtain ⟨t, rfl⟩ : ∃ t, s = t + 1 := ⟨s - 1, by omega⟩
  have hB : cundo_B x v = 0 := if_neg (by rw [h3]; exact nI_le0 (by omega))
  have hM : ¬ m 0 2 = 0 := by
    rw [h4]
    intro e
    have := congrArg Int32.toNatClampNeg e
    rw [nI_clamp (by omega)] at this
    have z0 : Int32.toNatClampNeg 0 = 0 := rfl
    omega
  rw [show cundo_R x v u h = _ from if_pos hB, show cundo_X x v u h = _ from if_pos hB, show cundo_V x v u h = _ from if_pos hB, show undR m = _ from if_neg hM, show undM m = _ from if_neg hM]
  have e4 : m 0 2 - 1 = nI t := by rw [h4, nI_s1]
  have e3 : x 0 4 - 1 = nI t := by rw [h3, nI_s1]
  have eq : prI (x 0 3) = nI ((q + 7) % 8) := by
    rw [h5]
    unfold prI
    by_cases z : q = 0
    · subst z
      rfl
    · obtain ⟨q', rfl⟩ : ∃ q', q = q' + 1 := ⟨q - 1, by omega⟩
      rw [if_neg, nI_s1, show (q' + 1 + 7) % 8 = q' by omega]
      intro e
      have := congrArg Int32.toNatClampNeg e
      rw [nI_clamp (by omega)] at this
      have z0 : Int32.toNatClampNeg 0 = 0 := rfl
      omega
  refine ⟨by rw [e3, e4], ⟨?_, r2, r3, r4, ?_, r6⟩, q2, q3⟩
  · have := h6 0 (by omega)
    rw [h5, nI_clamp (by omega)]
    have g : SN B (cpyV v (h q)) (fun j => m 2 (110 * t + j)) := by
      rw [show (q + 8 - 0) % 8 = q by omega, show t + 1 - 1 - 0 = t by omega] at this
      exact this.cp r1.2.2.2.1.1
    refine g.co (fun j hj => ?_)
    show cpN 110 (fun j => m 2 (110 * (m 0 2 - 1).toNatClampNeg + j)) (m 1) j = _
    unfold cpN
    rw [if_pos hj, e4, nI_clamp (by omega)]
  · refine ⟨t, (q + 7) % 8, by omega, by omega, e3, e4, eq, fun k hk => ?_⟩
    have := h6 (k + 1) (by omega)
    rw [show ((q + 7) % 8 + 8 - k) % 8 = (q + 8 - (k + 1)) % 8 by omega, show t - 1 - k = t + 1 - 1 - (k + 1) by omega]
    exact this
end
