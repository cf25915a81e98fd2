noncomputable section
/-! THE TWO SIDES ARE ALIKE: the sheet, and the tick -/
theorem IB_4 {x : Int32} (h : IB 0 3 x) : x = 0 ∨ x = 1 ∨ x = 2 ∨ x = 3 := by
  obtain ⟨h1, h2⟩ := h
  have : x.toInt = 0 ∨ x.toInt = 1 ∨ x.toInt = 2 ∨ x.toInt = 3 := by omega
  rcases this with q | q | q | q
  · exact Or.inl (Int32.toInt_inj.mp q)
  · exact Or.inr (Or.inl (Int32.toInt_inj.mp q))
  · exact Or.inr (Or.inr (Or.inl (Int32.toInt_inj.mp q)))
  · exact Or.inr (Or.inr (Or.inr (Int32.toInt_inj.mp q)))
set_option maxHeartbeats 1000000 in
theorem pap_S0 {B : Int} {bk : Int32} {v m : pLV} {x : Int32} (h : SL B bk v (m 1)) (hg : v 0 1 = 0) (hx : m 0 9 = x) (h0 : 0 ≤ x.toInt) (h2 : x.toInt ≤ 2000) (hB : B ≤ 2000000000) : SL (B + 2000) bk (cpV v x) (mpA m 1) := by
  have e10 : m 1 10 = 0 := (h.1 10 (by omega)).trans hg
  have e35 : m 1 35 = v 2 0 := h.1 35 (by omega)
  have c1 : cpV v x = vA v 2 (upd (v 2) 0 (v 2 0 + x)) := by
    unfold cpV
    rw [hg, if_neg (by decide), if_neg (by decide)]
    rfl
  have c2 : mpA m 1 = upd (m 1) 35 (m 1 35 + m 0 9) := by
    show upd (m 1) (35 + m 1 10).toNatClampNeg (m 1 (35 + m 1 10).toNatClampNeg + m 0 9) = _
    rw [e10]
    rfl
  have eC : upd (m 1) 35 (m 1 35 + m 0 9) 35 = v 2 0 + x := by
    show m 1 35 + m 0 9 = _
    rw [hx, e35]
  rw [c1, c2]
  obtain ⟨p0, p1, p2, p3, p4⟩ := h.2.2.2.1.2.2.2.2.2
  have es : (v 2 0 + x).toInt = (v 2 0).toInt + x.toInt := i_add (by omega) (by omega)
  refine ⟨by
    intro j hj
    match j, hj with
    | 0, _ => exact h.1 0 (Nat.le_of_ble_eq_true rfl)
    | 1, _ => exact h.1 1 (Nat.le_of_ble_eq_true rfl)
    | 2, _ => exact h.1 2 (Nat.le_of_ble_eq_true rfl)
    | 3, _ => exact h.1 3 (Nat.le_of_ble_eq_true rfl)
    | 4, _ => exact h.1 4 (Nat.le_of_ble_eq_true rfl)
    | 5, _ => exact h.1 5 (Nat.le_of_ble_eq_true rfl)
    | 6, _ => exact h.1 6 (Nat.le_of_ble_eq_true rfl)
    | 7, _ => exact h.1 7 (Nat.le_of_ble_eq_true rfl)
    | 8, _ => exact h.1 8 (Nat.le_of_ble_eq_true rfl)
    | 9, _ => exact h.1 9 (Nat.le_of_ble_eq_true rfl)
    | 10, _ => exact h.1 10 (Nat.le_of_ble_eq_true rfl)
    | 11, _ => exact h.1 11 (Nat.le_of_ble_eq_true rfl)
    | 12, _ => exact h.1 12 (Nat.le_of_ble_eq_true rfl)
    | 13, _ => exact h.1 13 (Nat.le_of_ble_eq_true rfl)
    | 14, _ => exact h.1 14 (Nat.le_of_ble_eq_true rfl)
    | 15, _ => exact h.1 15 (Nat.le_of_ble_eq_true rfl)
    | 16, _ => exact h.1 16 (Nat.le_of_ble_eq_true rfl)
    | 17, _ => exact h.1 17 (Nat.le_of_ble_eq_true rfl)
    | 18, _ => exact h.1 18 (Nat.le_of_ble_eq_true rfl)
    | 19, _ => exact h.1 19 (Nat.le_of_ble_eq_true rfl)
    | 20, _ => exact h.1 20 (Nat.le_of_ble_eq_true rfl)
    | 21, _ => exact h.1 21 (Nat.le_of_ble_eq_true rfl)
    | 22, _ => exact h.1 22 (Nat.le_of_ble_eq_true rfl)
    | 23, _ => exact h.1 23 (Nat.le_of_ble_eq_true rfl)
    | 24, _ => exact h.1 24 (Nat.le_of_ble_eq_true rfl)
    | 25, _ => exact h.1 25 (Nat.le_of_ble_eq_true rfl)
    | 26, _ => exact h.1 26 (Nat.le_of_ble_eq_true rfl)
    | 27, _ => exact h.1 27 (Nat.le_of_ble_eq_true rfl)
    | 28, _ => exact h.1 28 (Nat.le_of_ble_eq_true rfl)
    | 29, _ => exact h.1 29 (Nat.le_of_ble_eq_true rfl)
    | 30, _ => exact h.1 30 (Nat.le_of_ble_eq_true rfl)
    | 31, _ => exact h.1 31 (Nat.le_of_ble_eq_true rfl)
    | 32, _ => exact h.1 32 (Nat.le_of_ble_eq_true rfl)
    | 33, _ => exact h.1 33 (Nat.le_of_ble_eq_true rfl)
    | 34, _ => exact h.1 34 (Nat.le_of_ble_eq_true rfl)
    | 35, _ => exact eC
    | 36, _ => exact h.1 36 (Nat.le_of_ble_eq_true rfl)
    | 37, _ => exact h.1 37 (Nat.le_of_ble_eq_true rfl)
    | 38, _ => exact h.1 38 (Nat.le_of_ble_eq_true rfl)
    | 39, _ => exact h.1 39 (Nat.le_of_ble_eq_true rfl)
    | j + 40, hj => exact absurd hj (by omega), h.2.1.hi rfl rfl (upd_hi (by omega)), h.2.2.1.hi rfl rfl rfl rfl (upd_hi (by omega)), ⟨h.2.2.2.1.1, h.2.2.2.1.2.1, h.2.2.2.1.2.2.1, h.2.2.2.1.2.2.2.1, h.2.2.2.1.2.2.2.2.1, ?_⟩, h.2.2.2.2⟩
  show 0 ≤ (v 2 0 + x).toInt ∧ 0 ≤ (v 2 1).toInt ∧ 0 ≤ (v 2 2).toInt ∧ 0 ≤ (v 2 3).toInt ∧ (v 2 0 + x).toInt + (v 2 1).toInt + (v 2 2).toInt + (v 2 3).toInt ≤ B + 2000
  rw [es]
  omega
set_option maxHeartbeats 1000000 in
theorem pap_S1 {B : Int} {bk : Int32} {v m : pLV} {x : Int32} (h : SL B bk v (m 1)) (hg : v 0 1 = 1) (hx : m 0 9 = x) (h0 : 0 ≤ x.toInt) (h2 : x.toInt ≤ 2000) (hB : B ≤ 2000000000) : SL (B + 2000) bk (cpV v x) (mpA m 1) := by
  have e10 : m 1 10 = 1 := (h.1 10 (by omega)).trans hg
  have e35 : m 1 36 = v 2 1 := h.1 36 (by omega)
  have c1 : cpV v x = vA v 2 (upd (v 2) 1 (v 2 1 + x)) := by
    unfold cpV
    rw [hg, if_neg (by decide), if_neg (by decide)]
    rfl
  have c2 : mpA m 1 = upd (m 1) 36 (m 1 36 + m 0 9) := by
    show upd (m 1) (35 + m 1 10).toNatClampNeg (m 1 (35 + m 1 10).toNatClampNeg + m 0 9) = _
    rw [e10]
    rfl
  have eC : upd (m 1) 36 (m 1 36 + m 0 9) 36 = v 2 1 + x := by
    show m 1 36 + m 0 9 = _
    rw [hx, e35]
  rw [c1, c2]
  obtain ⟨p0, p1, p2, p3, p4⟩ := h.2.2.2.1.2.2.2.2.2
  have es : (v 2 1 + x).toInt = (v 2 1).toInt + x.toInt := i_add (by omega) (by omega)
  refine ⟨by
    intro j hj
    match j, hj with
    | 0, _ => exact h.1 0 (Nat.le_of_ble_eq_true rfl)
    | 1, _ => exact h.1 1 (Nat.le_of_ble_eq_true rfl)
    | 2, _ => exact h.1 2 (Nat.le_of_ble_eq_true rfl)
    | 3, _ => exact h.1 3 (Nat.le_of_ble_eq_true rfl)
    | 4, _ => exact h.1 4 (Nat.le_of_ble_eq_true rfl)
    | 5, _ => exact h.1 5 (Nat.le_of_ble_eq_true rfl)
    | 6, _ => exact h.1 6 (Nat.le_of_ble_eq_true rfl)
    | 7, _ => exact h.1 7 (Nat.le_of_ble_eq_true rfl)
    | 8, _ => exact h.1 8 (Nat.le_of_ble_eq_true rfl)
    | 9, _ => exact h.1 9 (Nat.le_of_ble_eq_true rfl)
    | 10, _ => exact h.1 10 (Nat.le_of_ble_eq_true rfl)
    | 11, _ => exact h.1 11 (Nat.le_of_ble_eq_true rfl)
    | 12, _ => exact h.1 12 (Nat.le_of_ble_eq_true rfl)
    | 13, _ => exact h.1 13 (Nat.le_of_ble_eq_true rfl)
    | 14, _ => exact h.1 14 (Nat.le_of_ble_eq_true rfl)
    | 15, _ => exact h.1 15 (Nat.le_of_ble_eq_true rfl)
    | 16, _ => exact h.1 16 (Nat.le_of_ble_eq_true rfl)
    | 17, _ => exact h.1 17 (Nat.le_of_ble_eq_true rfl)
    | 18, _ => exact h.1 18 (Nat.le_of_ble_eq_true rfl)
    | 19, _ => exact h.1 19 (Nat.le_of_ble_eq_true rfl)
    | 20, _ => exact h.1 20 (Nat.le_of_ble_eq_true rfl)
    | 21, _ => exact h.1 21 (Nat.le_of_ble_eq_true rfl)
    | 22, _ => exact h.1 22 (Nat.le_of_ble_eq_true rfl)
    | 23, _ => exact h.1 23 (Nat.le_of_ble_eq_true rfl)
    | 24, _ => exact h.1 24 (Nat.le_of_ble_eq_true rfl)
    | 25, _ => exact h.1 25 (Nat.le_of_ble_eq_true rfl)
    | 26, _ => exact h.1 26 (Nat.le_of_ble_eq_true rfl)
    | 27, _ => exact h.1 27 (Nat.le_of_ble_eq_true rfl)
    | 28, _ => exact h.1 28 (Nat.le_of_ble_eq_true rfl)
    | 29, _ => exact h.1 29 (Nat.le_of_ble_eq_true rfl)
    | 30, _ => exact h.1 30 (Nat.le_of_ble_eq_true rfl)
    | 31, _ => exact h.1 31 (Nat.le_of_ble_eq_true rfl)
    | 32, _ => exact h.1 32 (Nat.le_of_ble_eq_true rfl)
    | 33, _ => exact h.1 33 (Nat.le_of_ble_eq_true rfl)
    | 34, _ => exact h.1 34 (Nat.le_of_ble_eq_true rfl)
    | 35, _ => exact h.1 35 (Nat.le_of_ble_eq_true rfl)
    | 36, _ => exact eC
    | 37, _ => exact h.1 37 (Nat.le_of_ble_eq_true rfl)
    | 38, _ => exact h.1 38 (Nat.le_of_ble_eq_true rfl)
    | 39, _ => exact h.1 39 (Nat.le_of_ble_eq_true rfl)
    | j + 40, hj => exact absurd hj (by omega), h.2.1.hi rfl rfl (upd_hi (by omega)), h.2.2.1.hi rfl rfl rfl rfl (upd_hi (by omega)), ⟨h.2.2.2.1.1, h.2.2.2.1.2.1, h.2.2.2.1.2.2.1, h.2.2.2.1.2.2.2.1, h.2.2.2.1.2.2.2.2.1, ?_⟩, h.2.2.2.2⟩
  show 0 ≤ (v 2 0).toInt ∧ 0 ≤ (v 2 1 + x).toInt ∧ 0 ≤ (v 2 2).toInt ∧ 0 ≤ (v 2 3).toInt ∧ (v 2 0).toInt + (v 2 1 + x).toInt + (v 2 2).toInt + (v 2 3).toInt ≤ B + 2000
  rw [es]
  omega
set_option maxHeartbeats 1000000 in
theorem pap_S2 {B : Int} {bk : Int32} {v m : pLV} {x : Int32} (h : SL B bk v (m 1)) (hg : v 0 1 = 2) (hx : m 0 9 = x) (h0 : 0 ≤ x.toInt) (h2 : x.toInt ≤ 2000) (hB : B ≤ 2000000000) : SL (B + 2000) bk (cpV v x) (mpA m 1) := by
  have e10 : m 1 10 = 2 := (h.1 10 (by omega)).trans hg
  have e35 : m 1 37 = v 2 2 := h.1 37 (by omega)
  have c1 : cpV v x = vA v 2 (upd (v 2) 2 (v 2 2 + x)) := by
    unfold cpV
    rw [hg, if_neg (by decide), if_neg (by decide)]
    rfl
  have c2 : mpA m 1 = upd (m 1) 37 (m 1 37 + m 0 9) := by
    show upd (m 1) (35 + m 1 10).toNatClampNeg (m 1 (35 + m 1 10).toNatClampNeg + m 0 9) = _
    rw [e10]
    rfl
  have eC : upd (m 1) 37 (m 1 37 + m 0 9) 37 = v 2 2 + x := by
    show m 1 37 + m 0 9 = _
    rw [hx, e35]
  rw [c1, c2]
  obtain ⟨p0, p1, p2, p3, p4⟩ := h.2.2.2.1.2.2.2.2.2
  have es : (v 2 2 + x).toInt = (v 2 2).toInt + x.toInt := i_add (by omega) (by omega)
  refine ⟨by
    intro j hj
    match j, hj with
    | 0, _ => exact h.1 0 (Nat.le_of_ble_eq_true rfl)
    | 1, _ => exact h.1 1 (Nat.le_of_ble_eq_true rfl)
    | 2, _ => exact h.1 2 (Nat.le_of_ble_eq_true rfl)
    | 3, _ => exact h.1 3 (Nat.le_of_ble_eq_true rfl)
    | 4, _ => exact h.1 4 (Nat.le_of_ble_eq_true rfl)
    | 5, _ => exact h.1 5 (Nat.le_of_ble_eq_true rfl)
    | 6, _ => exact h.1 6 (Nat.le_of_ble_eq_true rfl)
    | 7, _ => exact h.1 7 (Nat.le_of_ble_eq_true rfl)
    | 8, _ => exact h.1 8 (Nat.le_of_ble_eq_true rfl)
    | 9, _ => exact h.1 9 (Nat.le_of_ble_eq_true rfl)
    | 10, _ => exact h.1 10 (Nat.le_of_ble_eq_true rfl)
    | 11, _ => exact h.1 11 (Nat.le_of_ble_eq_true rfl)
    | 12, _ => exact h.1 12 (Nat.le_of_ble_eq_true rfl)
    | 13, _ => exact h.1 13 (Nat.le_of_ble_eq_true rfl)
    | 14, _ => exact h.1 14 (Nat.le_of_ble_eq_true rfl)
    | 15, _ => exact h.1 15 (Nat.le_of_ble_eq_true rfl)
    | 16, _ => exact h.1 16 (Nat.le_of_ble_eq_true rfl)
    | 17, _ => exact h.1 17 (Nat.le_of_ble_eq_true rfl)
    | 18, _ => exact h.1 18 (Nat.le_of_ble_eq_true rfl)
    | 19, _ => exact h.1 19 (Nat.le_of_ble_eq_true rfl)
    | 20, _ => exact h.1 20 (Nat.le_of_ble_eq_true rfl)
    | 21, _ => exact h.1 21 (Nat.le_of_ble_eq_true rfl)
    | 22, _ => exact h.1 22 (Nat.le_of_ble_eq_true rfl)
    | 23, _ => exact h.1 23 (Nat.le_of_ble_eq_true rfl)
    | 24, _ => exact h.1 24 (Nat.le_of_ble_eq_true rfl)
    | 25, _ => exact h.1 25 (Nat.le_of_ble_eq_true rfl)
    | 26, _ => exact h.1 26 (Nat.le_of_ble_eq_true rfl)
    | 27, _ => exact h.1 27 (Nat.le_of_ble_eq_true rfl)
    | 28, _ => exact h.1 28 (Nat.le_of_ble_eq_true rfl)
    | 29, _ => exact h.1 29 (Nat.le_of_ble_eq_true rfl)
    | 30, _ => exact h.1 30 (Nat.le_of_ble_eq_true rfl)
    | 31, _ => exact h.1 31 (Nat.le_of_ble_eq_true rfl)
    | 32, _ => exact h.1 32 (Nat.le_of_ble_eq_true rfl)
    | 33, _ => exact h.1 33 (Nat.le_of_ble_eq_true rfl)
    | 34, _ => exact h.1 34 (Nat.le_of_ble_eq_true rfl)
    | 35, _ => exact h.1 35 (Nat.le_of_ble_eq_true rfl)
    | 36, _ => exact h.1 36 (Nat.le_of_ble_eq_true rfl)
    | 37, _ => exact eC
    | 38, _ => exact h.1 38 (Nat.le_of_ble_eq_true rfl)
    | 39, _ => exact h.1 39 (Nat.le_of_ble_eq_true rfl)
    | j + 40, hj => exact absurd hj (by omega), h.2.1.hi rfl rfl (upd_hi (by omega)), h.2.2.1.hi rfl rfl rfl rfl (upd_hi (by omega)), ⟨h.2.2.2.1.1, h.2.2.2.1.2.1, h.2.2.2.1.2.2.1, h.2.2.2.1.2.2.2.1, h.2.2.2.1.2.2.2.2.1, ?_⟩, h.2.2.2.2⟩
  show 0 ≤ (v 2 0).toInt ∧ 0 ≤ (v 2 1).toInt ∧ 0 ≤ (v 2 2 + x).toInt ∧ 0 ≤ (v 2 3).toInt ∧ (v 2 0).toInt + (v 2 1).toInt + (v 2 2 + x).toInt + (v 2 3).toInt ≤ B + 2000
  rw [es]
  omega
set_option maxHeartbeats 1000000 in
theorem pap_S3 {B : Int} {bk : Int32} {v m : pLV} {x : Int32} (h : SL B bk v (m 1)) (hg : v 0 1 = 3) (hx : m 0 9 = x) (h0 : 0 ≤ x.toInt) (h2 : x.toInt ≤ 2000) (hB : B ≤ 2000000000) : SL (B + 2000) bk (cpV v x) (mpA m 1) := by
  have e10 : m 1 10 = 3 := (h.1 10 (by omega)).trans hg
  have e35 : m 1 38 = v 2 3 := h.1 38 (by omega)
  have c1 : cpV v x = vA v 2 (upd (v 2) 3 (v 2 3 + x)) := by
    unfold cpV
    rw [hg, if_neg (by decide), if_neg (by decide)]
    rfl
  have c2 : mpA m 1 = upd (m 1) 38 (m 1 38 + m 0 9) := by
    show upd (m 1) (35 + m 1 10).toNatClampNeg (m 1 (35 + m 1 10).toNatClampNeg + m 0 9) = _
    rw [e10]
    rfl
  have eC : upd (m 1) 38 (m 1 38 + m 0 9) 38 = v 2 3 + x := by
    show m 1 38 + m 0 9 = _
    rw [hx, e35]
  rw [c1, c2]
  obtain ⟨p0, p1, p2, p3, p4⟩ := h.2.2.2.1.2.2.2.2.2
  have es : (v 2 3 + x).toInt = (v 2 3).toInt + x.toInt := i_add (by omega) (by omega)
  refine ⟨by
    intro j hj
    match j, hj with
    | 0, _ => exact h.1 0 (Nat.le_of_ble_eq_true rfl)
    | 1, _ => exact h.1 1 (Nat.le_of_ble_eq_true rfl)
    | 2, _ => exact h.1 2 (Nat.le_of_ble_eq_true rfl)
    | 3, _ => exact h.1 3 (Nat.le_of_ble_eq_true rfl)
    | 4, _ => exact h.1 4 (Nat.le_of_ble_eq_true rfl)
    | 5, _ => exact h.1 5 (Nat.le_of_ble_eq_true rfl)
    | 6, _ => exact h.1 6 (Nat.le_of_ble_eq_true rfl)
    | 7, _ => exact h.1 7 (Nat.le_of_ble_eq_true rfl)
    | 8, _ => exact h.1 8 (Nat.le_of_ble_eq_true rfl)
    | 9, _ => exact h.1 9 (Nat.le_of_ble_eq_true rfl)
    | 10, _ => exact h.1 10 (Nat.le_of_ble_eq_true rfl)
    | 11, _ => exact h.1 11 (Nat.le_of_ble_eq_true rfl)
    | 12, _ => exact h.1 12 (Nat.le_of_ble_eq_true rfl)
    | 13, _ => exact h.1 13 (Nat.le_of_ble_eq_true rfl)
    | 14, _ => exact h.1 14 (Nat.le_of_ble_eq_true rfl)
    | 15, _ => exact h.1 15 (Nat.le_of_ble_eq_true rfl)
    | 16, _ => exact h.1 16 (Nat.le_of_ble_eq_true rfl)
    | 17, _ => exact h.1 17 (Nat.le_of_ble_eq_true rfl)
    | 18, _ => exact h.1 18 (Nat.le_of_ble_eq_true rfl)
    | 19, _ => exact h.1 19 (Nat.le_of_ble_eq_true rfl)
    | 20, _ => exact h.1 20 (Nat.le_of_ble_eq_true rfl)
    | 21, _ => exact h.1 21 (Nat.le_of_ble_eq_true rfl)
    | 22, _ => exact h.1 22 (Nat.le_of_ble_eq_true rfl)
    | 23, _ => exact h.1 23 (Nat.le_of_ble_eq_true rfl)
    | 24, _ => exact h.1 24 (Nat.le_of_ble_eq_true rfl)
    | 25, _ => exact h.1 25 (Nat.le_of_ble_eq_true rfl)
    | 26, _ => exact h.1 26 (Nat.le_of_ble_eq_true rfl)
    | 27, _ => exact h.1 27 (Nat.le_of_ble_eq_true rfl)
    | 28, _ => exact h.1 28 (Nat.le_of_ble_eq_true rfl)
    | 29, _ => exact h.1 29 (Nat.le_of_ble_eq_true rfl)
    | 30, _ => exact h.1 30 (Nat.le_of_ble_eq_true rfl)
    | 31, _ => exact h.1 31 (Nat.le_of_ble_eq_true rfl)
    | 32, _ => exact h.1 32 (Nat.le_of_ble_eq_true rfl)
    | 33, _ => exact h.1 33 (Nat.le_of_ble_eq_true rfl)
    | 34, _ => exact h.1 34 (Nat.le_of_ble_eq_true rfl)
    | 35, _ => exact h.1 35 (Nat.le_of_ble_eq_true rfl)
    | 36, _ => exact h.1 36 (Nat.le_of_ble_eq_true rfl)
    | 37, _ => exact h.1 37 (Nat.le_of_ble_eq_true rfl)
    | 38, _ => exact eC
    | 39, _ => exact h.1 39 (Nat.le_of_ble_eq_true rfl)
    | j + 40, hj => exact absurd hj (by omega), h.2.1.hi rfl rfl (upd_hi (by omega)), h.2.2.1.hi rfl rfl rfl rfl (upd_hi (by omega)), ⟨h.2.2.2.1.1, h.2.2.2.1.2.1, h.2.2.2.1.2.2.1, h.2.2.2.1.2.2.2.1, h.2.2.2.1.2.2.2.2.1, ?_⟩, h.2.2.2.2⟩
  show 0 ≤ (v 2 0).toInt ∧ 0 ≤ (v 2 1).toInt ∧ 0 ≤ (v 2 2).toInt ∧ 0 ≤ (v 2 3 + x).toInt ∧ (v 2 0).toInt + (v 2 1).toInt + (v 2 2).toInt + (v 2 3 + x).toInt ≤ B + 2000
  rw [es]
  omega
end
