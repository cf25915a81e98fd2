noncomputable section
theorem dc_eq {x : Int32} (h : 0 ≤ x.toInt) : dcI x = mxI 0 (x - 1) ∧ (dcI x).toInt = max 0 (x.toInt - 1) := by
  have b := Int32.toInt_lt x
  have e0 : (0 : Int32).toInt = 0 := rfl
  have e1 : (1 : Int32).toInt = 1 := rfl
  have es : (x - 1).toInt = x.toInt - 1 := by rw [i_sub (by omega) (by omega), e1]
  have hd : (dcI x).toInt = max 0 (x.toInt - 1) := by
    unfold dcI
    by_cases q : x ≤ 0
    · rw [if_pos q, Int32.sub_zero]
      rw [ile] at q
      omega
    · rw [if_neg q, es]
      rw [ile] at q
      omega
  refine ⟨?_, hd⟩
  rw [ieq, hd, mxI_i, es, e0]
set_option maxHeartbeats 1000000 in
theorem t7_S {B : Int} {bk : Int32} {v m : pLV} (h : SL B bk v (m 1)) : SL B (dcI bk) (tk8 v) (t8M m 1) ∧ FR m (t8M m) ∧ t8M m 0 12 = m 0 12 ∧ tk8 v 0 2 = mxI 0 (v 0 2 - 1) := by
  have hgr := h.2.2.2.1.2.2.2.1
  have e11 : m 1 11 = bk := h.1 11 (by omega)
  have e12 : m 1 12 = v 0 3 := h.1 12 (by omega)
  have d0 := dc_eq h.2.2.2.2
  have d2 := dc_eq hgr.2.1
  have d3 := dc_eq hgr.2.2.1
  have c11 : t8M m 1 11 = dcI bk := by
    show dcI (m 1 11) = _
    rw [e11]
  have c12 : t8M m 1 12 = mxI 0 (v 0 3 - 1) := by
    show dcI (m 1 12) = _
    rw [e12, d3.1]
  refine ⟨⟨by
    intro j hj
    match j, hj with
    | 0, _ => exact h.1 0 (Nat.le_of_ble_eq_true rfl)
    | 1, _ => exact h.1 1 (Nat.le_of_ble_eq_true rfl)
    | 2, _ => exact h.1 2 (Nat.le_of_ble_eq_true rfl)
    | 3, _ => exact h.1 3 (Nat.le_of_ble_eq_true rfl)
    | 4, _ => exact h.1 4 (Nat.le_of_ble_eq_true rfl)
    | 5, _ => exact h.1 5 (Nat.le_of_ble_eq_true rfl)
    | 6, _ => exact h.1 6 (Nat.le_of_ble_eq_true rfl)
    | 7, _ => exact h.1 7 (Nat.le_of_ble_eq_true rfl)
    | 8, _ => exact h.1 8 (Nat.le_of_ble_eq_true rfl)
    | 9, _ => exact h.1 9 (Nat.le_of_ble_eq_true rfl)
    | 10, _ => exact h.1 10 (Nat.le_of_ble_eq_true rfl)
    | 11, _ => exact c11
    | 12, _ => exact c12
    | 13, _ => exact h.1 13 (Nat.le_of_ble_eq_true rfl)
    | 14, _ => exact h.1 14 (Nat.le_of_ble_eq_true rfl)
    | 15, _ => exact h.1 15 (Nat.le_of_ble_eq_true rfl)
    | 16, _ => exact h.1 16 (Nat.le_of_ble_eq_true rfl)
    | 17, _ => exact h.1 17 (Nat.le_of_ble_eq_true rfl)
    | 18, _ => exact h.1 18 (Nat.le_of_ble_eq_true rfl)
    | 19, _ => exact h.1 19 (Nat.le_of_ble_eq_true rfl)
    | 20, _ => exact h.1 20 (Nat.le_of_ble_eq_true rfl)
    | 21, _ => exact h.1 21 (Nat.le_of_ble_eq_true rfl)
    | 22, _ => exact h.1 22 (Nat.le_of_ble_eq_true rfl)
    | 23, _ => exact h.1 23 (Nat.le_of_ble_eq_true rfl)
    | 24, _ => exact h.1 24 (Nat.le_of_ble_eq_true rfl)
    | 25, _ => exact h.1 25 (Nat.le_of_ble_eq_true rfl)
    | 26, _ => exact h.1 26 (Nat.le_of_ble_eq_true rfl)
    | 27, _ => exact h.1 27 (Nat.le_of_ble_eq_true rfl)
    | 28, _ => exact h.1 28 (Nat.le_of_ble_eq_true rfl)
    | 29, _ => exact h.1 29 (Nat.le_of_ble_eq_true rfl)
    | 30, _ => exact h.1 30 (Nat.le_of_ble_eq_true rfl)
    | 31, _ => exact h.1 31 (Nat.le_of_ble_eq_true rfl)
    | 32, _ => exact h.1 32 (Nat.le_of_ble_eq_true rfl)
    | 33, _ => exact h.1 33 (Nat.le_of_ble_eq_true rfl)
    | 34, _ => exact h.1 34 (Nat.le_of_ble_eq_true rfl)
    | 35, _ => exact h.1 35 (Nat.le_of_ble_eq_true rfl)
    | 36, _ => exact h.1 36 (Nat.le_of_ble_eq_true rfl)
    | 37, _ => exact h.1 37 (Nat.le_of_ble_eq_true rfl)
    | 38, _ => exact h.1 38 (Nat.le_of_ble_eq_true rfl)
    | 39, _ => exact h.1 39 (Nat.le_of_ble_eq_true rfl)
    | j + 40, hj => exact absurd hj (by omega), h.2.1.hi rfl rfl (fun j hj => (upd_hi (by omega) j hj).trans (upd_hi (by omega) j hj)), h.2.2.1.hi rfl rfl rfl rfl (fun j hj => (upd_hi (by omega) j hj).trans (upd_hi (by omega) j hj)), ⟨h.2.2.2.1.1, h.2.2.2.1.2.1, h.2.2.2.1.2.2.1, ⟨hgr.1, ?_, ?_, hgr.2.2.2⟩, h.2.2.2.1.2.2.2.2⟩, by rw [d0.2]; omega⟩, ⟨rfl, rfl, rfl, rfl, rfl, rfl, rfl, rfl, rfl, rfl⟩, rfl, rfl⟩
  · show 0 ≤ (mxI 0 (v 0 2 - 1)).toInt
    rw [← d2.1, d2.2]
    omega
  · show 0 ≤ (mxI 0 (v 0 3 - 1)).toInt
    rw [← d3.1, d3.2]
    omega
def nsV0 (v : pLV) : pLV := vS v 12 (mxI (v 0 12) (v 0 10 + v 0 11))
theorem ns_S0 {B : Int} {bk : Int32} {v m : pLV} (h : SL B bk v (m 1)) : SL B bk (nsV0 v) (nsM 0 m 1) ∧ FR m (nsM 0 m) ∧ nsM 0 m 0 12 = m 0 12 := by
  have e1 : m 1 18 = v 0 10 := h.1 18 (by omega)
  have e2 : m 1 19 = v 0 11 := h.1 19 (by omega)
  have e3 : m 1 20 = v 0 12 := h.1 20 (by omega)
  have eC : nsM 0 m 1 20 = mxI (v 0 12) (v 0 10 + v 0 11) := by
    show (if m 1 18 + m 1 19 ≤ m 1 20 then m 1 20 else m 1 18 + m 1 19) = _
    rw [e1, e2, e3]
    unfold mxI
    by_cases q : v 0 10 + v 0 11 ≤ v 0 12
    · rw [if_pos q, if_neg (Int32.not_lt.mpr q)]
    · rw [if_neg q, if_pos (Int32.not_le.mp q)]
  exact ⟨⟨by
    intro j hj
    match j, hj with
    | 0, _ => exact h.1 0 (Nat.le_of_ble_eq_true rfl)
    | 1, _ => exact h.1 1 (Nat.le_of_ble_eq_true rfl)
    | 2, _ => exact h.1 2 (Nat.le_of_ble_eq_true rfl)
    | 3, _ => exact h.1 3 (Nat.le_of_ble_eq_true rfl)
    | 4, _ => exact h.1 4 (Nat.le_of_ble_eq_true rfl)
    | 5, _ => exact h.1 5 (Nat.le_of_ble_eq_true rfl)
    | 6, _ => exact h.1 6 (Nat.le_of_ble_eq_true rfl)
    | 7, _ => exact h.1 7 (Nat.le_of_ble_eq_true rfl)
    | 8, _ => exact h.1 8 (Nat.le_of_ble_eq_true rfl)
    | 9, _ => exact h.1 9 (Nat.le_of_ble_eq_true rfl)
    | 10, _ => exact h.1 10 (Nat.le_of_ble_eq_true rfl)
    | 11, _ => exact h.1 11 (Nat.le_of_ble_eq_true rfl)
    | 12, _ => exact h.1 12 (Nat.le_of_ble_eq_true rfl)
    | 13, _ => exact h.1 13 (Nat.le_of_ble_eq_true rfl)
    | 14, _ => exact h.1 14 (Nat.le_of_ble_eq_true rfl)
    | 15, _ => exact h.1 15 (Nat.le_of_ble_eq_true rfl)
    | 16, _ => exact h.1 16 (Nat.le_of_ble_eq_true rfl)
    | 17, _ => exact h.1 17 (Nat.le_of_ble_eq_true rfl)
    | 18, _ => exact h.1 18 (Nat.le_of_ble_eq_true rfl)
    | 19, _ => exact h.1 19 (Nat.le_of_ble_eq_true rfl)
    | 20, _ => exact eC
    | 21, _ => exact h.1 21 (Nat.le_of_ble_eq_true rfl)
    | 22, _ => exact h.1 22 (Nat.le_of_ble_eq_true rfl)
    | 23, _ => exact h.1 23 (Nat.le_of_ble_eq_true rfl)
    | 24, _ => exact h.1 24 (Nat.le_of_ble_eq_true rfl)
    | 25, _ => exact h.1 25 (Nat.le_of_ble_eq_true rfl)
    | 26, _ => exact h.1 26 (Nat.le_of_ble_eq_true rfl)
    | 27, _ => exact h.1 27 (Nat.le_of_ble_eq_true rfl)
    | 28, _ => exact h.1 28 (Nat.le_of_ble_eq_true rfl)
    | 29, _ => exact h.1 29 (Nat.le_of_ble_eq_true rfl)
    | 30, _ => exact h.1 30 (Nat.le_of_ble_eq_true rfl)
    | 31, _ => exact h.1 31 (Nat.le_of_ble_eq_true rfl)
    | 32, _ => exact h.1 32 (Nat.le_of_ble_eq_true rfl)
    | 33, _ => exact h.1 33 (Nat.le_of_ble_eq_true rfl)
    | 34, _ => exact h.1 34 (Nat.le_of_ble_eq_true rfl)
    | 35, _ => exact h.1 35 (Nat.le_of_ble_eq_true rfl)
    | 36, _ => exact h.1 36 (Nat.le_of_ble_eq_true rfl)
    | 37, _ => exact h.1 37 (Nat.le_of_ble_eq_true rfl)
    | 38, _ => exact h.1 38 (Nat.le_of_ble_eq_true rfl)
    | 39, _ => exact h.1 39 (Nat.le_of_ble_eq_true rfl)
    | j + 40, hj => exact absurd hj (by omega), h.2.1.hi rfl rfl (upd_hi (by omega)), h.2.2.1.hi rfl rfl rfl rfl (upd_hi (by omega)), h.2.2.2⟩, ⟨rfl, rfl, rfl, rfl, rfl, rfl, rfl, rfl, rfl, rfl⟩, rfl⟩
def nsV1 (v : pLV) : pLV := vS v 15 (mxI (v 0 15) (v 0 13 + v 0 14))
theorem ns_S1 {B : Int} {bk : Int32} {v m : pLV} (h : SL B bk v (m 1)) : SL B bk (nsV1 v) (nsM 1 m 1) ∧ FR m (nsM 1 m) ∧ nsM 1 m 0 12 = m 0 12 := by
  have e1 : m 1 21 = v 0 13 := h.1 21 (by omega)
  have e2 : m 1 22 = v 0 14 := h.1 22 (by omega)
  have e3 : m 1 23 = v 0 15 := h.1 23 (by omega)
  have eC : nsM 1 m 1 23 = mxI (v 0 15) (v 0 13 + v 0 14) := by
    show (if m 1 21 + m 1 22 ≤ m 1 23 then m 1 23 else m 1 21 + m 1 22) = _
    rw [e1, e2, e3]
    unfold mxI
    by_cases q : v 0 13 + v 0 14 ≤ v 0 15
    · rw [if_pos q, if_neg (Int32.not_lt.mpr q)]
    · rw [if_neg q, if_pos (Int32.not_le.mp q)]
  exact ⟨⟨by
    intro j hj
    match j, hj with
    | 0, _ => exact h.1 0 (Nat.le_of_ble_eq_true rfl)
    | 1, _ => exact h.1 1 (Nat.le_of_ble_eq_true rfl)
    | 2, _ => exact h.1 2 (Nat.le_of_ble_eq_true rfl)
    | 3, _ => exact h.1 3 (Nat.le_of_ble_eq_true rfl)
    | 4, _ => exact h.1 4 (Nat.le_of_ble_eq_true rfl)
    | 5, _ => exact h.1 5 (Nat.le_of_ble_eq_true rfl)
    | 6, _ => exact h.1 6 (Nat.le_of_ble_eq_true rfl)
    | 7, _ => exact h.1 7 (Nat.le_of_ble_eq_true rfl)
    | 8, _ => exact h.1 8 (Nat.le_of_ble_eq_true rfl)
    | 9, _ => exact h.1 9 (Nat.le_of_ble_eq_true rfl)
    | 10, _ => exact h.1 10 (Nat.le_of_ble_eq_true rfl)
    | 11, _ => exact h.1 11 (Nat.le_of_ble_eq_true rfl)
    | 12, _ => exact h.1 12 (Nat.le_of_ble_eq_true rfl)
    | 13, _ => exact h.1 13 (Nat.le_of_ble_eq_true rfl)
    | 14, _ => exact h.1 14 (Nat.le_of_ble_eq_true rfl)
    | 15, _ => exact h.1 15 (Nat.le_of_ble_eq_true rfl)
    | 16, _ => exact h.1 16 (Nat.le_of_ble_eq_true rfl)
    | 17, _ => exact h.1 17 (Nat.le_of_ble_eq_true rfl)
    | 18, _ => exact h.1 18 (Nat.le_of_ble_eq_true rfl)
    | 19, _ => exact h.1 19 (Nat.le_of_ble_eq_true rfl)
    | 20, _ => exact h.1 20 (Nat.le_of_ble_eq_true rfl)
    | 21, _ => exact h.1 21 (Nat.le_of_ble_eq_true rfl)
    | 22, _ => exact h.1 22 (Nat.le_of_ble_eq_true rfl)
    | 23, _ => exact eC
    | 24, _ => exact h.1 24 (Nat.le_of_ble_eq_true rfl)
    | 25, _ => exact h.1 25 (Nat.le_of_ble_eq_true rfl)
    | 26, _ => exact h.1 26 (Nat.le_of_ble_eq_true rfl)
    | 27, _ => exact h.1 27 (Nat.le_of_ble_eq_true rfl)
    | 28, _ => exact h.1 28 (Nat.le_of_ble_eq_true rfl)
    | 29, _ => exact h.1 29 (Nat.le_of_ble_eq_true rfl)
    | 30, _ => exact h.1 30 (Nat.le_of_ble_eq_true rfl)
    | 31, _ => exact h.1 31 (Nat.le_of_ble_eq_true rfl)
    | 32, _ => exact h.1 32 (Nat.le_of_ble_eq_true rfl)
    | 33, _ => exact h.1 33 (Nat.le_of_ble_eq_true rfl)
    | 34, _ => exact h.1 34 (Nat.le_of_ble_eq_true rfl)
    | 35, _ => exact h.1 35 (Nat.le_of_ble_eq_true rfl)
    | 36, _ => exact h.1 36 (Nat.le_of_ble_eq_true rfl)
    | 37, _ => exact h.1 37 (Nat.le_of_ble_eq_true rfl)
    | 38, _ => exact h.1 38 (Nat.le_of_ble_eq_true rfl)
    | 39, _ => exact h.1 39 (Nat.le_of_ble_eq_true rfl)
    | j + 40, hj => exact absurd hj (by omega), h.2.1.hi rfl rfl (upd_hi (by omega)), h.2.2.1.hi rfl rfl rfl rfl (upd_hi (by omega)), h.2.2.2⟩, ⟨rfl, rfl, rfl, rfl, rfl, rfl, rfl, rfl, rfl, rfl⟩, rfl⟩
def nsV2 (v : pLV) : pLV := vS v 18 (mxI (v 0 18) (v 0 16 + v 0 17))
theorem ns_S2 {B : Int} {bk : Int32} {v m : pLV} (h : SL B bk v (m 1)) : SL B bk (nsV2 v) (nsM 2 m 1) ∧ FR m (nsM 2 m) ∧ nsM 2 m 0 12 = m 0 12 := by
  have e1 : m 1 24 = v 0 16 := h.1 24 (by omega)
  have e2 : m 1 25 = v 0 17 := h.1 25 (by omega)
  have e3 : m 1 26 = v 0 18 := h.1 26 (by omega)
  have eC : nsM 2 m 1 26 = mxI (v 0 18) (v 0 16 + v 0 17) := by
    show (if m 1 24 + m 1 25 ≤ m 1 26 then m 1 26 else m 1 24 + m 1 25) = _
    rw [e1, e2, e3]
    unfold mxI
    by_cases q : v 0 16 + v 0 17 ≤ v 0 18
    · rw [if_pos q, if_neg (Int32.not_lt.mpr q)]
    · rw [if_neg q, if_pos (Int32.not_le.mp q)]
  exact ⟨⟨by
    intro j hj
    match j, hj with
    | 0, _ => exact h.1 0 (Nat.le_of_ble_eq_true rfl)
    | 1, _ => exact h.1 1 (Nat.le_of_ble_eq_true rfl)
    | 2, _ => exact h.1 2 (Nat.le_of_ble_eq_true rfl)
    | 3, _ => exact h.1 3 (Nat.le_of_ble_eq_true rfl)
    | 4, _ => exact h.1 4 (Nat.le_of_ble_eq_true rfl)
    | 5, _ => exact h.1 5 (Nat.le_of_ble_eq_true rfl)
    | 6, _ => exact h.1 6 (Nat.le_of_ble_eq_true rfl)
    | 7, _ => exact h.1 7 (Nat.le_of_ble_eq_true rfl)
    | 8, _ => exact h.1 8 (Nat.le_of_ble_eq_true rfl)
    | 9, _ => exact h.1 9 (Nat.le_of_ble_eq_true rfl)
    | 10, _ => exact h.1 10 (Nat.le_of_ble_eq_true rfl)
    | 11, _ => exact h.1 11 (Nat.le_of_ble_eq_true rfl)
    | 12, _ => exact h.1 12 (Nat.le_of_ble_eq_true rfl)
    | 13, _ => exact h.1 13 (Nat.le_of_ble_eq_true rfl)
    | 14, _ => exact h.1 14 (Nat.le_of_ble_eq_true rfl)
    | 15, _ => exact h.1 15 (Nat.le_of_ble_eq_true rfl)
    | 16, _ => exact h.1 16 (Nat.le_of_ble_eq_true rfl)
    | 17, _ => exact h.1 17 (Nat.le_of_ble_eq_true rfl)
    | 18, _ => exact h.1 18 (Nat.le_of_ble_eq_true rfl)
    | 19, _ => exact h.1 19 (Nat.le_of_ble_eq_true rfl)
    | 20, _ => exact h.1 20 (Nat.le_of_ble_eq_true rfl)
    | 21, _ => exact h.1 21 (Nat.le_of_ble_eq_true rfl)
    | 22, _ => exact h.1 22 (Nat.le_of_ble_eq_true rfl)
    | 23, _ => exact h.1 23 (Nat.le_of_ble_eq_true rfl)
    | 24, _ => exact h.1 24 (Nat.le_of_ble_eq_true rfl)
    | 25, _ => exact h.1 25 (Nat.le_of_ble_eq_true rfl)
    | 26, _ => exact eC
    | 27, _ => exact h.1 27 (Nat.le_of_ble_eq_true rfl)
    | 28, _ => exact h.1 28 (Nat.le_of_ble_eq_true rfl)
    | 29, _ => exact h.1 29 (Nat.le_of_ble_eq_true rfl)
    | 30, _ => exact h.1 30 (Nat.le_of_ble_eq_true rfl)
    | 31, _ => exact h.1 31 (Nat.le_of_ble_eq_true rfl)
    | 32, _ => exact h.1 32 (Nat.le_of_ble_eq_true rfl)
    | 33, _ => exact h.1 33 (Nat.le_of_ble_eq_true rfl)
    | 34, _ => exact h.1 34 (Nat.le_of_ble_eq_true rfl)
    | 35, _ => exact h.1 35 (Nat.le_of_ble_eq_true rfl)
    | 36, _ => exact h.1 36 (Nat.le_of_ble_eq_true rfl)
    | 37, _ => exact h.1 37 (Nat.le_of_ble_eq_true rfl)
    | 38, _ => exact h.1 38 (Nat.le_of_ble_eq_true rfl)
    | 39, _ => exact h.1 39 (Nat.le_of_ble_eq_true rfl)
    | j + 40, hj => exact absurd hj (by omega), h.2.1.hi rfl rfl (upd_hi (by omega)), h.2.2.1.hi rfl rfl rfl rfl (upd_hi (by omega)), h.2.2.2⟩, ⟨rfl, rfl, rfl, rfl, rfl, rfl, rfl, rfl, rfl, rfl⟩, rfl⟩
def nsV3 (v : pLV) : pLV := vS v 21 (mxI (v 0 21) (v 0 19 + v 0 20))
theorem ns_S3 {B : Int} {bk : Int32} {v m : pLV} (h : SL B bk v (m 1)) : SL B bk (nsV3 v) (nsM 3 m 1) ∧ FR m (nsM 3 m) ∧ nsM 3 m 0 12 = m 0 12 := by
  have e1 : m 1 27 = v 0 19 := h.1 27 (by omega)
  have e2 : m 1 28 = v 0 20 := h.1 28 (by omega)
  have e3 : m 1 29 = v 0 21 := h.1 29 (by omega)
  have eC : nsM 3 m 1 29 = mxI (v 0 21) (v 0 19 + v 0 20) := by
    show (if m 1 27 + m 1 28 ≤ m 1 29 then m 1 29 else m 1 27 + m 1 28) = _
    rw [e1, e2, e3]
    unfold mxI
    by_cases q : v 0 19 + v 0 20 ≤ v 0 21
    · rw [if_pos q, if_neg (Int32.not_lt.mpr q)]
    · rw [if_neg q, if_pos (Int32.not_le.mp q)]
  exact ⟨⟨by
    intro j hj
    match j, hj with
    | 0, _ => exact h.1 0 (Nat.le_of_ble_eq_true rfl)
    | 1, _ => exact h.1 1 (Nat.le_of_ble_eq_true rfl)
    | 2, _ => exact h.1 2 (Nat.le_of_ble_eq_true rfl)
    | 3, _ => exact h.1 3 (Nat.le_of_ble_eq_true rfl)
    | 4, _ => exact h.1 4 (Nat.le_of_ble_eq_true rfl)
    | 5, _ => exact h.1 5 (Nat.le_of_ble_eq_true rfl)
    | 6, _ => exact h.1 6 (Nat.le_of_ble_eq_true rfl)
    | 7, _ => exact h.1 7 (Nat.le_of_ble_eq_true rfl)
    | 8, _ => exact h.1 8 (Nat.le_of_ble_eq_true rfl)
    | 9, _ => exact h.1 9 (Nat.le_of_ble_eq_true rfl)
    | 10, _ => exact h.1 10 (Nat.le_of_ble_eq_true rfl)
    | 11, _ => exact h.1 11 (Nat.le_of_ble_eq_true rfl)
    | 12, _ => exact h.1 12 (Nat.le_of_ble_eq_true rfl)
    | 13, _ => exact h.1 13 (Nat.le_of_ble_eq_true rfl)
    | 14, _ => exact h.1 14 (Nat.le_of_ble_eq_true rfl)
    | 15, _ => exact h.1 15 (Nat.le_of_ble_eq_true rfl)
    | 16, _ => exact h.1 16 (Nat.le_of_ble_eq_true rfl)
    | 17, _ => exact h.1 17 (Nat.le_of_ble_eq_true rfl)
    | 18, _ => exact h.1 18 (Nat.le_of_ble_eq_true rfl)
    | 19, _ => exact h.1 19 (Nat.le_of_ble_eq_true rfl)
    | 20, _ => exact h.1 20 (Nat.le_of_ble_eq_true rfl)
    | 21, _ => exact h.1 21 (Nat.le_of_ble_eq_true rfl)
    | 22, _ => exact h.1 22 (Nat.le_of_ble_eq_true rfl)
    | 23, _ => exact h.1 23 (Nat.le_of_ble_eq_true rfl)
    | 24, _ => exact h.1 24 (Nat.le_of_ble_eq_true rfl)
    | 25, _ => exact h.1 25 (Nat.le_of_ble_eq_true rfl)
    | 26, _ => exact h.1 26 (Nat.le_of_ble_eq_true rfl)
    | 27, _ => exact h.1 27 (Nat.le_of_ble_eq_true rfl)
    | 28, _ => exact h.1 28 (Nat.le_of_ble_eq_true rfl)
    | 29, _ => exact eC
    | 30, _ => exact h.1 30 (Nat.le_of_ble_eq_true rfl)
    | 31, _ => exact h.1 31 (Nat.le_of_ble_eq_true rfl)
    | 32, _ => exact h.1 32 (Nat.le_of_ble_eq_true rfl)
    | 33, _ => exact h.1 33 (Nat.le_of_ble_eq_true rfl)
    | 34, _ => exact h.1 34 (Nat.le_of_ble_eq_true rfl)
    | 35, _ => exact h.1 35 (Nat.le_of_ble_eq_true rfl)
    | 36, _ => exact h.1 36 (Nat.le_of_ble_eq_true rfl)
    | 37, _ => exact h.1 37 (Nat.le_of_ble_eq_true rfl)
    | 38, _ => exact h.1 38 (Nat.le_of_ble_eq_true rfl)
    | 39, _ => exact h.1 39 (Nat.le_of_ble_eq_true rfl)
    | j + 40, hj => exact absurd hj (by omega), h.2.1.hi rfl rfl (upd_hi (by omega)), h.2.2.1.hi rfl rfl rfl rfl (upd_hi (by omega)), h.2.2.2⟩, ⟨rfl, rfl, rfl, rfl, rfl, rfl, rfl, rfl, rfl, rfl⟩, rfl⟩
theorem sm_eq (v : pLV) : nsV3 (nsV2 (nsV1 (nsV0 v))) = smV v := rfl
theorem t8_S {B : Int} {bk : Int32} {v m : pLV} (h : SL B bk v (m 1)) : SL B bk (smV v) (ns4 m 1) ∧ FR m (ns4 m) ∧ ns4 m 0 12 = m 0 12 := by
  obtain ⟨a1, a2, a3⟩ := ns_S0 h
  obtain ⟨b1, b2, b3⟩ := ns_S1 a1
  obtain ⟨c1, c2, c3⟩ := ns_S2 b1
  obtain ⟨d1, d2, d3⟩ := ns_S3 c1
  rw [sm_eq] at d1
  exact ⟨d1, ((a2.tr b2).tr c2).tr d2, d3.trans (c3.trans (b3.trans a3))⟩
end
