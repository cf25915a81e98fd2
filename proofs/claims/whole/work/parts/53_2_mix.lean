noncomputable section
theorem m3M_FR (x : pLV) (d o y t : Int32) : FR x (m3M x d o y t) := ⟨rfl, rfl, rfl, rfl, rfl, rfl, rfl, rfl, rfl, rfl⟩
theorem mix_end {B : Int} {bk : Int32} {v m X U V2 M2 Y : pLV} {d o y t r a b : Int32} (eM : M2 = m3M X d o y t) (eR : rsM X d o y t = r) (eV : V2 = vS U 5 r) (e2v : V2 0 2 = v 0 2) (h : SL B bk U (X 1)) (h12 : X 0 12 = m 0 12) (hf : FR m Y) (hX : X = fillM 2 Y a b) : SL B bk V2 (M2 1) ∧ FR m M2 ∧ M2 0 12 = m 0 12 ∧ V2 0 2 = v 0 2 := by
  subst eM
  subst eV
  have eC : m3M X d o y t 1 15 = r := eR
  refine ⟨⟨by
      intro j hj
      match j, hj with
      | 0, _ => exact h.1 0 (Nat.le_of_ble_eq_true rfl)
      | 1, _ => exact h.1 1 (Nat.le_of_ble_eq_true rfl)
      | 2, _ => exact h.1 2 (Nat.le_of_ble_eq_true rfl)
      | 3, _ => exact h.1 3 (Nat.le_of_ble_eq_true rfl)
      | 4, _ => exact h.1 4 (Nat.le_of_ble_eq_true rfl)
      | 5, _ => exact h.1 5 (Nat.le_of_ble_eq_true rfl)
      | 6, _ => exact h.1 6 (Nat.le_of_ble_eq_true rfl)
      | 7, _ => exact h.1 7 (Nat.le_of_ble_eq_true rfl)
      | 8, _ => exact h.1 8 (Nat.le_of_ble_eq_true rfl)
      | 9, _ => exact h.1 9 (Nat.le_of_ble_eq_true rfl)
      | 10, _ => exact h.1 10 (Nat.le_of_ble_eq_true rfl)
      | 11, _ => exact h.1 11 (Nat.le_of_ble_eq_true rfl)
      | 12, _ => exact h.1 12 (Nat.le_of_ble_eq_true rfl)
      | 13, _ => exact h.1 13 (Nat.le_of_ble_eq_true rfl)
      | 14, _ => exact h.1 14 (Nat.le_of_ble_eq_true rfl)
      | 15, _ => exact eC
      | 16, _ => exact h.1 16 (Nat.le_of_ble_eq_true rfl)
      | 17, _ => exact h.1 17 (Nat.le_of_ble_eq_true rfl)
      | 18, _ => exact h.1 18 (Nat.le_of_ble_eq_true rfl)
      | 19, _ => exact h.1 19 (Nat.le_of_ble_eq_true rfl)
      | 20, _ => exact h.1 20 (Nat.le_of_ble_eq_true rfl)
      | 21, _ => exact h.1 21 (Nat.le_of_ble_eq_true rfl)
      | 22, _ => exact h.1 22 (Nat.le_of_ble_eq_true rfl)
      | 23, _ => exact h.1 23 (Nat.le_of_ble_eq_true rfl)
      | 24, _ => exact h.1 24 (Nat.le_of_ble_eq_true rfl)
      | 25, _ => exact h.1 25 (Nat.le_of_ble_eq_true rfl)
      | 26, _ => exact h.1 26 (Nat.le_of_ble_eq_true rfl)
      | 27, _ => exact h.1 27 (Nat.le_of_ble_eq_true rfl)
      | 28, _ => exact h.1 28 (Nat.le_of_ble_eq_true rfl)
      | 29, _ => exact h.1 29 (Nat.le_of_ble_eq_true rfl)
      | 30, _ => exact h.1 30 (Nat.le_of_ble_eq_true rfl)
      | 31, _ => exact h.1 31 (Nat.le_of_ble_eq_true rfl)
      | 32, _ => exact h.1 32 (Nat.le_of_ble_eq_true rfl)
      | 33, _ => exact h.1 33 (Nat.le_of_ble_eq_true rfl)
      | 34, _ => exact h.1 34 (Nat.le_of_ble_eq_true rfl)
      | 35, _ => exact h.1 35 (Nat.le_of_ble_eq_true rfl)
      | 36, _ => exact h.1 36 (Nat.le_of_ble_eq_true rfl)
      | 37, _ => exact h.1 37 (Nat.le_of_ble_eq_true rfl)
      | 38, _ => exact h.1 38 (Nat.le_of_ble_eq_true rfl)
      | 39, _ => exact h.1 39 (Nat.le_of_ble_eq_true rfl)
      | j + 40, hj => exact absurd hj (by omega), h.2.1.hi rfl rfl (upd_hi (by omega)), h.2.2.1.hi rfl rfl rfl rfl (upd_hi (by omega)), h.2.2.2⟩, ?_, h12, e2v⟩
  refine FR.tr ?_ (m3M_FR X d o y t)
  rw [hX]
  exact hf.tr (fillM_FR 2 Y a b)
set_option maxHeartbeats 2000000 in
theorem t3_S {B : Int} {bk : Int32} {v m : pLV} (h : SL B bk v (m 1)) : SL B bk (mixV v) (mixM m 1) ∧ FR m (mixM m) ∧ mixM m 0 12 = m 0 12 ∧ mixV v 0 2 = v 0 2 := by
  have hs := h.2.2.2.1.2.2.1
  have hch := h.2.2.2.1.2.1
  have hrm := h.2.2.2.1.1
  have e2 : m 1 2 = v 1 2 := h.1 2 (by omega)
  have e3 : m 1 3 = v 1 3 := h.1 3 (by omega)
  have e10 : m 1 10 = v 0 1 := h.1 10 (by omega)
  have e14 : m 1 14 = v 0 4 := h.1 14 (by omega)
  have e24 : m 1 24 = v 0 16 := h.1 24 (by omega)
  have e25 : m 1 25 = v 0 17 := h.1 25 (by omega)
  have hsum := hch.2.2.1.sum (by omega)
  obtain ⟨q1, q2, q3⟩ := hch.2.2.1
  have hr32 : (v 0 32).toInt = 10000 := by rw [hrm.2.2.1]; rfl
  -- the demand
  have hmis : (v 0 32 - v 0 16 - v 0 17).toInt = 10000 - ((v 0 16).toInt + (v 0 17).toInt) := by
    rw [sub_sub32, i_sub (by omega) (by omega), hsum, hr32]
  have hD : mdM (NM m) = mxD v := by
    unfold mdM mxD mnI
    have em : rmI 2 - sumM 2 (NM m) = v 0 32 - v 0 16 - v 0 17 := by
      rw [sub_sub32, hrm.2.2.1]
      show (10000 : Int32) - (m 1 24 + m 1 25) = _
      rw [e24, e25]
    rw [em, show (NM m) 1 2 = v 1 2 from e2]
    by_cases q : v 0 32 - v 0 16 - v 0 17 < v 1 2
    · rw [if_pos q, if_pos (by rw [ile]; rw [ilt] at q; omega)]
    · rw [if_neg q]
      by_cases q2 : v 0 32 - v 0 16 - v 0 17 ≤ v 1 2
      · rw [if_pos q2, ieq]
        rw [ilt] at q
        rw [ile] at q2
        omega
      · rw [if_neg q2]
  have hd0 : (mxD v).toInt = min (v 1 2).toInt (10000 - ((v 0 16).toInt + (v 0 17).toInt)) := by
    unfold mxD
    rw [mnI_i, hmis]
  have hf := hs.2.2.1
  have hl := hs.2.2.2.1
  have hd1 : 0 ≤ (mxD v).toInt ∧ (mxD v).toInt ≤ 2000 := by
    have := hf.1; have := hf.2
    omega
  -- the broke that is wanted
  have hp0 : 0 ≤ (mxD v).toInt * (v 1 3).toInt := Int.mul_nonneg hd1.1 hl.1
  have hp1 : (mxD v).toInt * (v 1 3).toInt ≤ (mxD v).toInt * 1000 := Int.mul_le_mul_of_nonneg_left hl.2 hd1.1
  have hmul : (mxD v * v 1 3).toInt = (mxD v).toInt * (v 1 3).toInt := i_mul (by omega) (by omega)
  have hw1 : 0 ≤ (mxD v * v 1 3 / 1000).toInt ∧ (mxD v * v 1 3 / 1000).toInt ≤ (mxD v).toInt := by
    rw [div1000 (by omega), hmul]
    omega
  have hY : myM (NM m) = mxW v := by
    unfold myM mxW
    rw [hD, show (NM m) 1 14 = v 0 4 from e14, show (NM m) 1 10 = v 0 1 from e10, show (NM m) 1 3 = v 1 3 from e3]
  have hw : 0 ≤ (mxW v).toInt ∧ (mxW v).toInt ≤ (mxD v).toInt := by
    unfold mxW
    split
    · exact hw1
    · rw [Int32.toInt_zero]; omega
  have hO : moM (NM m) = if v 0 4 = v 0 1 then 0 else 1 := by
    unfold moM
    rw [show (NM m) 1 14 = v 0 4 from e14, show (NM m) 1 10 = v 0 1 from e10]
  -- what is taken
  have s1 := hch.2.1.sum (by omega)
  have s0 := hch.1.sum (by omega)
  obtain ⟨a1, a2, a3⟩ := hch.2.1
  obtain ⟨b1, b2, b3⟩ := hch.1
  have hB := mnI_i (mxW v) (v 0 13 + v 0 14)
  have hB2 : (mxB v (mxW v)).toInt = min (mxW v).toInt ((v 0 13).toInt + (v 0 14).toInt) := by unfold mxB; rw [hB, s1]
  have hdB : (mxD v - mxB v (mxW v)).toInt = (mxD v).toInt - (mxB v (mxW v)).toInt := i_sub (by omega) (by omega)
  have hP2 : (mxP v (mxW v)).toInt = min ((mxD v).toInt - (mxB v (mxW v)).toInt) ((v 0 10).toInt + (v 0 11).toInt) := by
    unfold mxP
    rw [mnI_i, s0, hdB]
  obtain ⟨g1, g2, g3⟩ := take_S1 (v := v) (m := NM (NM m)) (x := mxW v) h hw.1
  have t1 := take_ok (m := mxB v (mxW v)) hch.2.1 (by omega) (by omega) (by omega)
  have t0 := take_ok (m := mxP v (mxW v)) hch.1 (by omega) (by omega) (by omega)
  have hx1 : takeM 1 (NM (NM m)) (mxW v) 0 9 + takeM 1 (NM (NM m)) (mxW v) 0 10 = mxB v (mxW v) := by
    rw [g2, g3]
    show tkR (v 0 13) (v 0 14) (mxB v (mxW v)) + (mxB v (mxW v) - tkR (v 0 13) (v 0 14) (mxB v (mxW v))) = _
    rw [ieq, i_add (by omega) (by omega)]
    omega
  obtain ⟨k1, k2, k3⟩ := take_S0 (v := tv1 v (mxW v)) (m := NM (takeM 1 (NM (NM m)) (mxW v))) (x := mxD v - mxB v (mxW v)) g1 (by omega)
  have eT : tv0 (tv1 v (mxW v)) (mxD v - mxB v (mxW v)) = mxT v (mxW v) := rfl
  rw [eT] at k1
  have hV : SL B bk (NL (mxT v (mxW v))) (NM (takeM 0 (NM (takeM 1 (NM (NM m)) (mxW v))) (mxD v - mxB v (mxW v))) 1) := k1.nl
  have hFs : (mxF v (mxW v)).toInt = (tkR (v 0 13) (v 0 14) (mxB v (mxW v))).toInt + (tkR (v 0 10) (v 0 11) (mxP v (mxW v))).toInt := by
    unfold mxF
    exact i_add (by omega) (by omega)
  have hF : takeM 1 (NM (NM m)) (mxW v) 0 9 + takeM 0 (NM (takeM 1 (NM (NM m)) (mxW v))) (mxD v - mxB v (mxW v)) 0 9 = mxF v (mxW v) := by
    rw [g2, k2]
    rfl
  have hBP : (mxB v (mxW v) + mxP v (mxW v)).toInt = (mxB v (mxW v)).toInt + (mxP v (mxW v)).toInt := i_add (by omega) (by omega)
  have hGs : (mxB v (mxW v) + mxP v (mxW v) - mxF v (mxW v)).toInt = (mxB v (mxW v)).toInt + (mxP v (mxW v)).toInt - (mxF v (mxW v)).toInt := by
    rw [i_sub (by omega) (by omega), hBP]
  have hG : takeM 1 (NM (NM m)) (mxW v) 0 10 + takeM 0 (NM (takeM 1 (NM (NM m)) (mxW v))) (mxD v - mxB v (mxW v)) 0 10 = mxB v (mxW v) + mxP v (mxW v) - mxF v (mxW v) := by
    rw [g3, k3]
    show (mxB v (mxW v) - tkR (v 0 13) (v 0 14) (mxB v (mxW v))) + (mxP v (mxW v) - tkR (v 0 10) (v 0 11) (mxP v (mxW v))) = _
    rw [ieq, hGs, i_add (by omega) (by omega), t1.2.2.2.2.2.2, t0.2.2.2.2.2.2, hFs]
    omega
  obtain ⟨f1, -, -, f4⟩ := fill_S2 hV (a := mxF v (mxW v)) (b := mxB v (mxW v) + mxP v (mxW v) - mxF v (mxW v)) (by omega) (by omega) (by omega)
  have eM : mixM m = m3M (fillM 2 (NM (takeM 0 (NM (takeM 1 (NM (NM m)) (mxW v))) (mxD v - mxB v (mxW v)))) (mxF v (mxW v)) (mxB v (mxW v) + mxP v (mxW v) - mxF v (mxW v))) (mxD v) (moM (NM m)) (mxW v) (mxB v (mxW v)) := by
    unfold mixM m0M m1M m2M
    rw [hD, hY, hx1, hF, hG]
  have eR : rsM (fillM 2 (NM (takeM 0 (NM (takeM 1 (NM (NM m)) (mxW v))) (mxD v - mxB v (mxW v)))) (mxF v (mxW v)) (mxB v (mxW v) + mxP v (mxW v) - mxF v (mxW v))) (mxD v) (moM (NM m)) (mxW v) (mxB v (mxW v)) = rsnV (NL (mxU v (mxW v))) (mxD v) (mxW v) (mxB v (mxW v)) := by
    have el : fillM 2 (NM (takeM 0 (NM (takeM 1 (NM (NM m)) (mxW v))) (mxD v - mxB v (mxW v)))) (mxF v (mxW v)) (mxB v (mxW v) + mxP v (mxW v) - mxF v (mxW v)) 1 3 = v 1 3 := f1.1 3 (by omega)
    unfold rsM rsnV
    rw [el, hO]
    show _ = if mxD v = 0 then 0 else if ¬ v 0 4 = v 0 1 then 3 else if v 1 3 = 0 then 1 else if mxB v (mxW v) < mxW v then 2 else 0
    by_cases c0 : mxD v = 0
    · rw [if_pos c0, if_pos c0]
    · rw [if_neg c0, if_neg c0]
      by_cases c1 : v 0 4 = v 0 1
      · rw [if_pos c1, if_pos rfl, if_neg (show ¬ ¬ v 0 4 = v 0 1 from fun z => z c1)]
        by_cases c2 : v 1 3 = 0
        · rw [if_pos c2, if_pos c2]
        · rw [if_neg c2, if_neg c2]
          by_cases c3 : mxB v (mxW v) < mxW v
          · rw [if_pos c3, if_neg (Int32.not_le.mpr c3)]
          · rw [if_neg c3, if_pos (Int32.not_lt.mp c3)]
      · rw [if_neg c1, if_neg (by decide), if_pos c1]
  have f1' : SL B bk (NL (mxU v (mxW v))) (fillM 2 (NM (takeM 0 (NM (takeM 1 (NM (NM m)) (mxW v))) (mxD v - mxB v (mxW v)))) (mxF v (mxW v)) (mxB v (mxW v) + mxP v (mxW v) - mxF v (mxW v)) 1) := (show SL B bk (mxU v (mxW v)) _ from f1).nl
  have r1 : FR m (NM (takeM 1 (NM (NM m)) (mxW v))) := (((FR.nm m).tr (FR.nm (NM m))).tr (takeM_FR 1 (NM (NM m)) (mxW v))).tr (FR.nm _)
  have r2 : FR m (NM (takeM 0 (NM (takeM 1 (NM (NM m)) (mxW v))) (mxD v - mxB v (mxW v)))) := (r1.tr (takeM_FR 0 _ _)).tr (FR.nm _)
  have z12 : NM (takeM 0 (NM (takeM 1 (NM (NM m)) (mxW v))) (mxD v - mxB v (mxW v))) 0 12 = m 0 12 := rfl
  have e2v : mixV v 0 2 = v 0 2 := rfl
  have eV : mixV v = vS (NL (mxU v (mxW v))) 5 (rsnV (NL (mxU v (mxW v))) (mxD v) (mxW v) (mxB v (mxW v))) := rfl
  rw [z12] at f4
  exact mix_end eM eR eV e2v f1' f4 r2 rfl
end
