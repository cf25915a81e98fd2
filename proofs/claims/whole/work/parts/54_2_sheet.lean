noncomputable section
theorem IPa.up {B C : Int} {v : pLV} (h : IPa B v) (hBC : B ≤ C) : IPa C v := ⟨h.1, h.2.1, h.2.2.1, h.2.2.2.1, Int.le_trans h.2.2.2.2 hBC⟩
theorem SL.up {B C : Int} {bk : Int32} {v : pLV} {f : Nat → Int32} (h : SL B bk v f) (hBC : B ≤ C) : SL C bk v f := ⟨h.1, h.2.1, h.2.2.1, ⟨h.2.2.2.1.1, h.2.2.2.1.2.1, h.2.2.2.1.2.2.1, h.2.2.2.1.2.2.2.1, h.2.2.2.1.2.2.2.2.1, h.2.2.2.1.2.2.2.2.2.up hBC⟩, h.2.2.2.2⟩
theorem mpA_FR (m : pLV) : FR m (mpA m) := ⟨rfl, rfl, rfl, rfl, rfl, rfl, rfl, rfl, rfl, rfl⟩
theorem mpB_FR (m : pLV) : FR m (mpB m) := ⟨rfl, rfl, rfl, rfl, rfl, rfl, rfl, rfl, rfl, rfl⟩
theorem mpC_FR (m : pLV) : FR m (mpC m) := ⟨rfl, rfl, rfl, rfl, rfl, rfl, rfl, rfl, rfl, rfl⟩
theorem cpV_2 (v : pLV) (x : Int32) : cpV v x 0 2 = v 0 2 := by
  unfold cpV
  split
  · rfl
  · split <;> rfl
theorem cpV_3 (v : pLV) (x : Int32) : cpV v x 0 3 = v 0 3 := by
  unfold cpV
  split
  · rfl
  · split <;> rfl
/-- the sheet that is broken or off grade -/
def shBk (v : pLV) : pLV := pourV 1 (NL (shB v)) (shF v) (v 1 7)
set_option maxHeartbeats 2000000 in
theorem t6b_S {B : Int} {bk : Int32} {v x : pLV} (g1 : SL B bk (shU v) (x 1)) (h9 : x 0 9 = shF v) (hF0 : 0 ≤ (shF v).toInt) (hF1 : (shF v).toInt ≤ 2000) (hch : CH 30000 (v 0 13) (v 0 14)) (hrm : v 0 31 = 30000) : SL B bk (shBk v) (mpD x 1) ∧ FR x (mpD x) ∧ mpD x 0 12 = shS v := by
  have hs : ISt (shU v) := g1.2.2.2.1.2.2.1
  have hsp : IB 0 2000 (v 1 7) := hs.2.2.2.2.2.1
  have e34 : x 1 34 = v 0 26 := g1.1 34 (by omega)
  have e17 : x 1 17 = v 0 6 := g1.1 17 (by omega)
  have e10 : x 1 10 = v 0 1 := g1.1 10 (by omega)
  have e7 : x 1 7 = v 1 7 := g1.1 7 (by omega)
  have c34 : mpB x 1 34 = v 0 26 + shF v := by
    show x 1 34 + x 0 9 = _
    rw [e34, h9]
  have c17 : mpB x 1 17 = v 0 6 + 1 := by
    show x 1 17 + 1 = _
    rw [e17]
  have c14 : mpB x 1 14 = v 0 1 := e10
  have hmb : ∀ k, 40 ≤ k → mpB x 1 k = x 1 k := fun k hk => ((upd_hi (by omega) k hk).trans (upd_hi (by omega) k hk)).trans (upd_hi (by omega) k hk)
  have hB : SL B bk (shB v) (mpB x 1) := ⟨by
    intro j hj
    match j, hj with
    | 0, _ => exact g1.1 0 (Nat.le_of_ble_eq_true rfl)
    | 1, _ => exact g1.1 1 (Nat.le_of_ble_eq_true rfl)
    | 2, _ => exact g1.1 2 (Nat.le_of_ble_eq_true rfl)
    | 3, _ => exact g1.1 3 (Nat.le_of_ble_eq_true rfl)
    | 4, _ => exact g1.1 4 (Nat.le_of_ble_eq_true rfl)
    | 5, _ => exact g1.1 5 (Nat.le_of_ble_eq_true rfl)
    | 6, _ => exact g1.1 6 (Nat.le_of_ble_eq_true rfl)
    | 7, _ => exact g1.1 7 (Nat.le_of_ble_eq_true rfl)
    | 8, _ => exact g1.1 8 (Nat.le_of_ble_eq_true rfl)
    | 9, _ => exact g1.1 9 (Nat.le_of_ble_eq_true rfl)
    | 10, _ => exact g1.1 10 (Nat.le_of_ble_eq_true rfl)
    | 11, _ => exact g1.1 11 (Nat.le_of_ble_eq_true rfl)
    | 12, _ => exact g1.1 12 (Nat.le_of_ble_eq_true rfl)
    | 13, _ => exact g1.1 13 (Nat.le_of_ble_eq_true rfl)
    | 14, _ => exact c14
    | 15, _ => exact g1.1 15 (Nat.le_of_ble_eq_true rfl)
    | 16, _ => exact g1.1 16 (Nat.le_of_ble_eq_true rfl)
    | 17, _ => exact c17
    | 18, _ => exact g1.1 18 (Nat.le_of_ble_eq_true rfl)
    | 19, _ => exact g1.1 19 (Nat.le_of_ble_eq_true rfl)
    | 20, _ => exact g1.1 20 (Nat.le_of_ble_eq_true rfl)
    | 21, _ => exact g1.1 21 (Nat.le_of_ble_eq_true rfl)
    | 22, _ => exact g1.1 22 (Nat.le_of_ble_eq_true rfl)
    | 23, _ => exact g1.1 23 (Nat.le_of_ble_eq_true rfl)
    | 24, _ => exact g1.1 24 (Nat.le_of_ble_eq_true rfl)
    | 25, _ => exact g1.1 25 (Nat.le_of_ble_eq_true rfl)
    | 26, _ => exact g1.1 26 (Nat.le_of_ble_eq_true rfl)
    | 27, _ => exact g1.1 27 (Nat.le_of_ble_eq_true rfl)
    | 28, _ => exact g1.1 28 (Nat.le_of_ble_eq_true rfl)
    | 29, _ => exact g1.1 29 (Nat.le_of_ble_eq_true rfl)
    | 30, _ => exact g1.1 30 (Nat.le_of_ble_eq_true rfl)
    | 31, _ => exact g1.1 31 (Nat.le_of_ble_eq_true rfl)
    | 32, _ => exact g1.1 32 (Nat.le_of_ble_eq_true rfl)
    | 33, _ => exact g1.1 33 (Nat.le_of_ble_eq_true rfl)
    | 34, _ => exact c34
    | 35, _ => exact g1.1 35 (Nat.le_of_ble_eq_true rfl)
    | 36, _ => exact g1.1 36 (Nat.le_of_ble_eq_true rfl)
    | 37, _ => exact g1.1 37 (Nat.le_of_ble_eq_true rfl)
    | 38, _ => exact g1.1 38 (Nat.le_of_ble_eq_true rfl)
    | 39, _ => exact g1.1 39 (Nat.le_of_ble_eq_true rfl)
    | j + 40, hj => exact absurd hj (by omega), g1.2.1.hi rfl rfl hmb, g1.2.2.1.hi rfl rfl rfl rfl hmb, g1.2.2.2⟩
  obtain ⟨f1, -, f3, -⟩ := fill_S1 (m := NM (mpB x)) hB.nl (a := shF v) (b := v 1 7) hF0 hsp.1 (by have := hsp.2; omega)
  have eM : mpD x = mpC (fillM 1 (NM (mpB x)) (shF v) (v 1 7)) := by
    unfold mpD
    rw [h9, e7]
  rw [eM]
  refine ⟨f1, (((mpB_FR x).tr (FR.nm _)).tr (fillM_FR 1 _ _ _)).tr (mpC_FR _), ?_⟩
  show fillM 1 (NM (mpB x)) (shF v) (v 1 7) 0 11 = shS v
  rw [f3]
  show (if v 0 13 + shF v + (v 0 14 + v 1 7) - v 0 31 ≤ 0 then (0 : Int32) else 1) = _
  unfold shS
  obtain ⟨q1, q2, q3⟩ := hch
  have s1 := hsp.1
  have s2 := hsp.2
  have hR : (v 0 31).toInt = 30000 := by rw [hrm]; rfl
  have a1 : (v 0 13 + shF v).toInt = (v 0 13).toInt + (shF v).toInt := i_add (by omega) (by omega)
  have a2 : (v 0 14 + v 1 7).toInt = (v 0 14).toInt + (v 1 7).toInt := i_add (by omega) (by omega)
  have a3 : (v 0 13 + shF v + (v 0 14 + v 1 7)).toInt = (v 0 13).toInt + (shF v).toInt + ((v 0 14).toInt + (v 1 7).toInt) := by rw [i_add (by omega) (by omega), a1, a2]
  have a4 : (v 0 13 + shF v + (v 0 14 + v 1 7) - v 0 31).toInt = (v 0 13).toInt + (shF v).toInt + ((v 0 14).toInt + (v 1 7).toInt) - 30000 := by rw [i_sub (by omega) (by omega), a3, hR]
  have a5 : (shF v + v 1 7).toInt = (shF v).toInt + (v 1 7).toInt := i_add (by omega) (by omega)
  have a6 : (v 0 31 - v 0 13).toInt = 30000 - (v 0 13).toInt := by rw [i_sub (by omega) (by omega), hR]
  have a7 : (v 0 31 - v 0 13 - v 0 14).toInt = 30000 - (v 0 13).toInt - (v 0 14).toInt := by rw [i_sub (by omega) (by omega), a6]
  have e0 : (0 : Int32).toInt = 0 := rfl
  by_cases q : v 0 13 + shF v + (v 0 14 + v 1 7) - v 0 31 ≤ 0
  · rw [if_pos q, if_pos (by rw [ile] at q ⊢; omega)]
  · rw [if_neg q, if_neg (by rw [ile] at q ⊢; omega)]
end
