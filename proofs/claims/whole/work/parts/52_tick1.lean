noncomputable section
/-! THE TWO SIDES ARE ALIKE: a tick -/
theorem sc {B : Int} {bk : Int32} {v : pLV} {f : Nat → Int32} (h : SL B bk v f) (j : Nat) (hj : j < 40) : f j = sget (encB bk v) j := h.1 j hj
/-- a row that differs below place 40 alone -/
theorem upd_hi {f : Nat → Int32} {k : Nat} {x : Int32} (hk : k < 40) : ∀ j, 40 ≤ j → upd f k x j = f j := fun j hj => upd_ne (by omega)
def Br (v v' : pLV) (bk bk' : Int32) : Prop := (bk = v 0 2 → bk' = v' 0 2) ∧ bk.toInt ≤ bk'.toInt ∧ (v 0 2).toInt ≤ (v' 0 2).toInt
theorem Br.rf (v : pLV) (bk : Int32) : Br v v bk bk := ⟨fun h => h, Int.le_refl _, Int.le_refl _⟩
theorem Br.tr {a b c : pLV} {x y z : Int32} (h : Br a b x y) (g : Br b c y z) : Br a c x z := ⟨fun e => g.1 (h.1 e), Int.le_trans h.2.1 g.2.1, Int.le_trans h.2.2 g.2.2⟩
set_option maxHeartbeats 1000000 in
theorem co_S {B : Int} {bk : Int32} {v m : pLV} {k : Nat} (h : SL B bk v (m 1)) (hk : k < (v 0 29).toNatClampNeg) : ∃ bk', SL B bk' (cstV v k) (ceM m k 1) ∧ Br v (cstV v k) bk bk' ∧ FR m (ceM m k) ∧ ceM m k 0 12 = m 0 12 ∧ cstV v k 0 29 = v 0 29 := by
  obtain ⟨e4, e5, e6⟩ := h.2.2.1.2 k hk
  have e9 : m 1 9 = v 0 0 := h.1 9 (by omega)
  have e10 : m 1 10 = v 0 1 := h.1 10 (by omega)
  have e11 : m 1 11 = bk := h.1 11 (by omega)
  have e12 : m 1 12 = v 0 3 := h.1 12 (by omega)
  have e8 : m 1 8 = v 1 8 := h.1 8 (by omega)
  by_cases ht : v 4 k = v 0 0
  · have c1 : cstV v k = coV (NL v) (v 5 k) (v 6 k) := if_pos ht
    have c2 : ceM m k = ce1M m k := if_pos (by rw [e4, e9]; exact ht)
    rw [c1, c2]
    by_cases k0 : v 5 k = 0
    · have d1 : coV (NL v) (v 5 k) (v 6 k) = brkV (NL (NL v)) (v 6 k) := if_pos k0
      have d2 : ce1M m k = bkM (NM m) (m 1 (50 + 3 * k + 2)) := if_pos (by rw [e5]; exact k0)
      rw [d1, d2, e6]
      have eB : bkM (NM m) (v 6 k) 1 11 = (if v 6 k ≤ bk then bk else v 6 k) := by
        show (if v 6 k ≤ m 1 11 then m 1 11 else v 6 k) = _
        rw [e11]
      have hge : bk.toInt ≤ (if v 6 k ≤ bk then bk else v 6 k).toInt := by
        split
        · exact Int.le_refl _
        · rename_i q
          have := ilt.mp (Int32.not_le.mp q)
          omega
      have hm := mxI_i (v 0 2) (v 6 k)
      refine ⟨if v 6 k ≤ bk then bk else v 6 k, ⟨by
        intro j hj
        match j, hj with
        | 0, _ => exact h.1 0 (Nat.le_of_ble_eq_true rfl)
        | 1, _ => exact h.1 1 (Nat.le_of_ble_eq_true rfl)
        | 2, _ => exact h.1 2 (Nat.le_of_ble_eq_true rfl)
        | 3, _ => exact h.1 3 (Nat.le_of_ble_eq_true rfl)
        | 4, _ => exact h.1 4 (Nat.le_of_ble_eq_true rfl)
        | 5, _ => exact h.1 5 (Nat.le_of_ble_eq_true rfl)
        | 6, _ => exact h.1 6 (Nat.le_of_ble_eq_true rfl)
        | 7, _ => exact h.1 7 (Nat.le_of_ble_eq_true rfl)
        | 8, _ => exact h.1 8 (Nat.le_of_ble_eq_true rfl)
        | 9, _ => exact h.1 9 (Nat.le_of_ble_eq_true rfl)
        | 10, _ => exact h.1 10 (Nat.le_of_ble_eq_true rfl)
        | 11, _ => exact eB
        | 12, _ => exact h.1 12 (Nat.le_of_ble_eq_true rfl)
        | 13, _ => exact h.1 13 (Nat.le_of_ble_eq_true rfl)
        | 14, _ => exact h.1 14 (Nat.le_of_ble_eq_true rfl)
        | 15, _ => exact h.1 15 (Nat.le_of_ble_eq_true rfl)
        | 16, _ => exact h.1 16 (Nat.le_of_ble_eq_true rfl)
        | 17, _ => exact h.1 17 (Nat.le_of_ble_eq_true rfl)
        | 18, _ => exact h.1 18 (Nat.le_of_ble_eq_true rfl)
        | 19, _ => exact h.1 19 (Nat.le_of_ble_eq_true rfl)
        | 20, _ => exact h.1 20 (Nat.le_of_ble_eq_true rfl)
        | 21, _ => exact h.1 21 (Nat.le_of_ble_eq_true rfl)
        | 22, _ => exact h.1 22 (Nat.le_of_ble_eq_true rfl)
        | 23, _ => exact h.1 23 (Nat.le_of_ble_eq_true rfl)
        | 24, _ => exact h.1 24 (Nat.le_of_ble_eq_true rfl)
        | 25, _ => exact h.1 25 (Nat.le_of_ble_eq_true rfl)
        | 26, _ => exact h.1 26 (Nat.le_of_ble_eq_true rfl)
        | 27, _ => exact h.1 27 (Nat.le_of_ble_eq_true rfl)
        | 28, _ => exact h.1 28 (Nat.le_of_ble_eq_true rfl)
        | 29, _ => exact h.1 29 (Nat.le_of_ble_eq_true rfl)
        | 30, _ => exact h.1 30 (Nat.le_of_ble_eq_true rfl)
        | 31, _ => exact h.1 31 (Nat.le_of_ble_eq_true rfl)
        | 32, _ => exact h.1 32 (Nat.le_of_ble_eq_true rfl)
        | 33, _ => exact h.1 33 (Nat.le_of_ble_eq_true rfl)
        | 34, _ => exact h.1 34 (Nat.le_of_ble_eq_true rfl)
        | 35, _ => exact h.1 35 (Nat.le_of_ble_eq_true rfl)
        | 36, _ => exact h.1 36 (Nat.le_of_ble_eq_true rfl)
        | 37, _ => exact h.1 37 (Nat.le_of_ble_eq_true rfl)
        | 38, _ => exact h.1 38 (Nat.le_of_ble_eq_true rfl)
        | 39, _ => exact h.1 39 (Nat.le_of_ble_eq_true rfl)
        | j + 40, hj => exact absurd hj (by omega), h.2.1.hi rfl rfl (upd_hi (by omega)), h.2.2.1.hi rfl rfl rfl rfl (upd_hi (by omega)), ⟨h.2.2.2.1.1, h.2.2.2.1.2.1, h.2.2.2.1.2.2.1, ⟨h.2.2.2.1.2.2.2.1.1, ?_, h.2.2.2.1.2.2.2.1.2.2⟩, h.2.2.2.1.2.2.2.2⟩, ?_⟩, ⟨fun e => ?_, hge, ?_⟩, ⟨rfl, rfl, rfl, rfl, rfl, rfl, rfl, rfl, rfl, rfl⟩, rfl, rfl⟩
      · show 0 ≤ (mxI (v 0 2) (v 6 k)).toInt
        have := h.2.2.2.1.2.2.2.1.2.1
        omega
      · have := h.2.2.2.2
        omega
      · show _ = mxI (v 0 2) (v 6 k)
        rw [e]
        unfold mxI
        by_cases q : v 6 k ≤ v 0 2
        · rw [if_pos q, if_neg (Int32.not_lt.mpr q)]
        · rw [if_neg q, if_pos (Int32.not_le.mp q)]
      · show (v 0 2).toInt ≤ (mxI (v 0 2) (v 6 k)).toInt
        omega
    · by_cases k1 : v 5 k = 1
      · have d1 : coV (NL v) (v 5 k) (v 6 k) = turnV (NL (NL v)) (v 6 k) := (if_neg k0).trans (if_pos k1)
        have d2 : ce1M m k = cgM (NM m) (m 1 (50 + 3 * k + 2)) := (if_neg (by rw [e5]; exact k0)).trans (if_pos (by rw [e5]; exact k1))
        have hg := (h.2.2.2.1.2.2.2.2.1 k hk).1 k1
        rw [d1, d2, e6]
        by_cases hn : v 6 k = v 0 1
        · have f1 : turnV (NL (NL v)) (v 6 k) = NL (NL v) := if_pos hn
          rw [f1]
          have eA : cgM (NM m) (v 6 k) 1 12 = v 0 3 := by
            show (if v 6 k = m 1 10 then m 1 12 else m 1 8) = _
            rw [if_pos (by rw [e10]; exact hn), e12]
          have eB : cgM (NM m) (v 6 k) 1 10 = v 0 1 := hn
          exact ⟨bk, ⟨by
            intro j hj
            match j, hj with
            | 0, _ => exact h.1 0 (Nat.le_of_ble_eq_true rfl)
            | 1, _ => exact h.1 1 (Nat.le_of_ble_eq_true rfl)
            | 2, _ => exact h.1 2 (Nat.le_of_ble_eq_true rfl)
            | 3, _ => exact h.1 3 (Nat.le_of_ble_eq_true rfl)
            | 4, _ => exact h.1 4 (Nat.le_of_ble_eq_true rfl)
            | 5, _ => exact h.1 5 (Nat.le_of_ble_eq_true rfl)
            | 6, _ => exact h.1 6 (Nat.le_of_ble_eq_true rfl)
            | 7, _ => exact h.1 7 (Nat.le_of_ble_eq_true rfl)
            | 8, _ => exact h.1 8 (Nat.le_of_ble_eq_true rfl)
            | 9, _ => exact h.1 9 (Nat.le_of_ble_eq_true rfl)
            | 10, _ => exact eB
            | 11, _ => exact h.1 11 (Nat.le_of_ble_eq_true rfl)
            | 12, _ => exact eA
            | 13, _ => exact h.1 13 (Nat.le_of_ble_eq_true rfl)
            | 14, _ => exact h.1 14 (Nat.le_of_ble_eq_true rfl)
            | 15, _ => exact h.1 15 (Nat.le_of_ble_eq_true rfl)
            | 16, _ => exact h.1 16 (Nat.le_of_ble_eq_true rfl)
            | 17, _ => exact h.1 17 (Nat.le_of_ble_eq_true rfl)
            | 18, _ => exact h.1 18 (Nat.le_of_ble_eq_true rfl)
            | 19, _ => exact h.1 19 (Nat.le_of_ble_eq_true rfl)
            | 20, _ => exact h.1 20 (Nat.le_of_ble_eq_true rfl)
            | 21, _ => exact h.1 21 (Nat.le_of_ble_eq_true rfl)
            | 22, _ => exact h.1 22 (Nat.le_of_ble_eq_true rfl)
            | 23, _ => exact h.1 23 (Nat.le_of_ble_eq_true rfl)
            | 24, _ => exact h.1 24 (Nat.le_of_ble_eq_true rfl)
            | 25, _ => exact h.1 25 (Nat.le_of_ble_eq_true rfl)
            | 26, _ => exact h.1 26 (Nat.le_of_ble_eq_true rfl)
            | 27, _ => exact h.1 27 (Nat.le_of_ble_eq_true rfl)
            | 28, _ => exact h.1 28 (Nat.le_of_ble_eq_true rfl)
            | 29, _ => exact h.1 29 (Nat.le_of_ble_eq_true rfl)
            | 30, _ => exact h.1 30 (Nat.le_of_ble_eq_true rfl)
            | 31, _ => exact h.1 31 (Nat.le_of_ble_eq_true rfl)
            | 32, _ => exact h.1 32 (Nat.le_of_ble_eq_true rfl)
            | 33, _ => exact h.1 33 (Nat.le_of_ble_eq_true rfl)
            | 34, _ => exact h.1 34 (Nat.le_of_ble_eq_true rfl)
            | 35, _ => exact h.1 35 (Nat.le_of_ble_eq_true rfl)
            | 36, _ => exact h.1 36 (Nat.le_of_ble_eq_true rfl)
            | 37, _ => exact h.1 37 (Nat.le_of_ble_eq_true rfl)
            | 38, _ => exact h.1 38 (Nat.le_of_ble_eq_true rfl)
            | 39, _ => exact h.1 39 (Nat.le_of_ble_eq_true rfl)
            | j + 40, hj => exact absurd hj (by omega), h.2.1.hi rfl rfl (fun j hj => (upd_hi (by omega) j hj).trans (upd_hi (by omega) j hj)), h.2.2.1.hi rfl rfl rfl rfl (fun j hj => (upd_hi (by omega) j hj).trans (upd_hi (by omega) j hj)), h.2.2.2⟩, Br.rf v bk, ⟨rfl, rfl, rfl, rfl, rfl, rfl, rfl, rfl, rfl, rfl⟩, rfl, rfl⟩
        · have f1 : turnV (NL (NL v)) (v 6 k) = vS (vS (NL (NL v)) 1 (v 6 k)) 3 (v 1 8) := if_neg hn
          rw [f1]
          have eA : cgM (NM m) (v 6 k) 1 12 = v 1 8 := by
            show (if v 6 k = m 1 10 then m 1 12 else m 1 8) = _
            rw [if_neg (by rw [e10]; exact hn), e8]
          have eB : cgM (NM m) (v 6 k) 1 10 = v 6 k := rfl
          refine ⟨bk, ⟨by
            intro j hj
            match j, hj with
            | 0, _ => exact h.1 0 (Nat.le_of_ble_eq_true rfl)
            | 1, _ => exact h.1 1 (Nat.le_of_ble_eq_true rfl)
            | 2, _ => exact h.1 2 (Nat.le_of_ble_eq_true rfl)
            | 3, _ => exact h.1 3 (Nat.le_of_ble_eq_true rfl)
            | 4, _ => exact h.1 4 (Nat.le_of_ble_eq_true rfl)
            | 5, _ => exact h.1 5 (Nat.le_of_ble_eq_true rfl)
            | 6, _ => exact h.1 6 (Nat.le_of_ble_eq_true rfl)
            | 7, _ => exact h.1 7 (Nat.le_of_ble_eq_true rfl)
            | 8, _ => exact h.1 8 (Nat.le_of_ble_eq_true rfl)
            | 9, _ => exact h.1 9 (Nat.le_of_ble_eq_true rfl)
            | 10, _ => exact eB
            | 11, _ => exact h.1 11 (Nat.le_of_ble_eq_true rfl)
            | 12, _ => exact eA
            | 13, _ => exact h.1 13 (Nat.le_of_ble_eq_true rfl)
            | 14, _ => exact h.1 14 (Nat.le_of_ble_eq_true rfl)
            | 15, _ => exact h.1 15 (Nat.le_of_ble_eq_true rfl)
            | 16, _ => exact h.1 16 (Nat.le_of_ble_eq_true rfl)
            | 17, _ => exact h.1 17 (Nat.le_of_ble_eq_true rfl)
            | 18, _ => exact h.1 18 (Nat.le_of_ble_eq_true rfl)
            | 19, _ => exact h.1 19 (Nat.le_of_ble_eq_true rfl)
            | 20, _ => exact h.1 20 (Nat.le_of_ble_eq_true rfl)
            | 21, _ => exact h.1 21 (Nat.le_of_ble_eq_true rfl)
            | 22, _ => exact h.1 22 (Nat.le_of_ble_eq_true rfl)
            | 23, _ => exact h.1 23 (Nat.le_of_ble_eq_true rfl)
            | 24, _ => exact h.1 24 (Nat.le_of_ble_eq_true rfl)
            | 25, _ => exact h.1 25 (Nat.le_of_ble_eq_true rfl)
            | 26, _ => exact h.1 26 (Nat.le_of_ble_eq_true rfl)
            | 27, _ => exact h.1 27 (Nat.le_of_ble_eq_true rfl)
            | 28, _ => exact h.1 28 (Nat.le_of_ble_eq_true rfl)
            | 29, _ => exact h.1 29 (Nat.le_of_ble_eq_true rfl)
            | 30, _ => exact h.1 30 (Nat.le_of_ble_eq_true rfl)
            | 31, _ => exact h.1 31 (Nat.le_of_ble_eq_true rfl)
            | 32, _ => exact h.1 32 (Nat.le_of_ble_eq_true rfl)
            | 33, _ => exact h.1 33 (Nat.le_of_ble_eq_true rfl)
            | 34, _ => exact h.1 34 (Nat.le_of_ble_eq_true rfl)
            | 35, _ => exact h.1 35 (Nat.le_of_ble_eq_true rfl)
            | 36, _ => exact h.1 36 (Nat.le_of_ble_eq_true rfl)
            | 37, _ => exact h.1 37 (Nat.le_of_ble_eq_true rfl)
            | 38, _ => exact h.1 38 (Nat.le_of_ble_eq_true rfl)
            | 39, _ => exact h.1 39 (Nat.le_of_ble_eq_true rfl)
            | j + 40, hj => exact absurd hj (by omega), h.2.1.hi rfl rfl (fun j hj => (upd_hi (by omega) j hj).trans (upd_hi (by omega) j hj)), h.2.2.1.hi rfl rfl rfl rfl (fun j hj => (upd_hi (by omega) j hj).trans (upd_hi (by omega) j hj)), ⟨h.2.2.2.1.1, h.2.2.2.1.2.1, h.2.2.2.1.2.2.1, ⟨hg, h.2.2.2.1.2.2.2.1.2.1, ?_, h.2.2.2.1.2.2.2.1.2.2.2⟩, h.2.2.2.1.2.2.2.2⟩, h.2.2.2.2⟩, Br.rf v bk, ⟨rfl, rfl, rfl, rfl, rfl, rfl, rfl, rfl, rfl, rfl⟩, rfl, rfl⟩
          exact h.2.2.2.1.2.2.1.2.2.2.2.2.2.1
      · have d1 : coV (NL v) (v 5 k) (v 6 k) = vA (NL v) 1 (upd (v 1) 2 (v 6 k)) := (if_neg k0).trans (if_neg k1)
        have d2 : ce1M m k = vA m 1 (upd (m 1) 2 (m 1 (50 + 3 * k + 2))) := (if_neg (by rw [e5]; exact k0)).trans (if_neg (by rw [e5]; exact k1))
        have hg := (h.2.2.2.1.2.2.2.2.1 k hk).2 k0 k1
        rw [d1, d2, e6]
        exact ⟨bk, ⟨by
          intro j hj
          match j, hj with
          | 0, _ => exact h.1 0 (Nat.le_of_ble_eq_true rfl)
          | 1, _ => exact h.1 1 (Nat.le_of_ble_eq_true rfl)
          | 2, _ => exact rfl
          | 3, _ => exact h.1 3 (Nat.le_of_ble_eq_true rfl)
          | 4, _ => exact h.1 4 (Nat.le_of_ble_eq_true rfl)
          | 5, _ => exact h.1 5 (Nat.le_of_ble_eq_true rfl)
          | 6, _ => exact h.1 6 (Nat.le_of_ble_eq_true rfl)
          | 7, _ => exact h.1 7 (Nat.le_of_ble_eq_true rfl)
          | 8, _ => exact h.1 8 (Nat.le_of_ble_eq_true rfl)
          | 9, _ => exact h.1 9 (Nat.le_of_ble_eq_true rfl)
          | 10, _ => exact h.1 10 (Nat.le_of_ble_eq_true rfl)
          | 11, _ => exact h.1 11 (Nat.le_of_ble_eq_true rfl)
          | 12, _ => exact h.1 12 (Nat.le_of_ble_eq_true rfl)
          | 13, _ => exact h.1 13 (Nat.le_of_ble_eq_true rfl)
          | 14, _ => exact h.1 14 (Nat.le_of_ble_eq_true rfl)
          | 15, _ => exact h.1 15 (Nat.le_of_ble_eq_true rfl)
          | 16, _ => exact h.1 16 (Nat.le_of_ble_eq_true rfl)
          | 17, _ => exact h.1 17 (Nat.le_of_ble_eq_true rfl)
          | 18, _ => exact h.1 18 (Nat.le_of_ble_eq_true rfl)
          | 19, _ => exact h.1 19 (Nat.le_of_ble_eq_true rfl)
          | 20, _ => exact h.1 20 (Nat.le_of_ble_eq_true rfl)
          | 21, _ => exact h.1 21 (Nat.le_of_ble_eq_true rfl)
          | 22, _ => exact h.1 22 (Nat.le_of_ble_eq_true rfl)
          | 23, _ => exact h.1 23 (Nat.le_of_ble_eq_true rfl)
          | 24, _ => exact h.1 24 (Nat.le_of_ble_eq_true rfl)
          | 25, _ => exact h.1 25 (Nat.le_of_ble_eq_true rfl)
          | 26, _ => exact h.1 26 (Nat.le_of_ble_eq_true rfl)
          | 27, _ => exact h.1 27 (Nat.le_of_ble_eq_true rfl)
          | 28, _ => exact h.1 28 (Nat.le_of_ble_eq_true rfl)
          | 29, _ => exact h.1 29 (Nat.le_of_ble_eq_true rfl)
          | 30, _ => exact h.1 30 (Nat.le_of_ble_eq_true rfl)
          | 31, _ => exact h.1 31 (Nat.le_of_ble_eq_true rfl)
          | 32, _ => exact h.1 32 (Nat.le_of_ble_eq_true rfl)
          | 33, _ => exact h.1 33 (Nat.le_of_ble_eq_true rfl)
          | 34, _ => exact h.1 34 (Nat.le_of_ble_eq_true rfl)
          | 35, _ => exact h.1 35 (Nat.le_of_ble_eq_true rfl)
          | 36, _ => exact h.1 36 (Nat.le_of_ble_eq_true rfl)
          | 37, _ => exact h.1 37 (Nat.le_of_ble_eq_true rfl)
          | 38, _ => exact h.1 38 (Nat.le_of_ble_eq_true rfl)
          | 39, _ => exact h.1 39 (Nat.le_of_ble_eq_true rfl)
          | j + 40, hj => exact absurd hj (by omega), h.2.1.hi rfl rfl (upd_hi (by omega)), h.2.2.1.hi rfl rfl rfl rfl (upd_hi (by omega)), ⟨h.2.2.2.1.1, h.2.2.2.1.2.1, ⟨h.2.2.2.1.2.2.1.1, h.2.2.2.1.2.2.1.2.1, hg, h.2.2.2.1.2.2.1.2.2.2⟩, h.2.2.2.1.2.2.2⟩, h.2.2.2.2⟩, Br.rf v bk, ⟨rfl, rfl, rfl, rfl, rfl, rfl, rfl, rfl, rfl, rfl⟩, rfl, rfl⟩
  · have c1 : cstV v k = v := if_neg ht
    have c2 : ceM m k = m := if_neg (by rw [e4, e9]; exact ht)
    rw [c1, c2]
    exact ⟨bk, h, Br.rf v bk, FR.rf m, rfl, rfl⟩
theorem cry_S {B : Int} {bk : Int32} {v m : pLV} (h : SL B bk v (m 1)) : ∀ k, k ≤ (v 0 29).toNatClampNeg → ∃ bk', SL B bk' (cryI k v) (coI k m 1) ∧ Br v (cryI k v) bk bk' ∧ FR m (coI k m) ∧ coI k m 0 12 = m 0 12
  | 0, _ => ⟨bk, h, Br.rf v bk, FR.rf m, rfl⟩
  | k + 1, hk => by
    obtain ⟨b1, h1, h2, h3, h4⟩ := cry_S h k (by omega)
    have e29 : cryI k v 0 29 = v 0 29 := cryI_29 k v
    obtain ⟨b2, g1, g2, g3, g4, -⟩ := co_S h1 (k := k) (by rw [e29]; omega)
    exact ⟨b2, g1, h2.tr g2, h3.tr g3, g4.trans h4⟩
set_option maxHeartbeats 1000000 in
/-- the clock and the schedule -/
theorem t1_S {B : Int} {bk : Int32} {v m : pLV} (h : SL B bk v (m 1)) : ∃ bk', SL B bk' (tk1 v) (t1M m 1) ∧ Br v (tk1 v) bk bk' ∧ FR m (t1M m) ∧ t1M m 0 12 = 0 := by
  have h0 : SL B bk (NL (vS v 0 (v 0 0 + 1))) (NM (t0M m) 1) := by
    have e9 : m 1 9 = v 0 0 := h.1 9 (by omega)
    have eC : t0M m 1 9 = v 0 0 + 1 := by
      show m 1 9 + 1 = _
      rw [e9]
    exact ⟨by
      intro j hj
      match j, hj with
      | 0, _ => exact h.1 0 (Nat.le_of_ble_eq_true rfl)
      | 1, _ => exact h.1 1 (Nat.le_of_ble_eq_true rfl)
      | 2, _ => exact h.1 2 (Nat.le_of_ble_eq_true rfl)
      | 3, _ => exact h.1 3 (Nat.le_of_ble_eq_true rfl)
      | 4, _ => exact h.1 4 (Nat.le_of_ble_eq_true rfl)
      | 5, _ => exact h.1 5 (Nat.le_of_ble_eq_true rfl)
      | 6, _ => exact h.1 6 (Nat.le_of_ble_eq_true rfl)
      | 7, _ => exact h.1 7 (Nat.le_of_ble_eq_true rfl)
      | 8, _ => exact h.1 8 (Nat.le_of_ble_eq_true rfl)
      | 9, _ => exact eC
      | 10, _ => exact h.1 10 (Nat.le_of_ble_eq_true rfl)
      | 11, _ => exact h.1 11 (Nat.le_of_ble_eq_true rfl)
      | 12, _ => exact h.1 12 (Nat.le_of_ble_eq_true rfl)
      | 13, _ => exact h.1 13 (Nat.le_of_ble_eq_true rfl)
      | 14, _ => exact h.1 14 (Nat.le_of_ble_eq_true rfl)
      | 15, _ => exact h.1 15 (Nat.le_of_ble_eq_true rfl)
      | 16, _ => exact h.1 16 (Nat.le_of_ble_eq_true rfl)
      | 17, _ => exact h.1 17 (Nat.le_of_ble_eq_true rfl)
      | 18, _ => exact h.1 18 (Nat.le_of_ble_eq_true rfl)
      | 19, _ => exact h.1 19 (Nat.le_of_ble_eq_true rfl)
      | 20, _ => exact h.1 20 (Nat.le_of_ble_eq_true rfl)
      | 21, _ => exact h.1 21 (Nat.le_of_ble_eq_true rfl)
      | 22, _ => exact h.1 22 (Nat.le_of_ble_eq_true rfl)
      | 23, _ => exact h.1 23 (Nat.le_of_ble_eq_true rfl)
      | 24, _ => exact h.1 24 (Nat.le_of_ble_eq_true rfl)
      | 25, _ => exact h.1 25 (Nat.le_of_ble_eq_true rfl)
      | 26, _ => exact h.1 26 (Nat.le_of_ble_eq_true rfl)
      | 27, _ => exact h.1 27 (Nat.le_of_ble_eq_true rfl)
      | 28, _ => exact h.1 28 (Nat.le_of_ble_eq_true rfl)
      | 29, _ => exact h.1 29 (Nat.le_of_ble_eq_true rfl)
      | 30, _ => exact h.1 30 (Nat.le_of_ble_eq_true rfl)
      | 31, _ => exact h.1 31 (Nat.le_of_ble_eq_true rfl)
      | 32, _ => exact h.1 32 (Nat.le_of_ble_eq_true rfl)
      | 33, _ => exact h.1 33 (Nat.le_of_ble_eq_true rfl)
      | 34, _ => exact h.1 34 (Nat.le_of_ble_eq_true rfl)
      | 35, _ => exact h.1 35 (Nat.le_of_ble_eq_true rfl)
      | 36, _ => exact h.1 36 (Nat.le_of_ble_eq_true rfl)
      | 37, _ => exact h.1 37 (Nat.le_of_ble_eq_true rfl)
      | 38, _ => exact h.1 38 (Nat.le_of_ble_eq_true rfl)
      | 39, _ => exact h.1 39 (Nat.le_of_ble_eq_true rfl)
      | j + 40, hj => exact absurd hj (by omega), h.2.1.hi rfl rfl (upd_hi (by omega)), h.2.2.1.hi rfl rfl rfl rfl (upd_hi (by omega)), h.2.2.2⟩
  have e49 : m 1 49 = v 0 29 := h.2.2.1.1
  have hsz := h.2.2.2.1.2.2.2.1.2.2.2.2.2
  have hK : cryK (NL (vS v 0 (v 0 0 + 1))) = (v 0 29).toNatClampNeg := by
    show min 20 (v 0 29).toNatClampNeg = _
    have e : (v 0 29).toNatClampNeg = (v 0 29).toInt.toNat := rfl
    have := hsz.2
    omega
  obtain ⟨b, g1, g2, g3, g4⟩ := cry_S h0 (v 0 29).toNatClampNeg (Nat.le_refl _)
  have e1 : tk1 v = cryI (v 0 29).toNatClampNeg (NL (vS v 0 (v 0 0 + 1))) := by
    unfold tk1 cryV
    rw [hK]
  have e2 : t1M m = coI (v 0 29).toNatClampNeg (NM (t0M m)) := by
    unfold t1M cryM
    rw [show NM (t0M m) 1 49 = m 1 49 from rfl, e49]
  rw [e1, e2]
  exact ⟨b, g1, g2, (show FR m (NM (t0M m)) from ⟨rfl, rfl, rfl, rfl, rfl, rfl, rfl, rfl, rfl, rfl⟩).tr g3, g4⟩
set_option maxHeartbeats 1000000 in
/-- the inflow -/
theorem t2_S {B : Int} {bk : Int32} {v m : pLV} (h : SL B bk v (m 1)) : SL B bk (tk2 v) (t2M m 1) ∧ FR m (t2M m) ∧ t2M m 0 12 = m 0 12 ∧ tk2 v 0 2 = v 0 2 := by
  have e30 : m 1 30 = v 0 22 := h.1 30 (by omega)
  have e0 : m 1 0 = v 1 0 := h.1 0 (by omega)
  have e1 : m 1 1 = v 1 1 := h.1 1 (by omega)
  have eC : m 1 30 + m 1 0 = v 0 22 + v 1 0 := by rw [e30, e0]
  have h0 : SL B bk (NL (vS v 22 (v 0 22 + v 1 0))) (NM (vA m 1 (upd (m 1) 30 (m 1 30 + m 1 0))) 1) :=
    ⟨by
      intro j hj
      match j, hj with
      | 0, _ => exact h.1 0 (Nat.le_of_ble_eq_true rfl)
      | 1, _ => exact h.1 1 (Nat.le_of_ble_eq_true rfl)
      | 2, _ => exact h.1 2 (Nat.le_of_ble_eq_true rfl)
      | 3, _ => exact h.1 3 (Nat.le_of_ble_eq_true rfl)
      | 4, _ => exact h.1 4 (Nat.le_of_ble_eq_true rfl)
      | 5, _ => exact h.1 5 (Nat.le_of_ble_eq_true rfl)
      | 6, _ => exact h.1 6 (Nat.le_of_ble_eq_true rfl)
      | 7, _ => exact h.1 7 (Nat.le_of_ble_eq_true rfl)
      | 8, _ => exact h.1 8 (Nat.le_of_ble_eq_true rfl)
      | 9, _ => exact h.1 9 (Nat.le_of_ble_eq_true rfl)
      | 10, _ => exact h.1 10 (Nat.le_of_ble_eq_true rfl)
      | 11, _ => exact h.1 11 (Nat.le_of_ble_eq_true rfl)
      | 12, _ => exact h.1 12 (Nat.le_of_ble_eq_true rfl)
      | 13, _ => exact h.1 13 (Nat.le_of_ble_eq_true rfl)
      | 14, _ => exact h.1 14 (Nat.le_of_ble_eq_true rfl)
      | 15, _ => exact h.1 15 (Nat.le_of_ble_eq_true rfl)
      | 16, _ => exact h.1 16 (Nat.le_of_ble_eq_true rfl)
      | 17, _ => exact h.1 17 (Nat.le_of_ble_eq_true rfl)
      | 18, _ => exact h.1 18 (Nat.le_of_ble_eq_true rfl)
      | 19, _ => exact h.1 19 (Nat.le_of_ble_eq_true rfl)
      | 20, _ => exact h.1 20 (Nat.le_of_ble_eq_true rfl)
      | 21, _ => exact h.1 21 (Nat.le_of_ble_eq_true rfl)
      | 22, _ => exact h.1 22 (Nat.le_of_ble_eq_true rfl)
      | 23, _ => exact h.1 23 (Nat.le_of_ble_eq_true rfl)
      | 24, _ => exact h.1 24 (Nat.le_of_ble_eq_true rfl)
      | 25, _ => exact h.1 25 (Nat.le_of_ble_eq_true rfl)
      | 26, _ => exact h.1 26 (Nat.le_of_ble_eq_true rfl)
      | 27, _ => exact h.1 27 (Nat.le_of_ble_eq_true rfl)
      | 28, _ => exact h.1 28 (Nat.le_of_ble_eq_true rfl)
      | 29, _ => exact h.1 29 (Nat.le_of_ble_eq_true rfl)
      | 30, _ => exact eC
      | 31, _ => exact h.1 31 (Nat.le_of_ble_eq_true rfl)
      | 32, _ => exact h.1 32 (Nat.le_of_ble_eq_true rfl)
      | 33, _ => exact h.1 33 (Nat.le_of_ble_eq_true rfl)
      | 34, _ => exact h.1 34 (Nat.le_of_ble_eq_true rfl)
      | 35, _ => exact h.1 35 (Nat.le_of_ble_eq_true rfl)
      | 36, _ => exact h.1 36 (Nat.le_of_ble_eq_true rfl)
      | 37, _ => exact h.1 37 (Nat.le_of_ble_eq_true rfl)
      | 38, _ => exact h.1 38 (Nat.le_of_ble_eq_true rfl)
      | 39, _ => exact h.1 39 (Nat.le_of_ble_eq_true rfl)
      | j + 40, hj => exact absurd hj (by omega), h.2.1.hi rfl rfl (upd_hi (by omega)), h.2.2.1.hi rfl rfl rfl rfl (upd_hi (by omega)), h.2.2.2⟩
  have hs := h.2.2.2.1.2.2.1
  obtain ⟨g1, -, -, g4⟩ := fill_S0 h0 (a := v 1 0) (b := v 1 1) hs.1.1 hs.2.1.1 (by have := hs.1.2; have := hs.2.1.2; omega)
  unfold tk2 t2M
  rw [e0, e1] at *
  exact ⟨g1, (show FR m (NM (vA m 1 (upd (m 1) 30 (m 1 30 + v 1 0)))) from ⟨rfl, rfl, rfl, rfl, rfl, rfl, rfl, rfl, rfl, rfl⟩).tr (fillM_FR _ _ _ _), g4, rfl⟩
end
