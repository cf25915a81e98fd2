noncomputable section
/-! THE TWO SIDES ARE ALIKE: overflow, the best limit, keep, back -/
theorem bk_S {B : Int} {bk : Int32} {v : pLV} {f : Nat → Int32} (h : SL B bk v f) : SL B 1000 v (upd f 11 1000) := by
  have z : (0 : Int) ≤ (1000 : Int32).toInt := by decide
  exact ⟨by
    intro j hj
    match j, hj with
    | 0, _ => exact h.1 0 (Nat.le_of_ble_eq_true rfl)
    | 1, _ => exact h.1 1 (Nat.le_of_ble_eq_true rfl)
    | 2, _ => exact h.1 2 (Nat.le_of_ble_eq_true rfl)
    | 3, _ => exact h.1 3 (Nat.le_of_ble_eq_true rfl)
    | 4, _ => exact h.1 4 (Nat.le_of_ble_eq_true rfl)
    | 5, _ => exact h.1 5 (Nat.le_of_ble_eq_true rfl)
    | 6, _ => exact h.1 6 (Nat.le_of_ble_eq_true rfl)
    | 7, _ => exact h.1 7 (Nat.le_of_ble_eq_true rfl)
    | 8, _ => exact h.1 8 (Nat.le_of_ble_eq_true rfl)
    | 9, _ => exact h.1 9 (Nat.le_of_ble_eq_true rfl)
    | 10, _ => exact h.1 10 (Nat.le_of_ble_eq_true rfl)
    | 11, _ => exact rfl
    | 12, _ => exact h.1 12 (Nat.le_of_ble_eq_true rfl)
    | 13, _ => exact h.1 13 (Nat.le_of_ble_eq_true rfl)
    | 14, _ => exact h.1 14 (Nat.le_of_ble_eq_true rfl)
    | 15, _ => exact h.1 15 (Nat.le_of_ble_eq_true rfl)
    | 16, _ => exact h.1 16 (Nat.le_of_ble_eq_true rfl)
    | 17, _ => exact h.1 17 (Nat.le_of_ble_eq_true rfl)
    | 18, _ => exact h.1 18 (Nat.le_of_ble_eq_true rfl)
    | 19, _ => exact h.1 19 (Nat.le_of_ble_eq_true rfl)
    | 20, _ => exact h.1 20 (Nat.le_of_ble_eq_true rfl)
    | 21, _ => exact h.1 21 (Nat.le_of_ble_eq_true rfl)
    | 22, _ => exact h.1 22 (Nat.le_of_ble_eq_true rfl)
    | 23, _ => exact h.1 23 (Nat.le_of_ble_eq_true rfl)
    | 24, _ => exact h.1 24 (Nat.le_of_ble_eq_true rfl)
    | 25, _ => exact h.1 25 (Nat.le_of_ble_eq_true rfl)
    | 26, _ => exact h.1 26 (Nat.le_of_ble_eq_true rfl)
    | 27, _ => exact h.1 27 (Nat.le_of_ble_eq_true rfl)
    | 28, _ => exact h.1 28 (Nat.le_of_ble_eq_true rfl)
    | 29, _ => exact h.1 29 (Nat.le_of_ble_eq_true rfl)
    | 30, _ => exact h.1 30 (Nat.le_of_ble_eq_true rfl)
    | 31, _ => exact h.1 31 (Nat.le_of_ble_eq_true rfl)
    | 32, _ => exact h.1 32 (Nat.le_of_ble_eq_true rfl)
    | 33, _ => exact h.1 33 (Nat.le_of_ble_eq_true rfl)
    | 34, _ => exact h.1 34 (Nat.le_of_ble_eq_true rfl)
    | 35, _ => exact h.1 35 (Nat.le_of_ble_eq_true rfl)
    | 36, _ => exact h.1 36 (Nat.le_of_ble_eq_true rfl)
    | 37, _ => exact h.1 37 (Nat.le_of_ble_eq_true rfl)
    | 38, _ => exact h.1 38 (Nat.le_of_ble_eq_true rfl)
    | 39, _ => exact h.1 39 (Nat.le_of_ble_eq_true rfl)
    | j + 40, hj => exact absurd hj (by omega), h.2.1.hi rfl rfl (upd_hi (by omega)), h.2.2.1.hi rfl rfl rfl rfl (upd_hi (by omega)), h.2.2.2.1, z⟩
theorem ov_S : ∀ (d k : Nat) {B : Int} {bk : Int32} {u y : pLV}, SL B bk u (y 1) → y 0 12 = 0 → (d : Int) ≤ (u 0 2).toInt → B + 2000 * (d : Int) ≤ 2000000000 → ovOK d y ∧ ovA (ovX d y) (ovN d k y) = ovR d (k + 1) u ∧ FR y (ovX d y) ∧ IRm (ovU d u)
  | 0, k, B, bk, u, y, h, h12, hd, hB => ⟨trivial, if_pos h12, FR.rf y, h.2.2.2.1.1⟩
  | d + 1, k, B, bk, u, y, h, h12, hd, hB => by
    have h2 : SL B 1000 (NL u) (NM (b1M y) 1) := bk_S h
    have hz : (0 : Int) < (1000 : Int32).toInt := by decide
    obtain ⟨t1, b, t2, t3, t4, -, t5⟩ := tick_S (v := NL u) (m := NM (b1M y)) h2 (Or.inr ⟨hz, by rw [NL_2]; omega⟩) (by omega)
    have f0 : FR y (NM (b1M y)) := ⟨rfl, rfl, rfl, rfl, rfl, rfl, rfl, rfl, rfl, rfl⟩
    rw [NL_2] at t5
    have e1 : ovX (d + 1) y = ovX d (tickM (NM (b1M y))) := if_pos h12
    have e2 : ovN (d + 1) k y = ovN d (k + 1) (tickM (NM (b1M y))) := if_pos h12
    by_cases hT : tickZ (NL u) = 0
    · have e3 : ovR (d + 1) (k + 1) u = ovR d (k + 1 + 1) (tickV (NL u)) := if_pos hT
      have e4 : ovU (d + 1) u = ovU d (tickV (NL u)) := if_pos hT
      obtain ⟨g1, g2, g3, g4⟩ := ov_S d (k + 1) t2 (t4.trans hT) (by omega) (by omega)
      rw [e1, e2, e3, e4]
      exact ⟨fun _ => ⟨t1, g1⟩, g2, (f0.tr t3).tr g3, g4⟩
    · have e3 : ovR (d + 1) (k + 1) u = nI (k + 1) := if_neg hT
      have e4 : ovU (d + 1) u = tickV (NL u) := if_neg hT
      have hn : ¬ tickM (NM (b1M y)) 0 12 = 0 := by
        rw [t4]
        exact hT
      rw [e1, e2, e3, e4, ovX_e hn, ovN_e hn]
      refine ⟨fun _ => ⟨t1, ?_⟩, if_neg hn, f0.tr t3, t2.2.2.2.1.1⟩
      cases d with
      | zero => exact trivial
      | succ d => exact fun z => absurd z hn
theorem overflow_S {B : Int} {x v u : pLV} {h : Nat → pLV} {m : pLV} (r : RS B x v u h m) (hB : B + 600000 ≤ 2000000000) : ovR 300 1 (brkV (cpyV u v) 300) = ovrR m ∧ RS B x v (ovU 300 (brkV (cpyV u v) 300)) h (ovrM m) ∧ ovOK 300 (ov0 m) := by
  have hd : ((300 : Nat) : Int) ≤ (brkV (cpyV u v) 300 0 2).toInt := by
    show ((300 : Nat) : Int) ≤ (mxI (v 0 2) 300).toInt
    rw [mxI_i]
    have : (300 : Int32).toInt = 300 := rfl
    omega
  have g : SN B (cpyV u v) (ov0 m 1) := r.1.cp r.2.1.1
  have hgr := g.2.2.2.1.2.2.2.1
  have g0 : SL B (v 0 2) (brkV (cpyV u v) 300) (ov0 m 1) := ⟨g.1, g.2.1, g.2.2.1, ⟨g.2.2.2.1.1, g.2.2.2.1.2.1, g.2.2.2.1.2.2.1, ⟨hgr.1, Int.le_trans (by decide) hd, hgr.2.2⟩, g.2.2.2.1.2.2.2.2⟩, g.2.2.2.2⟩
  obtain ⟨g1, g2, g3, g4⟩ := ov_S 300 0 g0 rfl hd (by omega)
  refine ⟨g2.symm, ?_, g1⟩
  have f0 : FQ m (ov0 m) := ⟨rfl, rfl, rfl, rfl, rfl, rfl, rfl, rfl⟩
  have o6 : ov0 m 6 = holdM (NM m) 6 := rfl
  unfold ovrM
  generalize ovX 300 (ov0 m) = y at g3
  refine r.fq (r.1.co (fun j hj => ?_)) (Int.le_refl _) g4 ((f0.tr g3.q).tr (rest_FQ y))
  rw [rst_1 y j hj, g3.2.2.2.2.1, o6, hld_6 m j hj]
theorem lim_S {B : Int} {v y : pLV} {j : Nat} (h : SN B v (y 1)) (hj : j ≤ 20) : SN B (lmV v (nI (50 * j))) (bl1 y (nI (50 * j)) 1) := by
  have h2 := h.2.2.2.1
  have b : IB 0 1000 (nI (50 * j)) := by
    unfold IB
    rw [nI_i (by omega)]
    omega
  exact ⟨by
    intro j hj
    match j, hj with
    | 0, _ => exact h.1 0 (Nat.le_of_ble_eq_true rfl)
    | 1, _ => exact h.1 1 (Nat.le_of_ble_eq_true rfl)
    | 2, _ => exact h.1 2 (Nat.le_of_ble_eq_true rfl)
    | 3, _ => exact rfl
    | 4, _ => exact h.1 4 (Nat.le_of_ble_eq_true rfl)
    | 5, _ => exact h.1 5 (Nat.le_of_ble_eq_true rfl)
    | 6, _ => exact h.1 6 (Nat.le_of_ble_eq_true rfl)
    | 7, _ => exact h.1 7 (Nat.le_of_ble_eq_true rfl)
    | 8, _ => exact h.1 8 (Nat.le_of_ble_eq_true rfl)
    | 9, _ => exact h.1 9 (Nat.le_of_ble_eq_true rfl)
    | 10, _ => exact h.1 10 (Nat.le_of_ble_eq_true rfl)
    | 11, _ => exact h.1 11 (Nat.le_of_ble_eq_true rfl)
    | 12, _ => exact h.1 12 (Nat.le_of_ble_eq_true rfl)
    | 13, _ => exact h.1 13 (Nat.le_of_ble_eq_true rfl)
    | 14, _ => exact h.1 14 (Nat.le_of_ble_eq_true rfl)
    | 15, _ => exact h.1 15 (Nat.le_of_ble_eq_true rfl)
    | 16, _ => exact h.1 16 (Nat.le_of_ble_eq_true rfl)
    | 17, _ => exact h.1 17 (Nat.le_of_ble_eq_true rfl)
    | 18, _ => exact h.1 18 (Nat.le_of_ble_eq_true rfl)
    | 19, _ => exact h.1 19 (Nat.le_of_ble_eq_true rfl)
    | 20, _ => exact h.1 20 (Nat.le_of_ble_eq_true rfl)
    | 21, _ => exact h.1 21 (Nat.le_of_ble_eq_true rfl)
    | 22, _ => exact h.1 22 (Nat.le_of_ble_eq_true rfl)
    | 23, _ => exact h.1 23 (Nat.le_of_ble_eq_true rfl)
    | 24, _ => exact h.1 24 (Nat.le_of_ble_eq_true rfl)
    | 25, _ => exact h.1 25 (Nat.le_of_ble_eq_true rfl)
    | 26, _ => exact h.1 26 (Nat.le_of_ble_eq_true rfl)
    | 27, _ => exact h.1 27 (Nat.le_of_ble_eq_true rfl)
    | 28, _ => exact h.1 28 (Nat.le_of_ble_eq_true rfl)
    | 29, _ => exact h.1 29 (Nat.le_of_ble_eq_true rfl)
    | 30, _ => exact h.1 30 (Nat.le_of_ble_eq_true rfl)
    | 31, _ => exact h.1 31 (Nat.le_of_ble_eq_true rfl)
    | 32, _ => exact h.1 32 (Nat.le_of_ble_eq_true rfl)
    | 33, _ => exact h.1 33 (Nat.le_of_ble_eq_true rfl)
    | 34, _ => exact h.1 34 (Nat.le_of_ble_eq_true rfl)
    | 35, _ => exact h.1 35 (Nat.le_of_ble_eq_true rfl)
    | 36, _ => exact h.1 36 (Nat.le_of_ble_eq_true rfl)
    | 37, _ => exact h.1 37 (Nat.le_of_ble_eq_true rfl)
    | 38, _ => exact h.1 38 (Nat.le_of_ble_eq_true rfl)
    | 39, _ => exact h.1 39 (Nat.le_of_ble_eq_true rfl)
    | j + 40, hj => exact absurd hj (by omega), h.2.1.hi rfl rfl (upd_hi (by omega)), h.2.2.1.hi rfl rfl rfl rfl (upd_hi (by omega)), ⟨h2.1, h2.2.1, ⟨h2.2.2.1.1, h2.2.2.1.2.1, h2.2.2.1.2.2.1, b, h2.2.2.1.2.2.2.2⟩, h2.2.2.2⟩, h.2.2.2.2⟩
theorem bl1_FR (y : pLV) (l : Int32) : FR y (bl1 y l) := ⟨rfl, rfl, rfl, rfl, rfl, rfl, rfl, rfl, rfl, rfl⟩
theorem lm_p (u : pLV) (l : Int32) : NL (lmV u l) 2 = u 2 := rfl
theorem cpy_p (u v : pLV) : cpyV u v 2 = v 2 := rfl
theorem bl_S {B : Int} {v u x : pLV} {n : Nat} (h6 : SN B v (x 6)) (hx : SN B v (x 1)) (hu : IRm u) (hB : B + 2000 * (n : Int) ≤ 2000000000) (hB0 : 0 ≤ B) : ∀ j, j ≤ 21 → (SN B v (blS n x j 1) ∧ FQ x (blS n x j) ∧ blS n x j 6 = x 6 ∧ IRm (btU n v u j)) ∧ btB n v u j = blB n x j ∧ ((j = 0 ∧ blT n x j = -1 ∧ btM n v u j = -1) ∨ ((blT n x j).toInt = (btM n v u j).toInt + pS v ∧ 0 ≤ (btM n v u j).toInt)) ∧ ∀ i, i < j → tksOK n (bl1 (blS n x i) (nI (50 * i)))
  | 0, _ => ⟨⟨hx, FQ.rf x, rfl, hu⟩, rfl, Or.inl ⟨rfl, rfl, rfl⟩, fun i hi => absurd hi (Nat.not_lt_zero i)⟩
  | j + 1, hj => by
    obtain ⟨⟨a1, a2, a3, a4⟩, b1, b2, b3⟩ := bl_S h6 hx hu hB hB0 j (by omega)
    have g0 : SL B (NL (lmV (cpyV (btU n v u j) v) (nI (50 * j))) 0 2) (NL (lmV (cpyV (btU n v u j) v) (nI (50 * j)))) (bl1 (blS n x j) (nI (50 * j)) 1) := lim_S (SN.cp a1 a4) (by omega)
    obtain ⟨g1, g2⟩ := ticks_S g0 n hB
    have g3 := ticks_OK g0 hB
    have g4 := ticks_P g0 n hB
    have ep : pS (NL (lmV (cpyV (btU n v u j) v) (nI (50 * j)))) = pS v := pS_2 ((lm_p _ _).trans (cpy_p _ _))
    rw [ep] at g4
    have eS : blS n x (j + 1) = restM (NM (tmI n (bl1 (blS n x j) (nI (50 * j))))) := rfl
    have eU : btU n v u (j + 1) = tickI n (NL (lmV (cpyV (btU n v u j) v) (nI (50 * j)))) := rfl
    have eP : blP n x j = apM (tmI n (bl1 (blS n x j) (nI (50 * j)))) := rfl
    have eQ : btP n v u j = sumP (tickI n (NL (lmV (cpyV (btU n v u j) v) (nI (50 * j)))) 2) 4 - sumP (v 2) 4 := rfl
    have f6 : bl1 (blS n x j) (nI (50 * j)) 6 = blS n x j 6 := rfl
    have fF := bl1_FR (blS n x j) (nI (50 * j))
    rw [eS, eU]
    rw [ap_eq g1] at eP
    generalize tmI n (bl1 (blS n x j) (nI (50 * j))) = y at g1 g2 eP
    generalize tickI n (NL (lmV (cpyV (btU n v u j) v) (nI (50 * j)))) = w at g1 g4 eP eQ
    have y6 : y 6 = x 6 := g2.2.2.2.2.1.trans (f6.trans a3)
    obtain ⟨c1, c2, c3⟩ := ap_i g1.2.2.2.1.2.2.2.2.2 (by omega)
    obtain ⟨d1, d2, d3⟩ := ap_i hx.2.2.2.1.2.2.2.2.2 (by omega)
    have eQ' : (btP n v u j).toInt = pS w - pS v := by
      rw [eQ, i_sub (by omega) (by omega), c1, d1]
    have eP' : (blP n x j).toInt = pS w := by rw [eP, c1]
    have em : (-1 : Int32).toInt = -1 := rfl
    refine ⟨⟨h6.co (fun k hk => by rw [rst_1 y k hk, y6]), (a2.tr (fF.tr g2).q).tr (rest_FQ y), y6, g1.2.2.2.1.1⟩, ?_, ?_, ?_⟩
    · show (if btP n v u j ≤ btM n v u j then btB n v u j else nI (50 * j)) = (if blP n x j ≤ blT n x j then blB n x j else nI (50 * j))
      have : btP n v u j ≤ btM n v u j ↔ blP n x j ≤ blT n x j := by
        rw [ile, ile]
        rcases b2 with ⟨-, q1, q2⟩ | ⟨q1, q2⟩
        · rw [q1, q2]
          omega
        · omega
      by_cases z : blP n x j ≤ blT n x j
      · rw [if_pos z, if_pos (this.mpr z), b1]
      · rw [if_neg z, if_neg (fun q => z (this.mp q))]
    · refine Or.inr ?_
      show ((if blP n x j ≤ blT n x j then blT n x j else blP n x j)).toInt = ((if btP n v u j ≤ btM n v u j then btM n v u j else btP n v u j)).toInt + pS v ∧ 0 ≤ ((if btP n v u j ≤ btM n v u j then btM n v u j else btP n v u j)).toInt
      rcases b2 with ⟨-, q1, q2⟩ | ⟨q1, q2⟩
      · rw [if_neg (by rw [ile, q1]; omega), if_neg (by rw [ile, q2]; omega)]
        omega
      · by_cases z : blP n x j ≤ blT n x j
        · rw [if_pos z, if_pos (by rw [ile] at z ⊢; omega)]
          exact ⟨q1, q2⟩
        · rw [if_neg z, if_neg (by rw [ile] at z ⊢; omega)]
          omega
    · intro i hi
      by_cases z : i = j
      · subst z
        exact g3
      · exact b3 i (by omega)
theorem bestLimit_S {B : Int} {x v u : pLV} {h : Nat → pLV} {m : pLV} (r : RS B x v u h m) (n : Int32) (hB : B + 200000 ≤ 2000000000) (hB0 : 0 ≤ B) : cbestLimit_R x v u h n = besR m n ∧ RS B x v (cbestLimit_U x v u h n) h (besM m n) ∧ besOK m n := by
  by_cases p0 : n < 1
  · have hI : inI n 1 100 = 0 := inI_0l p0
    have hB : cbestLimit_B x v n = -1 := if_pos p0
    have hN : ¬ cbestLimit_B x v n = 0 := by rw [hB]; decide
    rw [show cbestLimit_R x v u h n = -1 from (if_neg hN).trans hB, show cbestLimit_U x v u h n = u from if_neg hN, show besR m n = -1 from if_pos hI, show besM m n = m from if_pos hI]
    exact ⟨rfl, r, Or.inl hI⟩
  by_cases p1 : 100 < n
  · have hI : inI n 1 100 = 0 := inI_0r p0 p1
    have hB : cbestLimit_B x v n = -1 := (if_neg p0).trans (if_pos p1)
    have hN : ¬ cbestLimit_B x v n = 0 := by rw [hB]; decide
    rw [show cbestLimit_R x v u h n = -1 from (if_neg hN).trans hB, show cbestLimit_U x v u h n = u from if_neg hN, show besR m n = -1 from if_pos hI, show besM m n = m from if_pos hI]
    exact ⟨rfl, r, Or.inl hI⟩
  have hI := inI_1 p0 p1
  have hC : cbestLimit_B x v n = 0 := (if_neg p0).trans (if_neg p1)
  have hk : n.toNatClampNeg ≤ 100 := by
    have g0 := i_nlt p0
    have g1 := i_nlt p1
    have e0 : (1 : Int32).toInt = 1 := rfl
    have e1 : (100 : Int32).toInt = 100 := rfl
    have e2 : n.toNatClampNeg = n.toInt.toNat := rfl
    omega
  rw [show cbestLimit_R x v u h n = _ from if_pos hC, show cbestLimit_U x v u h n = _ from if_pos hC, show besR m n = _ from if_neg hI, show besM m n = _ from if_neg hI]
  unfold besOK
  generalize n.toNatClampNeg = k at hk
  have h6 : SN B v (holdM (NM m) 6) := r.1.co (hld_6 m)
  have h1 : SN B v (holdM (NM m) 1) := r.1
  obtain ⟨⟨a1, a2, a3, a4⟩, b1, b2, b3⟩ := bl_S (n := k) (x := holdM (NM m)) h6 h1 r.2.1.1 (by omega) hB0 21 (Nat.le_refl _)
  exact ⟨b1, r.fq a1 (Int.le_refl _) a4 ((hold_FQ m).tr a2), Or.inr b3⟩
theorem im_2 {i : Int32} (p0 : ¬ i < 0) (p1 : ¬ 1 < i) : i = 0 ∨ i = 1 := by
  have e0 : (0 : Int32).toInt = 0 := rfl
  have e1 : (1 : Int32).toInt = 1 := rfl
  rw [ilt] at p0 p1
  rw [ieq, ieq]
  omega
theorem keep_S {B : Int} {x v u : pLV} {h : Nat → pLV} {m : pLV} (r : RS B x v u h m) (i : Int32) : ckeep_R x v u h i = kepR m i ∧ RS B (ckeep_X x v u h i) v u (ckeep_H x v u h i) (kepM m i) := by
  by_cases p0 : i < 0
  · have hI : inI i 0 1 = 0 := inI_0l p0
    have hB : ckeep_B x v i = -1 := if_pos p0
    have hN : ¬ ckeep_B x v i = 0 := by rw [hB]; decide
    rw [show ckeep_R x v u h i = -1 from (if_neg hN).trans hB, show ckeep_X x v u h i = x from if_neg hN, show ckeep_H x v u h i = h from if_neg hN, show kepR m i = -1 from if_pos hI, show kepM m i = m from if_pos hI]
    exact ⟨rfl, r⟩
  by_cases p1 : 1 < i
  · have hI : inI i 0 1 = 0 := inI_0r p0 p1
    have hB : ckeep_B x v i = -1 := (if_neg p0).trans (if_pos p1)
    have hN : ¬ ckeep_B x v i = 0 := by rw [hB]; decide
    rw [show ckeep_R x v u h i = -1 from (if_neg hN).trans hB, show ckeep_X x v u h i = x from if_neg hN, show ckeep_H x v u h i = h from if_neg hN, show kepR m i = -1 from if_pos hI, show kepM m i = m from if_pos hI]
    exact ⟨rfl, r⟩
  obtain ⟨r1, r2, r3, r4, r5, r6⟩ := r
  rcases im_2 p0 p1 with p | p
  · subst p
    have hB : ckeep_B x v 0 = 0 := (if_neg (by decide)).trans (if_neg (by decide))
    have hI : ¬ inI 0 0 1 = 0 := by decide
    rw [show ckeep_R x v u h 0 = _ from if_pos hB, show ckeep_X x v u h 0 = _ from if_pos hB, show ckeep_H x v u h 0 = _ from if_pos hB, show kepR m 0 = _ from if_neg hI, show kepM m 0 = _ from if_neg hI]
    rw [show (if (0 : Int32) = 0 then vS x 5 1 else vS x 6 1) = vS x 5 1 from rfl, show (if (0 : Int32) = 0 then updR h 8 (cpyV (h 8) v) else updR h 9 (cpyV (h 9) v)) = updR h 8 (cpyV (h 8) v) from rfl]
    refine ⟨(r1.1 9 (by omega)).symm, r1, ⟨r2.1, fun j hj => ?_⟩, r3, r4, ?_, ?_⟩
    · unfold updR
      split
      · exact cpy_rm (r2.2 _ (by omega))
      · exact r2.2 j hj
    · obtain ⟨s, q, h1, h2, h3, h4, h5, h6⟩ := r5
      refine ⟨s, q, h1, h2, h3, h4, h5, fun t ht => ?_⟩
      rw [show updR h 8 (cpyV (h 8) v) ((q + 8 - t) % 8) = h ((q + 8 - t) % 8) from if_neg (by omega)]
      exact h6 t ht
    · obtain ⟨i1, i2, i3, i4, i5⟩ := r6
      refine ⟨Or.inr rfl, i2, ?_, fun _ => ?_, fun z => ?_⟩
      · show m 0 4 ||| 1 <<< ((0 : Int32) &&& 31) = 1 + (x 0 6 + x 0 6)
        rw [i3]
        rcases i1 with e | e <;> rcases i2 with e2 | e2 <;> rw [e, e2] <;> decide
      · rw [show updR h 8 (cpyV (h 8) v) 8 = cpyV (h 8) v from if_pos rfl]
        refine (r1.cp (r2.2 8 (by omega))).co (fun j hj => ?_)
        show cpR 110 (110 * 0) (m 1) (m 3) j = m 1 j
        unfold cpR
        rw [if_pos (by omega)]
        exact congrArg (m 1) (by omega)
      · rw [show updR h 8 (cpyV (h 8) v) 9 = h 9 from if_neg (by omega)]
        refine (i5 z).co (fun j hj => ?_)
        show cpR 110 (110 * 0) (m 1) (m 3) (110 + j) = m 3 (110 + j)
        unfold cpR
        rw [if_neg (by omega)]
  · subst p
    have hB : ckeep_B x v 1 = 0 := (if_neg (by decide)).trans (if_neg (by decide))
    have hI : ¬ inI 1 0 1 = 0 := by decide
    rw [show ckeep_R x v u h 1 = _ from if_pos hB, show ckeep_X x v u h 1 = _ from if_pos hB, show ckeep_H x v u h 1 = _ from if_pos hB, show kepR m 1 = _ from if_neg hI, show kepM m 1 = _ from if_neg hI]
    rw [show (if (1 : Int32) = 0 then vS x 5 1 else vS x 6 1) = vS x 6 1 from if_neg (by decide), show (if (1 : Int32) = 0 then updR h 8 (cpyV (h 8) v) else updR h 9 (cpyV (h 9) v)) = updR h 9 (cpyV (h 9) v) from if_neg (by decide)]
    refine ⟨(r1.1 9 (by omega)).symm, r1, ⟨r2.1, fun j hj => ?_⟩, r3, r4, ?_, ?_⟩
    · unfold updR
      split
      · exact cpy_rm (r2.2 _ (by omega))
      · exact r2.2 j hj
    · obtain ⟨s, q, h1, h2, h3, h4, h5, h6⟩ := r5
      refine ⟨s, q, h1, h2, h3, h4, h5, fun t ht => ?_⟩
      rw [show updR h 9 (cpyV (h 9) v) ((q + 8 - t) % 8) = h ((q + 8 - t) % 8) from if_neg (by omega)]
      exact h6 t ht
    · obtain ⟨i1, i2, i3, i4, i5⟩ := r6
      refine ⟨i1, Or.inr rfl, ?_, fun z => ?_, fun _ => ?_⟩
      · show m 0 4 ||| 1 <<< ((1 : Int32) &&& 31) = x 0 5 + (1 + 1)
        rw [i3]
        rcases i1 with e | e <;> rcases i2 with e2 | e2 <;> rw [e, e2] <;> decide
      · rw [show updR h 9 (cpyV (h 9) v) 8 = h 8 from if_neg (by omega)]
        refine (i4 z).co (fun j hj => ?_)
        show cpR 110 (110 * 1) (m 1) (m 3) j = m 3 j
        unfold cpR
        rw [if_neg (by omega)]
      · rw [show updR h 9 (cpyV (h 9) v) 9 = cpyV (h 9) v from if_pos rfl]
        refine (r1.cp (r2.2 9 (by omega))).co (fun j hj => ?_)
        show cpR 110 (110 * 1) (m 1) (m 3) (110 + j) = m 1 j
        unfold cpR
        rw [if_pos (by omega)]
        exact congrArg (m 1) (by omega)
theorem back_S {B : Int} {x v u : pLV} {h : Nat → pLV} {m : pLV} (r : RS B x v u h m) (i : Int32) : cback_R x v u h i = bacR m i ∧ RS B (cback_X x v u h i) (cback_V x v u h i) u (cback_H x v u h i) (bacM m i) ∧ pOK m := by
  obtain ⟨q1, q2, q3⟩ := rem_S r.nm
  by_cases p0 : i < 0
  · have hI : inI i 0 1 = 0 := inI_0l p0
    have hB : cback_B x v i = -1 := if_pos p0
    have hN : ¬ cback_B x v i = 0 := by rw [hB]; decide
    rw [show cback_R x v u h i = -1 from (if_neg hN).trans hB, show cback_X x v u h i = x from if_neg hN, show cback_V x v u h i = v from if_neg hN, show cback_H x v u h i = h from if_neg hN, show bacR m i = -1 from if_pos hI, show bacM m i = m from if_pos hI]
    exact ⟨rfl, r, q2⟩
  by_cases p1 : 1 < i
  · have hI : inI i 0 1 = 0 := inI_0r p0 p1
    have hB : cback_B x v i = -1 := (if_neg p0).trans (if_pos p1)
    have hN : ¬ cback_B x v i = 0 := by rw [hB]; decide
    rw [show cback_R x v u h i = -1 from (if_neg hN).trans hB, show cback_X x v u h i = x from if_neg hN, show cback_V x v u h i = v from if_neg hN, show cback_H x v u h i = h from if_neg hN, show bacR m i = -1 from if_pos hI, show bacM m i = m from if_pos hI]
    exact ⟨rfl, r, q2⟩
  obtain ⟨i1, i2, i3, i4, i5⟩ := r.2.2.2.2.2
  rcases im_2 p0 p1 with p | p
  · subst p
    have hI : ¬ inI 0 0 1 = 0 := by decide
    by_cases z : x 0 5 = 0
    · have hB : cback_B x v 0 = -2 := (if_neg (by decide)).trans ((if_neg (by decide)).trans (if_pos ((if_pos rfl).trans z)))
      have hN : ¬ cback_B x v 0 = 0 := by rw [hB]; decide
      have hM : m 0 4 >>> ((0 : Int32) &&& 31) &&& 1 = 0 := by
        rw [i3, z]
        rcases i2 with e | e <;> rw [e] <;> decide
      rw [show cback_R x v u h 0 = -2 from (if_neg hN).trans hB, show cback_X x v u h 0 = x from if_neg hN, show cback_V x v u h 0 = v from if_neg hN, show cback_H x v u h 0 = h from if_neg hN, show bacR m 0 = -2 from (if_neg hI).trans (if_pos hM), show bacM m 0 = m from (if_neg hI).trans (if_pos hM)]
      exact ⟨rfl, r, q2⟩
    · have z1 : x 0 5 = 1 := (i1).resolve_left z
      have hB : cback_B x v 0 = 0 := (if_neg (by decide)).trans ((if_neg (by decide)).trans (if_neg (by rw [show (if (0 : Int32) = 0 then x 0 5 else x 0 6) = x 0 5 from if_pos rfl]; exact z)))
      have hM : ¬ m 0 4 >>> ((0 : Int32) &&& 31) &&& 1 = 0 := by
        rw [i3, z1]
        rcases i2 with e | e <;> rw [e] <;> decide
      rw [show cback_R x v u h 0 = _ from if_pos hB, show cback_X x v u h 0 = _ from if_pos hB, show cback_V x v u h 0 = _ from if_pos hB, show cback_H x v u h 0 = _ from if_pos hB, show bacR m 0 = _ from (if_neg hI).trans (if_neg hM), show bacM m 0 = _ from (if_neg hI).trans (if_neg hM)]
      rw [show (if (0 : Int32) = 0 then 8 else 9) = 8 from rfl]
      have g : SN B (hRem x v h 8) (rememM (NM m) 3) := q1.2.2.2.2.2.2.2.2.1 z1
      generalize rememM (NM m) = y at q1 g
      refine ⟨(g.1 9 (by omega)).symm, q1.fr ?_ (Int.le_refl _) ⟨rfl, rfl, rfl, rfl, rfl, rfl, rfl, rfl, rfl, rfl⟩, q2⟩
      refine (g.cp r.1.rm).co (fun j hj => ?_)
      show cpN 110 (fun j => y 3 (110 * 0 + j)) (y 1) j = _
      unfold cpN
      rw [if_pos hj]
      exact congrArg (y 3) (by omega)
  · subst p
    have hI : ¬ inI 1 0 1 = 0 := by decide
    by_cases z : x 0 6 = 0
    · have hB : cback_B x v 1 = -2 := (if_neg (by decide)).trans ((if_neg (by decide)).trans (if_pos ((if_neg (by decide)).trans z)))
      have hN : ¬ cback_B x v 1 = 0 := by rw [hB]; decide
      have hM : m 0 4 >>> ((1 : Int32) &&& 31) &&& 1 = 0 := by
        rw [i3, z]
        rcases i1 with e | e <;> rw [e] <;> decide
      rw [show cback_R x v u h 1 = -2 from (if_neg hN).trans hB, show cback_X x v u h 1 = x from if_neg hN, show cback_V x v u h 1 = v from if_neg hN, show cback_H x v u h 1 = h from if_neg hN, show bacR m 1 = -2 from (if_neg hI).trans (if_pos hM), show bacM m 1 = m from (if_neg hI).trans (if_pos hM)]
      exact ⟨rfl, r, q2⟩
    · have z1 : x 0 6 = 1 := (i2).resolve_left z
      have hB : cback_B x v 1 = 0 := (if_neg (by decide)).trans ((if_neg (by decide)).trans (if_neg (by rw [show (if (1 : Int32) = 0 then x 0 5 else x 0 6) = x 0 6 from if_neg (by decide)]; exact z)))
      have hM : ¬ m 0 4 >>> ((1 : Int32) &&& 31) &&& 1 = 0 := by
        rw [i3, z1]
        rcases i1 with e | e <;> rw [e] <;> decide
      rw [show cback_R x v u h 1 = _ from if_pos hB, show cback_X x v u h 1 = _ from if_pos hB, show cback_V x v u h 1 = _ from if_pos hB, show cback_H x v u h 1 = _ from if_pos hB, show bacR m 1 = _ from (if_neg hI).trans (if_neg hM), show bacM m 1 = _ from (if_neg hI).trans (if_neg hM)]
      rw [show (if (1 : Int32) = 0 then 8 else 9) = 9 from if_neg (by decide)]
      have g : SN B (hRem x v h 9) (fun j => rememM (NM m) 3 (110 + j)) := q1.2.2.2.2.2.2.2.2.2 z1
      generalize rememM (NM m) = y at q1 g
      refine ⟨(g.1 9 (by omega)).symm, q1.fr ?_ (Int.le_refl _) ⟨rfl, rfl, rfl, rfl, rfl, rfl, rfl, rfl, rfl, rfl⟩, q2⟩
      refine (g.cp r.1.rm).co (fun j hj => ?_)
      show cpN 110 (fun j => y 3 (110 * 1 + j)) (y 1) j = _
      unfold cpN
      rw [if_pos hj]
end
