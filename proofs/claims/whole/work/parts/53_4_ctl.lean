noncomputable section
theorem csM_eq {r : Int} {f g : Int32} (h : CH r f g) (hr : r ≤ 3000000) : (if f + g = 0 then (0 : Int32) else f * 1000 / (f + g)) = csC f g := by
  have hs := h.sum hr
  obtain ⟨h1, h2, h3⟩ := h
  unfold csC
  by_cases h0 : f + g = 0
  · rw [if_pos h0, if_pos (by rw [h0]; decide)]
  · have : ¬ f + g ≤ 0 := by
      rw [ile, hs, Int32.toInt_zero]
      intro q
      refine h0 (ieq.mpr ?_)
      rw [hs, Int32.toInt_zero]
      omega
    rw [if_neg h0, if_neg this]
theorem clp_eq (x : Int32) : clpI x = mxI 0 (mnI x 3000) := by
  unfold clpI
  rw [ieq, mxI_i, mnI_i]
  have e0 : (0 : Int32).toInt = 0 := rfl
  have e3 : (3000 : Int32).toInt = 3000 := rfl
  by_cases h : x < 0
  · rw [if_pos h]
    rw [ilt] at h
    omega
  · rw [if_neg h]
    by_cases h2 : 3000 < x
    · rw [if_pos h2]
      rw [ilt] at h h2
      omega
    · rw [if_neg h2]
      rw [ilt] at h h2
      omega
/-- what is measured, and the valve -/
def t5V (v : pLV) : pLV := tk6 (tk5 v)
set_option maxHeartbeats 4000000 in
theorem t5_S {B : Int} {bk : Int32} {v m : pLV} (h : SL B bk v (m 1)) : SL B bk (t5V v) (ctlM m 1) ∧ FR m (ctlM m) ∧ ctlM m 0 12 = m 0 12 ∧ t5V v 0 2 = v 0 2 := by
  have hs := h.2.2.2.1.2.2.1
  have hch := h.2.2.2.1.2.1
  have hgr := h.2.2.2.1.2.2.2.1
  have e27 : m 1 27 = v 0 19 := h.1 27 (by omega)
  have e28 : m 1 28 = v 0 20 := h.1 28 (by omega)
  have e39 : m 1 39 = v 0 28 := h.1 39 (by omega)
  have e5 : m 1 5 = v 1 5 := h.1 5 (by omega)
  have e4 : m 1 4 = v 1 4 := h.1 4 (by omega)
  have e6 : m 1 6 = v 1 6 := h.1 6 (by omega)
  have e13 : m 1 13 = v 0 27 := h.1 13 (by omega)
  obtain ⟨c, hc⟩ : ∃ c, csC (v 0 19) (v 0 20) = c := ⟨_, rfl⟩
  have ec : csM 3 (NM (vA m 1 (shW (m 1) 8))) = c := by
    show (if m 1 27 + m 1 28 = 0 then (0 : Int32) else m 1 27 * 1000 / (m 1 27 + m 1 28)) = c
    rw [e27, e28, csM_eq hch.2.2.2 (by omega), hc]
  have hz := hgr.2.2.2.2.1
  have hz1 := hz.1
  have hz2 := hz.2
  -- how many
  have esz : k3I (v 0 28) = mnI (v 0 28 + 1) 9 := by
    have e1 : (v 0 28 + 1).toInt = (v 0 28).toInt + 1 := i_add (by have : (1 : Int32).toInt = 1 := rfl; omega) (by have : (1 : Int32).toInt = 1 := rfl; omega)
    have e9 : (9 : Int32).toInt = 9 := rfl
    unfold k3I
    rw [ieq, mnI_i, e1]
    by_cases q : v 0 28 < 9
    · rw [if_pos q, e1]
      rw [ilt] at q
      omega
    · rw [if_neg q, Int32.add_zero]
      rw [ilt] at q
      omega
  obtain ⟨z, ez⟩ : ∃ z, mnI (v 0 28 + 1) 9 = z := ⟨_, rfl⟩
  have hzi : z.toInt = min ((v 0 28).toInt + 1) 9 := by
    have e1 : (v 0 28 + 1).toInt = (v 0 28).toInt + 1 := i_add (by have : (1 : Int32).toInt = 1 := rfl; omega) (by have : (1 : Int32).toInt = 1 := rfl; omega)
    have e9 : (9 : Int32).toInt = 9 := rfl
    rw [← ez, mnI_i, e1, e9]
  have hzn : z.toNatClampNeg = z.toInt.toNat := rfl
  have hvn : (v 0 28).toNatClampNeg = (v 0 28).toInt.toNat := rfl
  -- the measurements
  obtain ⟨F, hF⟩ : ∃ F, k3W (shW (m 1) 8) c = F := ⟨_, rfl⟩
  have hk : ∀ j, j < z.toNatClampNeg → F (40 + j) = shM (v 3) c j := by
    intro j hj
    have hj9 : j < 9 := by omega
    have hp : ∀ i, i + 1 = j → m 1 (40 + i) = v 3 i := fun i hi => h.2.1 i (by omega)
    rw [← hF]
    match j, hj9 with
    | 0, _ => rfl
    | 1, _ => exact hp 0 rfl
    | 2, _ => exact hp 1 rfl
    | 3, _ => exact hp 2 rfl
    | 4, _ => exact hp 3 rfl
    | 5, _ => exact hp 4 rfl
    | 6, _ => exact hp 5 rfl
    | 7, _ => exact hp 6 rfl
    | 8, _ => exact hp 7 rfl
    | j + 9, q => exact absurd q (by omega)
  have F39 : F 39 = z := by
    rw [← hF]
    show k3I (m 1 39) = z
    rw [e39, esz, ez]
  have F5 : F 5 = v 1 5 := by rw [← hF]; exact e5
  have F4 : F 4 = v 1 4 := by rw [← hF]; exact e4
  have F6 : F 6 = v 1 6 := by rw [← hF]; exact e6
  have F13 : F 13 = v 0 27 := by rw [← hF]; exact e13
  have F16 : F 16 = c := by rw [← hF]; rfl
  have hd := hs.2.2.2.2.1
  have hd1 := hd.1
  have hd2 := hd.2
  have hdn : (v 1 5).toNatClampNeg = (v 1 5).toInt.toNat := rfl
  -- the valve
  obtain ⟨w, hw⟩ : ∃ w, ctV (v 0 27) z (shM (v 3) c) (v 1 5) (v 1 4) (v 1 6) = w := ⟨_, rfl⟩
  have hwb : IB 0 3000 w := by
    rw [← hw]
    unfold ctV
    split
    · exact hgr.2.2.2.1
    · split
      · exact hgr.2.2.2.1
      · split
        · exact hgr.2.2.2.1
        · unfold IB
          rw [mxI_i, mnI_i]
          have e0 : (0 : Int32).toInt = 0 := rfl
          have e3 : (3000 : Int32).toInt = 3000 := rfl
          omega
  have hcl : clV F = upd F 13 w ∨ (clV F = F ∧ w = v 0 27) := by
    have n0 : ¬ v 1 5 < 0 := by rw [ilt, Int32.toInt_zero]; omega
    have n9 : ¬ ¬ v 1 5 < 9 := by
      intro q
      refine q ?_
      rw [ilt]
      show _ < (9 : Int)
      omega
    by_cases q : v 1 5 < z
    · left
      have q' := q
      rw [ilt] at q'
      have e40 : (40 + v 1 5).toNatClampNeg = 40 + (v 1 5).toNatClampNeg := by
        have : (40 + v 1 5).toInt = 40 + (v 1 5).toInt := i_add (by show _ ≤ (40 : Int) + _; omega) (by show (40 : Int) + _ < _; omega)
        show (40 + v 1 5).toInt.toNat = _
        omega
      have ek := hk (v 1 5).toNatClampNeg (by omega)
      unfold clV
      rw [F5, F39, if_pos q, F13, F4, F6, e40, ek, clp_eq, ← hw]
      unfold ctV
      rw [if_neg n0, if_neg (Int32.not_le.mpr q), if_neg n9]
    · right
      refine ⟨?_, ?_⟩
      · unfold clV
        rw [F5, F39, if_neg q]
      · rw [← hw]
        unfold ctV
        rw [if_neg n0, if_pos (Int32.not_lt.mp q)]
  have eR : ctlM m 1 = clV F := by
    show clV (k3W (shW (m 1) 8) (csM 3 (NM (vA m 1 (shW (m 1) 8))))) = _
    rw [ec, hF]
  have eV : t5V v = vS (vA (vS v 28 z) 3 (shM (v 3) c)) 27 w := by
    show vS (vA (vS v 28 (mnI (v 0 28 + 1) 9)) 3 (shM (v 3) (csC (v 0 19) (v 0 20)))) 27 (ctV (v 0 27) (mnI (v 0 28 + 1) 9) (shM (v 3) (csC (v 0 19) (v 0 20))) (v 1 5) (v 1 4) (v 1 6)) = _
    rw [ez, hc, hw]
  have Flo : ∀ j, j < 40 → j ≠ 16 → j ≠ 39 → F j = m 1 j := by
    intro j hj h16 h39
    rw [← hF]
    show upd (upd (upd (shW (m 1) 8) 16 c) 40 c) 39 _ j = m 1 j
    rw [upd_ne h39, upd_ne (by omega), upd_ne h16]
    unfold shW shW shW shW shW shW shW shW shW
    rw [upd_ne (by omega), upd_ne (by omega), upd_ne (by omega), upd_ne (by omega), upd_ne (by omega), upd_ne (by omega), upd_ne (by omega), upd_ne (by omega)]
  have Fhi : ∀ j, 49 ≤ j → F j = m 1 j := by
    intro j hj
    rw [← hF]
    show upd (upd (upd (shW (m 1) 8) 16 c) 40 c) 39 _ j = m 1 j
    rw [upd_ne (by omega), upd_ne (by omega), upd_ne (by omega)]
    unfold shW shW shW shW shW shW shW shW shW
    rw [upd_ne (by omega), upd_ne (by omega), upd_ne (by omega), upd_ne (by omega), upd_ne (by omega), upd_ne (by omega), upd_ne (by omega), upd_ne (by omega)]
  have Clo : ∀ j, j < 40 → j ≠ 16 → j ≠ 39 → j ≠ 13 → clV F j = m 1 j := by
    intro j hj h16 h39 h13
    rcases hcl with q | ⟨q, -⟩
    · rw [q, upd_ne h13]; exact Flo j hj h16 h39
    · rw [q]; exact Flo j hj h16 h39
  have Ck : ∀ j, 40 ≤ j → clV F j = F j := by
    intro j hj
    rcases hcl with q | ⟨q, -⟩
    · rw [q, upd_ne (by omega)]
    · rw [q]
  have C13 : clV F 13 = w := by
    rcases hcl with q | ⟨q, q2⟩
    · rw [q]; rfl
    · rw [q, q2]; exact F13
  have C16 : clV F 16 = ltC z c := by
    have : ltC z c = c := by
      unfold ltC
      rw [if_pos (by rw [ilt, Int32.toInt_zero]; omega)]
    rw [this]
    rcases hcl with q | ⟨q, -⟩
    · rw [q]; exact F16
    · rw [q]; exact F16
  have C39 : clV F 39 = z := by
    rcases hcl with q | ⟨q, -⟩
    · rw [q]; exact F39
    · rw [q]; exact F39
  have hzb : IB 0 9 z := ⟨by omega, by omega⟩
  rw [eR, eV]
  refine ⟨⟨?_, ?_, ?_, ⟨h.2.2.2.1.1, h.2.2.2.1.2.1, h.2.2.2.1.2.2.1, ⟨hgr.1, hgr.2.1, hgr.2.2.1, hwb, hzb, hgr.2.2.2.2.2⟩, h.2.2.2.1.2.2.2.2⟩, h.2.2.2.2⟩, ⟨rfl, rfl, rfl, rfl, rfl, rfl, rfl, rfl, rfl, rfl⟩, rfl, rfl⟩
  · exact (by
      intro j hj
      match j, hj with
      | 0, _ => exact (Clo 0 (by omega) (by omega) (by omega) (by omega)).trans (h.1 0 (by omega))
      | 1, _ => exact (Clo 1 (by omega) (by omega) (by omega) (by omega)).trans (h.1 1 (by omega))
      | 2, _ => exact (Clo 2 (by omega) (by omega) (by omega) (by omega)).trans (h.1 2 (by omega))
      | 3, _ => exact (Clo 3 (by omega) (by omega) (by omega) (by omega)).trans (h.1 3 (by omega))
      | 4, _ => exact (Clo 4 (by omega) (by omega) (by omega) (by omega)).trans (h.1 4 (by omega))
      | 5, _ => exact (Clo 5 (by omega) (by omega) (by omega) (by omega)).trans (h.1 5 (by omega))
      | 6, _ => exact (Clo 6 (by omega) (by omega) (by omega) (by omega)).trans (h.1 6 (by omega))
      | 7, _ => exact (Clo 7 (by omega) (by omega) (by omega) (by omega)).trans (h.1 7 (by omega))
      | 8, _ => exact (Clo 8 (by omega) (by omega) (by omega) (by omega)).trans (h.1 8 (by omega))
      | 9, _ => exact (Clo 9 (by omega) (by omega) (by omega) (by omega)).trans (h.1 9 (by omega))
      | 10, _ => exact (Clo 10 (by omega) (by omega) (by omega) (by omega)).trans (h.1 10 (by omega))
      | 11, _ => exact (Clo 11 (by omega) (by omega) (by omega) (by omega)).trans (h.1 11 (by omega))
      | 12, _ => exact (Clo 12 (by omega) (by omega) (by omega) (by omega)).trans (h.1 12 (by omega))
      | 13, _ => exact C13
      | 14, _ => exact (Clo 14 (by omega) (by omega) (by omega) (by omega)).trans (h.1 14 (by omega))
      | 15, _ => exact (Clo 15 (by omega) (by omega) (by omega) (by omega)).trans (h.1 15 (by omega))
      | 16, _ => exact C16
      | 17, _ => exact (Clo 17 (by omega) (by omega) (by omega) (by omega)).trans (h.1 17 (by omega))
      | 18, _ => exact (Clo 18 (by omega) (by omega) (by omega) (by omega)).trans (h.1 18 (by omega))
      | 19, _ => exact (Clo 19 (by omega) (by omega) (by omega) (by omega)).trans (h.1 19 (by omega))
      | 20, _ => exact (Clo 20 (by omega) (by omega) (by omega) (by omega)).trans (h.1 20 (by omega))
      | 21, _ => exact (Clo 21 (by omega) (by omega) (by omega) (by omega)).trans (h.1 21 (by omega))
      | 22, _ => exact (Clo 22 (by omega) (by omega) (by omega) (by omega)).trans (h.1 22 (by omega))
      | 23, _ => exact (Clo 23 (by omega) (by omega) (by omega) (by omega)).trans (h.1 23 (by omega))
      | 24, _ => exact (Clo 24 (by omega) (by omega) (by omega) (by omega)).trans (h.1 24 (by omega))
      | 25, _ => exact (Clo 25 (by omega) (by omega) (by omega) (by omega)).trans (h.1 25 (by omega))
      | 26, _ => exact (Clo 26 (by omega) (by omega) (by omega) (by omega)).trans (h.1 26 (by omega))
      | 27, _ => exact (Clo 27 (by omega) (by omega) (by omega) (by omega)).trans (h.1 27 (by omega))
      | 28, _ => exact (Clo 28 (by omega) (by omega) (by omega) (by omega)).trans (h.1 28 (by omega))
      | 29, _ => exact (Clo 29 (by omega) (by omega) (by omega) (by omega)).trans (h.1 29 (by omega))
      | 30, _ => exact (Clo 30 (by omega) (by omega) (by omega) (by omega)).trans (h.1 30 (by omega))
      | 31, _ => exact (Clo 31 (by omega) (by omega) (by omega) (by omega)).trans (h.1 31 (by omega))
      | 32, _ => exact (Clo 32 (by omega) (by omega) (by omega) (by omega)).trans (h.1 32 (by omega))
      | 33, _ => exact (Clo 33 (by omega) (by omega) (by omega) (by omega)).trans (h.1 33 (by omega))
      | 34, _ => exact (Clo 34 (by omega) (by omega) (by omega) (by omega)).trans (h.1 34 (by omega))
      | 35, _ => exact (Clo 35 (by omega) (by omega) (by omega) (by omega)).trans (h.1 35 (by omega))
      | 36, _ => exact (Clo 36 (by omega) (by omega) (by omega) (by omega)).trans (h.1 36 (by omega))
      | 37, _ => exact (Clo 37 (by omega) (by omega) (by omega) (by omega)).trans (h.1 37 (by omega))
      | 38, _ => exact (Clo 38 (by omega) (by omega) (by omega) (by omega)).trans (h.1 38 (by omega))
      | 39, _ => exact C39
      | j + 40, hj => exact absurd hj (by omega))
  · intro j hj
    rw [Ck _ (by omega)]
    exact hk j hj
  · refine ⟨by rw [Ck _ (by omega), Fhi _ (by omega)]; exact h.2.2.1.1, fun k hk' => ?_⟩
    rw [Ck _ (by omega), Ck _ (by omega), Ck _ (by omega), Fhi _ (by omega), Fhi _ (by omega), Fhi _ (by omega)]
    exact h.2.2.1.2 k hk'
end
