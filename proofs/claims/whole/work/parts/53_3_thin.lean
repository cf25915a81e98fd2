noncomputable section
set_option maxHeartbeats 2000000 in
theorem t4_S {B : Int} {bk : Int32} {v m : pLV} (h : SL B bk v (m 1)) : SL B bk (mchV v) (thinM m 1) ∧ FR m (thinM m) ∧ thinM m 0 12 = m 0 12 ∧ mchV v 0 2 = v 0 2 := by
  have hs := h.2.2.2.1.2.2.1
  have hch := h.2.2.2.1.2.1
  have hgr := h.2.2.2.1.2.2.2.1
  have e2 : m 1 2 = v 1 2 := h.1 2 (by omega)
  have hf := hs.2.2.1
  have s2 := hch.2.2.1.sum (by omega)
  obtain ⟨q1, q2, q3⟩ := hch.2.2.1
  have hT : (mcT v).toInt = min (v 1 2).toInt ((v 0 16).toInt + (v 0 17).toInt) := by unfold mcT; rw [mnI_i, s2]
  have hf1 := hf.1
  have hf2 := hf.2
  obtain ⟨g1, g2, g3⟩ := take_S2 (v := v) (m := NM m) (x := v 1 2) h hf.1
  have t2 := take_ok (m := mcT v) hch.2.2.1 (by omega) (by omega) (by omega)
  have hx : takeM 2 (NM m) (v 1 2) 0 9 + takeM 2 (NM m) (v 1 2) 0 10 = mcT v := by
    rw [g2, g3]
    show tkR (v 0 16) (v 0 17) (mcT v) + (mcT v - tkR (v 0 16) (v 0 17) (mcT v)) = _
    rw [ieq, i_add (by omega) (by omega)]
    omega
  have e13 : takeM 2 (NM m) (v 1 2) 1 13 = v 0 27 := g1.1 13 (by omega)
  have hv := hgr.2.2.2.1
  have hp0 : 0 ≤ (v 0 27).toInt * (mcT v).toInt := Int.mul_nonneg hv.1 (by omega)
  have hp1 : (v 0 27).toInt * (mcT v).toInt ≤ 3000 * (mcT v).toInt := Int.mul_le_mul_of_nonneg_right hv.2 (by omega)
  have hmul : (v 0 27 * mcT v).toInt = (v 0 27).toInt * (mcT v).toInt := i_mul (by omega) (by omega)
  have hdv : (v 0 27 * mcT v / 1000).toInt = (v 0 27).toInt * (mcT v).toInt / 1000 := by rw [div1000 (by omega), hmul]
  have hF : mcF v = tkR (v 0 16) (v 0 17) (mcT v) := rfl
  have hw : (mcT v - mcF v + v 0 27 * mcT v / 1000).toInt = (mcT v).toInt - (mcF v).toInt + (v 0 27).toInt * (mcT v).toInt / 1000 := by
    rw [i_add (by rw [hF, t2.2.2.2.2.2.2, hdv]; omega) (by rw [hF, t2.2.2.2.2.2.2, hdv]; omega), hF, t2.2.2.2.2.2.2, hdv]
  have hV : SL B bk (NL (mcU v)) (NM (takeM 2 (NM m) (v 1 2)) 1) := g1
  obtain ⟨f1, -, -, f4⟩ := fill_S3 hV (a := mcF v) (b := mcT v - mcF v + v 0 27 * mcT v / 1000) (by rw [hF]; omega) (by rw [hw, hF]; omega) (by rw [hw, hF]; omega)
  have eM : thinM m = fillM 3 (NM (takeM 2 (NM m) (v 1 2))) (mcF v) (mcT v - mcF v + v 0 27 * mcT v / 1000) := by
    unfold thinM thM
    rw [e2, hx, e13, g2, g3]
    rfl
  rw [eM]
  exact ⟨f1, ((FR.nm m).tr (takeM_FR 2 _ _)).tr ((FR.nm _).tr (fillM_FR 3 _ _ _)), f4, rfl⟩
end
