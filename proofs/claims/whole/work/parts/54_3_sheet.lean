noncomputable section
set_option maxHeartbeats 2000000 in
theorem t6_S {B : Int} {bk : Int32} {v m : pLV} (h : SL B bk v (m 1)) (hbk : bk = 0 ↔ v 0 2 = 0) (hB : B ≤ 2000000000) (h12 : m 0 12 = 0) : SL (B + 2000) bk (shtV v) (mkpM m 1) ∧ FR m (mkpM m) ∧ mkpM m 0 12 = shtZ v ∧ shtV v 0 2 = v 0 2 := by
  have hs := h.2.2.2.1.2.2.1
  have hch := h.2.2.2.1.2.1
  have hrm := h.2.2.2.1.1
  have hgr := h.2.2.2.1.2.2.2.1
  have hf1 := hs.2.2.1.1
  have hf2 := hs.2.2.1.2
  have e2 : m 1 2 = v 1 2 := h.1 2 (by omega)
  have s3 := hch.2.2.2.sum (by omega)
  obtain ⟨q1, q2, q3⟩ := hch.2.2.2
  obtain ⟨g1, g2, g3⟩ := take_S3 (v := v) (m := NM m) (x := v 1 2) h hf1
  have hT : (shT v).toInt = min (v 1 2).toInt ((v 0 19).toInt + (v 0 20).toInt) := by unfold shT; rw [mnI_i, s3]
  have t3 := take_ok (m := shT v) hch.2.2.2 (by omega) (by omega) (by omega)
  have g1' : SL B bk (shU v) (takeM 3 (NM m) (v 1 2) 1) := g1
  have g2' : takeM 3 (NM m) (v 1 2) 0 9 = shF v := g2
  have hF : shF v = tkR (v 0 19) (v 0 20) (shT v) := rfl
  have hF0 : 0 ≤ (shF v).toInt := by rw [hF]; exact t3.1
  have hF1 : (shF v).toInt ≤ 2000 := by rw [hF]; omega
  have e11 : takeM 3 (NM m) (v 1 2) 1 11 = bk := g1'.1 11 (by omega)
  have e12 : takeM 3 (NM m) (v 1 2) 1 12 = v 0 3 := g1'.1 12 (by omega)
  have z12 : takeM 3 (NM m) (v 1 2) 0 12 = m 0 12 := rfl
  have hr : FR m (takeM 3 (NM m) (v 1 2)) := (FR.nm m).tr (takeM_FR 3 (NM m) (v 1 2))
  have eM : mkpM m = mpE (takeM 3 (NM m) (v 1 2)) := by
    unfold mkpM
    rw [e2]
  rw [eM]
  clear eM g1 g2 g3
  revert g1' g2' e11 e12 z12 hr
  generalize takeM 3 (NM m) (v 1 2) = x
  intro g1' g2' e11 e12 z12 hr
  have hbroke : SL (B + 2000) bk (shBk v) (mpD x 1) ∧ FR m (mpD x) ∧ mpD x 0 12 = shS v := by
    obtain ⟨b1, b2, b3⟩ := t6b_S g1' g2' hF0 hF1 hch.2.1 hrm.2.1
    exact ⟨b1.up (by omega), hr.tr b2, b3⟩
  by_cases c1 : v 0 2 = 0
  · have c1' : bk = 0 := hbk.mpr c1
    by_cases c2 : v 0 3 = 0
    · have d1 : shtV v = cpV (NL (shU v)) (shF v) := (if_pos c1).trans (if_pos c2)
      have d2 : shtZ v = 0 := (if_pos c1).trans (if_pos c2)
      have d3 : mpE x = mpA x := (if_pos (e11.trans c1')).trans (if_pos (e12.trans c2))
      rw [d1, d2, d3]
      refine ⟨?_, hr.tr (mpA_FR x), (show x 0 12 = 0 from z12.trans h12), ?_⟩
      · rcases IB_4 hgr.1 with g | g | g | g
        · exact pap_S0 g1'.nl g g2' hF0 hF1 hB
        · exact pap_S1 g1'.nl g g2' hF0 hF1 hB
        · exact pap_S2 g1'.nl g g2' hF0 hF1 hB
        · exact pap_S3 g1'.nl g g2' hF0 hF1 hB
      · rw [cpV_2]
        rfl
    · have d1 : shtV v = shBk v := (if_pos c1).trans (if_neg c2)
      have d2 : shtZ v = shS v := (if_pos c1).trans (if_neg c2)
      have d3 : mpE x = mpD x := (if_pos (e11.trans c1')).trans (if_neg (by rw [e12]; exact c2))
      rw [d1, d2, d3]
      exact ⟨hbroke.1, hbroke.2.1, hbroke.2.2, rfl⟩
  · have c1' : ¬ bk = 0 := fun z => c1 (hbk.mp z)
    have d1 : shtV v = shBk v := if_neg c1
    have d2 : shtZ v = shS v := if_neg c1
    have d3 : mpE x = mpD x := if_neg (by rw [e11]; exact c1')
    rw [d1, d2, d3]
    exact ⟨hbroke.1, hbroke.2.1, hbroke.2.2, rfl⟩
end
