noncomputable section
theorem NL_2 (v : pLV) : NL v 0 2 = v 0 2 := rfl
theorem NM_12 (v : pLV) : NM v 0 12 = v 0 12 := rfl
theorem tick_asm {B : Int} {bk : Int32} {v m : pLV} (hbk : bk = v 0 2 ∨ (0 < bk.toInt ∧ 0 < (v 0 2).toInt)) (hB : B ≤ 2000000000) {b : Int32} {x1 v1 : pLV} (h1 : SL B b v1 (x1 1)) (hb : Br v v1 bk b) (r1 : FR m x1) (z1 : x1 0 12 = 0)
    {x2 v2 : pLV} (e2 : t2M x1 = x2) (f2 : tk2 v1 = v2) {x3 v3 : pLV} (e3 : mixM (NM x2) = x3) (f3 : mixV (NL v2) = v3) {x4 v4 : pLV} (e4 : thinM (NM x3) = x4) (f4 : mchV (NL v3) = v4) {x5 v5 : pLV} (e5 : ctlM (NM x4) = x5) (f5 : t5V v4 = v5)
    {x6 v6 : pLV} {zz : Int32} (e6 : mkpM (NM x5) = x6) (f6 : shtV (NL v5) = v6) (fz : shtZ (NL v5) = zz) {x7 v7 : pLV} (e7 : t8M x6 = x7) (f7 : tk8 v6 = v7) {x8 v8 : pLV} (e8 : ns4 x7 = x8) (f8 : smV (NL v7) = v8) (e49 : (m 1 49).toNatClampNeg ≤ 20) :
    ((m 1 49).toNatClampNeg ≤ 20 ∧ (0 ≤ x4 1 5 ∧ x4 1 5 ≤ 8) ∧ (0 ≤ x5 1 10 ∧ x5 1 10 ≤ 3)) ∧ ∃ bk', SL (B + 2000) bk' v8 (x8 1) ∧ FR m x8 ∧ x8 0 12 = zz ∧ (bk = v 0 2 → bk' = v8 0 2) ∧ (v 0 2).toInt - 1 ≤ (v8 0 2).toInt := by
  have hgr1 := h1.2.2.2.1.2.2.2.1
  obtain ⟨h2, r2, z2, k2⟩ := t2_S h1
  rw [e2] at h2 r2 z2
  rw [f2] at h2 k2
  obtain ⟨h3, r3, z3, k3⟩ := t3_S (m := NM x2) h2.nl
  rw [e3] at h3 r3 z3
  rw [f3] at h3 k3
  rw [NM_12] at z3
  rw [NL_2] at k3
  obtain ⟨h4, r4, z4, k4⟩ := t4_S (m := NM x3) h3.nl
  rw [e4] at h4 r4 z4
  rw [f4] at h4 k4
  rw [NM_12] at z4
  rw [NL_2] at k4
  obtain ⟨h5, r5, z5, k5⟩ := t5_S (m := NM x4) h4
  rw [e5] at h5 r5 z5
  rw [f5] at h5 k5
  rw [NM_12] at z5
  have k15 : v5 0 2 = v1 0 2 := by rw [k5, k4, k3, k2]
  have hbb : b = 0 ↔ NL v5 0 2 = 0 := by
    rw [NL_2, k15]
    rcases hbk with e | ⟨e1, e2⟩
    · rw [hb.1 e]
    · have q1 := hb.2.1
      have q2 := hb.2.2
      have e0 : (0 : Int32).toInt = 0 := rfl
      constructor
      · intro q
        rw [q] at q1
        omega
      · intro q
        rw [q] at q2
        omega
  have z : NM x5 0 12 = 0 := by rw [NM_12, z5, z4, z3, z2, z1]
  obtain ⟨h6, r6, z6, k6⟩ := t6_S (m := NM x5) h5.nl hbb hB z
  rw [e6] at h6 r6 z6
  rw [fz] at z6
  rw [f6] at h6 k6
  rw [NL_2] at k6
  obtain ⟨h7, r7, z7, k7⟩ := t7_S h6
  rw [e7] at h7 r7 z7
  rw [f7] at h7 k7
  obtain ⟨h8, r8, z8⟩ := t8_S h7.nl
  rw [e8] at h8 r8 z8
  rw [f8] at h8
  have k8' : v8 0 2 = v7 0 2 := by rw [← f8]; rfl
  have d2 := dc_eq hgr1.2.1
  have k6' : v6 0 2 = v1 0 2 := k6.trans k15
  have k8 : v8 0 2 = mxI 0 (v1 0 2 - 1) := by rw [k8', k7, k6']
  refine ⟨⟨e49, ⟨?_, ?_⟩, ?_, ?_⟩, dcI b, h8, ?_, z8.trans (z7.trans z6), ?_, ?_⟩
  · have e : x4 1 5 = v4 1 5 := h4.1 5 (by omega)
    rw [e, ile]
    exact h4.2.2.2.1.2.2.1.2.2.2.2.1.1
  · have e : x4 1 5 = v4 1 5 := h4.1 5 (by omega)
    rw [e, ile]
    exact h4.2.2.2.1.2.2.1.2.2.2.2.1.2
  · have e : x5 1 10 = v5 0 1 := h5.1 10 (by omega)
    rw [e, ile]
    exact h5.2.2.2.1.2.2.2.1.1.1
  · have e : x5 1 10 = v5 0 1 := h5.1 10 (by omega)
    rw [e, ile]
    exact h5.2.2.2.1.2.2.2.1.1.2
  · exact ((((((r1.tr r2).tr (FR.nm _)).tr (r3.tr (FR.nm _))).tr (r4.tr (FR.nm _))).tr (r5.tr (FR.nm _))).tr r6).tr (r7.tr r8)
  · intro e
    rw [k8, hb.1 e]
    exact d2.1
  · rw [k8, ← d2.1, d2.2]
    have := hb.2.2
    omega
/-- A TICK -/
theorem tick_S {B : Int} {bk : Int32} {v m : pLV} (h : SL B bk v (m 1)) (hbk : bk = v 0 2 ∨ (0 < bk.toInt ∧ 0 < (v 0 2).toInt)) (hB : B ≤ 2000000000) : tOK m ∧ ∃ bk', SL (B + 2000) bk' (tickV v) (tickM m 1) ∧ FR m (tickM m) ∧ tickM m 0 12 = tickZ v ∧ (bk = v 0 2 → bk' = tickV v 0 2) ∧ (v 0 2).toInt - 1 ≤ (tickV v 0 2).toInt := by
  have e49 : (m 1 49).toNatClampNeg ≤ 20 := by
    have e49 : m 1 49 = v 0 29 := h.2.2.1.1
    have hsz := h.2.2.2.1.2.2.2.1.2.2.2.2.2
    rw [e49]
    have e : (v 0 29).toNatClampNeg = (v 0 29).toInt.toNat := rfl
    have := hsz.2
    omega
  obtain ⟨b, h1, hb, r1, z1⟩ := t1_S h
  exact tick_asm hbk hB h1 hb r1 z1 rfl rfl rfl rfl rfl rfl rfl rfl rfl rfl rfl rfl rfl rfl rfl e49
end
