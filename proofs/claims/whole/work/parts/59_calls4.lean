noncomputable section
/-! THE TWO SIDES ARE ALIKE: paper never falls; trials -/
def pS (v : pLV) : Int := (v 2 0).toInt + (v 2 1).toInt + (v 2 2).toInt + (v 2 3).toInt
theorem ap_i {B : Int} {v : pLV} (h : IPa B v) (hB : B ≤ 2100000000) : (sumP (v 2) 4).toInt = pS v ∧ 0 ≤ pS v ∧ pS v ≤ B := by
  obtain ⟨p0, p1, p2, p3, p4⟩ := h
  have e1 : (v 2 0 + v 2 1).toInt = (v 2 0).toInt + (v 2 1).toInt := i_add (by omega) (by omega)
  have e2 : (v 2 0 + v 2 1 + v 2 2).toInt = (v 2 0).toInt + (v 2 1).toInt + (v 2 2).toInt := by rw [i_add (by omega) (by omega), e1]
  have e3 : (v 2 0 + v 2 1 + v 2 2 + v 2 3).toInt = (v 2 0).toInt + (v 2 1).toInt + (v 2 2).toInt + (v 2 3).toInt := by rw [i_add (by omega) (by omega), e2]
  have e : sumP (v 2) 4 = v 2 0 + v 2 1 + v 2 2 + v 2 3 := by
    show 0 + v 2 0 + v 2 1 + v 2 2 + v 2 3 = _
    rw [Int32.zero_add]
  unfold pS
  rw [e, e3]
  omega
theorem pS_2 {a b : pLV} (h : a 2 = b 2) : pS a = pS b := by
  unfold pS
  rw [h]
theorem cpV_P {B : Int} {w : pLV} {x : Int32} (hg : IB 0 3 (w 0 1)) (hp : IPa B w) (h0 : 0 ≤ x.toInt) (h2 : x.toInt ≤ 2000) (hB : B ≤ 2000000000) : pS w ≤ pS (cpV w x) := by
  obtain ⟨p0, p1, p2, p3, p4⟩ := hp
  have n0 : ¬ w 0 1 < 0 := by
    rw [ilt]
    exact Int.not_lt.mpr hg.1
  have n1 : w 0 1 < 4 := by
    rw [ilt]
    exact Int.lt_of_le_of_lt hg.2 (by decide)
  unfold cpV
  rw [if_neg n0, if_neg (not_not_intro n1)]
  rcases IB_4 hg with g | g | g | g <;> rw [g]
  · have e : (w 2 0 + x).toInt = (w 2 0).toInt + x.toInt := i_add (by omega) (by omega)
    have : pS (vA w 2 (upd (w 2) (0 : Int32).toNatClampNeg (w 2 (0 : Int32).toNatClampNeg + x))) = (w 2 0 + x).toInt + (w 2 1).toInt + (w 2 2).toInt + (w 2 3).toInt := rfl
    rw [this]
    unfold pS
    omega
  · have e : (w 2 1 + x).toInt = (w 2 1).toInt + x.toInt := i_add (by omega) (by omega)
    have : pS (vA w 2 (upd (w 2) (1 : Int32).toNatClampNeg (w 2 (1 : Int32).toNatClampNeg + x))) = (w 2 0).toInt + (w 2 1 + x).toInt + (w 2 2).toInt + (w 2 3).toInt := rfl
    rw [this]
    unfold pS
    omega
  · have e : (w 2 2 + x).toInt = (w 2 2).toInt + x.toInt := i_add (by omega) (by omega)
    have : pS (vA w 2 (upd (w 2) (2 : Int32).toNatClampNeg (w 2 (2 : Int32).toNatClampNeg + x))) = (w 2 0).toInt + (w 2 1).toInt + (w 2 2 + x).toInt + (w 2 3).toInt := rfl
    rw [this]
    unfold pS
    omega
  · have e : (w 2 3 + x).toInt = (w 2 3).toInt + x.toInt := i_add (by omega) (by omega)
    have : pS (vA w 2 (upd (w 2) (3 : Int32).toNatClampNeg (w 2 (3 : Int32).toNatClampNeg + x))) = (w 2 0).toInt + (w 2 1).toInt + (w 2 2).toInt + (w 2 3 + x).toInt := rfl
    rw [this]
    unfold pS
    omega
theorem sht_P {B : Int} {bk : Int32} {v : pLV} {f : Nat → Int32} (h : SL B bk v f) (hB : B ≤ 2000000000) : pS v ≤ pS (shtV v) := by
  have hs := h.2.2.2.1.2.2.1
  have hch := h.2.2.2.1.2.1
  have hgr := h.2.2.2.1.2.2.2.1
  have hf1 := hs.2.2.1.1
  have hf2 := hs.2.2.1.2
  have s3 := hch.2.2.2.sum (by omega)
  obtain ⟨q1, q2, q3⟩ := hch.2.2.2
  have hT : (shT v).toInt = min (v 1 2).toInt ((v 0 19).toInt + (v 0 20).toInt) := by unfold shT; rw [mnI_i, s3]
  have t3 := take_ok (m := shT v) hch.2.2.2 (by omega) (by omega) (by omega)
  have hF : shF v = tkR (v 0 19) (v 0 20) (shT v) := rfl
  have hF0 : 0 ≤ (shF v).toInt := by rw [hF]; exact t3.1
  have hF1 : (shF v).toInt ≤ 2000 := by rw [hF]; omega
  by_cases c1 : v 0 2 = 0
  · by_cases c2 : v 0 3 = 0
    · rw [show shtV v = cpV (NL (shU v)) (shF v) from (if_pos c1).trans (if_pos c2)]
      exact cpV_P (w := NL (shU v)) hgr.1 h.2.2.2.1.2.2.2.2.2 hF0 hF1 hB
    · rw [show shtV v = shBk v from (if_pos c1).trans (if_neg c2)]
      exact Int.le_refl _
  · rw [show shtV v = shBk v from if_neg c1]
    exact Int.le_refl _
theorem cst_2p (v : pLV) (k : Nat) : cstV v k 2 = v 2 := by
  unfold cstV coV turnV
  split
  · split
    · rfl
    · split
      · split <;> rfl
      · rfl
  · rfl
theorem cry_2 (v : pLV) : ∀ k, cryI k v 2 = v 2
  | 0 => rfl
  | k + 1 => (cst_2p (cryI k v) k).trans (cry_2 v k)
theorem tk1_2 (v : pLV) : tk1 v 2 = v 2 := cry_2 _ _
theorem tk2_2 (v : pLV) : tk2 v 2 = v 2 := rfl
theorem mix_2 (v : pLV) : mixV v 2 = v 2 := rfl
theorem mch_2 (v : pLV) : mchV v 2 = v 2 := rfl
theorem t5_2 (v : pLV) : t5V v 2 = v 2 := rfl
theorem sm8_2 (v : pLV) : smV (NL (tk8 v)) 2 = v 2 := rfl
theorem NL_p (v : pLV) : NL v 2 = v 2 := rfl
theorem pap_asm {B : Int} {v : pLV} {b : Int32} {x1 v1 : pLV} (h1 : SL B b v1 (x1 1)) (p1 : v1 2 = v 2) (hB : B ≤ 2000000000)
    {x2 v2 : pLV} (e2 : t2M x1 = x2) (f2 : tk2 v1 = v2) {x3 v3 : pLV} (e3 : mixM (NM x2) = x3) (f3 : mixV (NL v2) = v3) {x4 v4 : pLV} (e4 : thinM (NM x3) = x4) (f4 : mchV (NL v3) = v4) {x5 v5 : pLV} (e5 : ctlM (NM x4) = x5) (f5 : t5V v4 = v5)
    {v6 : pLV} (f6 : shtV (NL v5) = v6) {v8 : pLV} (f8 : smV (NL (tk8 v6)) = v8) : pS v ≤ pS v8 := by
  obtain ⟨h2, -⟩ := t2_S h1
  have p2 := tk2_2 v1
  rw [e2] at h2
  rw [f2] at h2 p2
  obtain ⟨h3, -⟩ := t3_S (m := NM x2) h2.nl
  have p3 := mix_2 (NL v2)
  rw [e3] at h3
  rw [f3] at h3 p3
  rw [NL_p] at p3
  obtain ⟨h4, -⟩ := t4_S (m := NM x3) h3.nl
  have p4 := mch_2 (NL v3)
  rw [e4] at h4
  rw [f4] at h4 p4
  rw [NL_p] at p4
  obtain ⟨h5, -⟩ := t5_S (m := NM x4) h4
  have p5 := t5_2 v4
  rw [e5] at h5
  rw [f5] at h5 p5
  have h6 := sht_P h5.nl hB
  have p8 := sm8_2 v6
  rw [f6] at h6
  rw [f8] at p8
  rw [pS_2 p8, ← pS_2 (p5.trans (p4.trans (p3.trans (p2.trans p1)))), ← pS_2 (NL_p v5)]
  exact h6
theorem tick_P {B : Int} {bk : Int32} {v m : pLV} (h : SL B bk v (m 1)) (hB : B ≤ 2000000000) : pS v ≤ pS (tickV v) := by
  obtain ⟨b, h1, -⟩ := t1_S h
  exact pap_asm h1 (tk1_2 v) hB rfl rfl rfl rfl rfl rfl rfl rfl rfl rfl
theorem ticks_P {B : Int} {v m : pLV} (h : SL B (v 0 2) v (m 1)) : ∀ k : Nat, B + 2000 * (k : Int) ≤ 2000000000 → pS v ≤ pS (tickI k v)
  | 0, _ => Int.le_refl _
  | k + 1, hB => by
    obtain ⟨h1, r1⟩ := ticks_S h k (by omega)
    have := tick_P (v := NL (tickI k v)) (m := NM (tmI k m)) h1 (by omega)
    rw [pS_2 (NL_p _)] at this
    exact Int.le_trans (ticks_P h k (by omega)) this
/-- what stays of the reference when its loop is tried -/
def FQ (m m' : pLV) : Prop := m' 2 = m 2 ∧ m' 3 = m 3 ∧ m' 4 = m 4 ∧ m' 0 2 = m 0 2 ∧ m' 0 4 = m 0 4 ∧ m' 0 6 = m 0 6 ∧ m' 0 7 = m 0 7 ∧ m' 0 8 = m 0 8
theorem FR.q {m m' : pLV} (f : FR m m') : FQ m m' := by
  obtain ⟨a1, a2, a3, a4, a5, a6, a7, a8, a9, a10⟩ := f
  exact ⟨a1, a2, a3, a6, a7, a8, a9, a10⟩
theorem FQ.tr {a b c : pLV} (h : FQ a b) (g : FQ b c) : FQ a c := by
  obtain ⟨a1, a2, a3, a6, a7, a8, a9, a10⟩ := h
  obtain ⟨b1, b2, b3, b6, b7, b8, b9, b10⟩ := g
  exact ⟨b1.trans a1, b2.trans a2, b3.trans a3, b6.trans a6, b7.trans a7, b8.trans a8, b9.trans a9, b10.trans a10⟩
theorem FQ.rf (m : pLV) : FQ m m := ⟨rfl, rfl, rfl, rfl, rfl, rfl, rfl, rfl⟩
theorem hold_FQ (m : pLV) : FQ m (holdM (NM m)) := ⟨rfl, rfl, rfl, rfl, rfl, rfl, rfl, rfl⟩
theorem rest_FQ (m : pLV) : FQ m (restM (NM m)) := ⟨rfl, rfl, rfl, rfl, rfl, rfl, rfl, rfl⟩
theorem rst_1 (m : pLV) (j : Nat) (hj : j < 110) : restM (NM m) 1 j = m 6 j := if_pos hj
theorem hld_6 (m : pLV) (j : Nat) (hj : j < 110) : holdM (NM m) 6 j = m 1 j := if_pos hj
theorem hld_1 (m : pLV) : holdM (NM m) 1 = m 1 := rfl
theorem RS.fq {B C : Int} {x v u u' : pLV} {h : Nat → pLV} {m m' : pLV} (r : RS B x v u h m) (hs : SN C v (m' 1)) (hBC : B ≤ C) (hu : IRm u') (f : FQ m m') : RS C x v u' h m' := by
  obtain ⟨a1, a2, a3, a6, a7, a8, a9, a10⟩ := f
  exact r.loop hs hBC hu a1 a2 a3 a6 a7 a8 a9 a10
theorem SN.rm {B : Int} {v : pLV} {f : Nat → Int32} (h : SN B v f) : IRm v := h.2.2.2.1.1
/-- later -/
theorem latc_S {B : Int} {x v u : pLV} {h : Nat → pLV} {m : pLV} (r : RS B x v u h m) (k : Nat) (hk : B + 2000 * (k : Int) ≤ 2000000000) (q : Int32) (hq : q = 0 ∨ q = 1 ∨ q = 2 ∨ q = 3) {y w : pLV} (ey : tmI k (holdM (NM m)) = y) (ew : tickI k (NL (cpyV u v)) = w) : latA v w (sumP (w 2) 4 - sumP (v 2) 4) q = latZ y q ∧ RS B x v w h (restM (NM y)) ∧ tksOK k (holdM (NM m)) := by
  have g0 : SL B (NL (cpyV u v) 0 2) (NL (cpyV u v)) (holdM (NM m) 1) := r.1.cp r.2.1.1
  obtain ⟨g1, g2⟩ := ticks_S g0 k hk
  have g3 := ticks_OK g0 hk
  rw [ey, ew] at g1
  rw [ey] at g2
  have g6 : ∀ j, j < 110 → restM (NM y) 1 j = m 1 j := fun j hj => by rw [rst_1 y j hj, g2.2.2.2.2.1, hld_6 m j hj]
  have gz : SN B v (restM (NM y) 1) := r.1.co g6
  refine ⟨?_, r.fq gz (Int.le_refl _) g1.2.2.2.1.1 (((hold_FQ m).tr g2.q).tr (rest_FQ y)), g3⟩
  have hch := g1.2.2.2.1.2.1
  have a1 : apM y = sumP (w 2) 4 := ap_eq g1
  have a2 : apM (restM (NM y)) = sumP (v 2) 4 := ap_eq gz
  have e32 : y 1 32 = w 0 24 := g1.1 32 (by omega)
  have z32 : restM (NM y) 1 32 = v 0 24 := gz.1 32 (by omega)
  have e21 : y 1 21 = w 0 13 := g1.1 21 (by omega)
  have ec : csM 3 y = csC (w 0 19) (w 0 20) := by
    unfold csM sumM
    rw [show y 1 (18 + 3 * 3) = w 0 19 from g1.1 27 (by omega), show y 1 (19 + 3 * 3) = w 0 20 from g1.1 28 (by omega)]
    exact csM_eq hch.2.2.2 (by omega)
  unfold latA latZ latQ
  rw [a1, a2, e32, z32, e21, ec]
theorem later_S {B : Int} {x v u : pLV} {h : Nat → pLV} {m : pLV} (r : RS B x v u h m) (n q : Int32) (hB : B + 600000 ≤ 2000000000) : clater_R x v u h n q = latR m n q ∧ RS B x v (clater_U x v u h n q) h (latM m n q) ∧ latOK m n q := by
  by_cases p0 : n < 1
  · have hI : inI n 1 300 = 0 := inI_0l p0
    have hB : clater_B x v n q = -1 := if_pos p0
    have hN : ¬ clater_B x v n q = 0 := by rw [hB]; decide
    rw [show clater_R x v u h n q = -1 from (if_neg hN).trans hB, show clater_U x v u h n q = u from if_neg hN, show latR m n q = -1 from if_pos hI, show latM m n q = m from if_pos hI]
    exact ⟨rfl, r, Or.inl hI⟩
  by_cases p1 : 300 < n
  · have hI : inI n 1 300 = 0 := inI_0r p0 p1
    have hB : clater_B x v n q = -1 := (if_neg p0).trans (if_pos p1)
    have hN : ¬ clater_B x v n q = 0 := by rw [hB]; decide
    rw [show clater_R x v u h n q = -1 from (if_neg hN).trans hB, show clater_U x v u h n q = u from if_neg hN, show latR m n q = -1 from if_pos hI, show latM m n q = m from if_pos hI]
    exact ⟨rfl, r, Or.inl hI⟩
  have hI := inI_1 p0 p1
  by_cases p2 : q < 0
  · have hJ : inI q 0 3 = 0 := inI_0l p2
    have hB : clater_B x v n q = -1 := (if_neg p0).trans ((if_neg p1).trans (if_pos p2))
    have hN : ¬ clater_B x v n q = 0 := by rw [hB]; decide
    rw [show clater_R x v u h n q = -1 from (if_neg hN).trans hB, show clater_U x v u h n q = u from if_neg hN, show latR m n q = -1 from (if_neg hI).trans (if_pos hJ), show latM m n q = m from (if_neg hI).trans (if_pos hJ)]
    exact ⟨rfl, r, Or.inr (Or.inl hJ)⟩
  by_cases p3 : 3 < q
  · have hJ : inI q 0 3 = 0 := inI_0r p2 p3
    have hB : clater_B x v n q = -1 := (if_neg p0).trans ((if_neg p1).trans ((if_neg p2).trans (if_pos p3)))
    have hN : ¬ clater_B x v n q = 0 := by rw [hB]; decide
    rw [show clater_R x v u h n q = -1 from (if_neg hN).trans hB, show clater_U x v u h n q = u from if_neg hN, show latR m n q = -1 from (if_neg hI).trans (if_pos hJ), show latM m n q = m from (if_neg hI).trans (if_pos hJ)]
    exact ⟨rfl, r, Or.inr (Or.inl hJ)⟩
  have hJ := inI_1 p2 p3
  have hB : clater_B x v n q = 0 := (if_neg p0).trans ((if_neg p1).trans ((if_neg p2).trans (if_neg p3)))
  have hk : n.toNatClampNeg ≤ 300 := by
    have g0 := i_nlt p0
    have g1 := i_nlt p1
    have e0 : (1 : Int32).toInt = 1 := rfl
    have e1 : (300 : Int32).toInt = 300 := rfl
    have e2 : n.toNatClampNeg = n.toInt.toNat := rfl
    omega
  rw [show clater_R x v u h n q = _ from if_pos hB, show clater_U x v u h n q = _ from if_pos hB, show latR m n q = _ from (if_neg hI).trans (if_neg hJ), show latM m n q = _ from (if_neg hI).trans (if_neg hJ)]
  obtain ⟨g1, g2, g3⟩ := latc_S r n.toNatClampNeg (by omega) q (IB_4 (inI_i.mp hJ)) rfl rfl
  exact ⟨g1, g2, Or.inr (Or.inr g3)⟩
end
