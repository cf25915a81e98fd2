noncomputable section
/-! THE TWO SIDES ARE ALIKE: write, wipe, and what only reads -/
theorem nI_ne {a b : Nat} (h : a ≠ b) (ha : a < 1000) (hb : b < 1000) : ¬ nI a = nI b := by
  intro e
  have := congrArg Int32.toNatClampNeg e
  rw [nI_clamp (by omega), nI_clamp (by omega)] at this
  exact h this
theorem nI_i {a : Nat} (h : a < 2147483648) : (nI a).toInt = a := Int32.toInt_ofNat_of_lt h
theorem RTx.ok {x m : pLV} (h : RTx x m) : lOK m := by
  obtain ⟨n, h1, h2, h3, h4⟩ := h
  unfold lOK
  rw [h3]
  exact ⟨nI_pos' (by omega), nI_le (a := n) (b := 120) h1 (by omega)⟩
theorem write_S {B : Int} {x v u : pLV} {h : Nat → pLV} {m : pLV} (r : RS B x v u h m) (c : Int32) : cwrite_R x v u h c = wrtR m c ∧ RS B (cwrite_X x v u h c) v u h (wrtM m c) ∧ lOK m := by
  obtain ⟨r1, r2, ⟨n, h1, h2, h3, h4⟩, r4, r5, r6⟩ := id r
  have hl : lOK m := RTx.ok ⟨n, h1, h2, h3, h4⟩
  by_cases p0 : c < 32
  · have hB : cwrite_B x v c = -1 := if_pos p0
    have hN : ¬ cwrite_B x v c = 0 := by rw [hB]; decide
    rw [show cwrite_R x v u h c = -1 from (if_neg hN).trans hB, show cwrite_X x v u h c = _ from if_neg hN, show wrtR m c = -1 from if_pos (inI_0l p0), show wrtM m c = m from if_pos (inI_0l p0)]
    exact ⟨rfl, r, hl⟩
  by_cases p1 : 126 < c
  · have hB : cwrite_B x v c = -1 := (if_neg p0).trans (if_pos p1)
    have hN : ¬ cwrite_B x v c = 0 := by rw [hB]; decide
    rw [show cwrite_R x v u h c = -1 from (if_neg hN).trans hB, show cwrite_X x v u h c = _ from if_neg hN, show wrtR m c = -1 from if_pos (inI_0r p0 p1), show wrtM m c = m from if_pos (inI_0r p0 p1)]
    exact ⟨rfl, r, hl⟩
  have hI := inI_1 p0 p1
  have z0 : ¬ x 0 0 < 0 := by
    rw [h2]
    exact Int32.not_lt.mpr (nI_pos' (by omega))
  by_cases p2 : n = 120
  · subst p2
    have hB : cwrite_B x v c = -3 := (if_neg p0).trans ((if_neg p1).trans ((if_neg z0).trans (if_pos (by rw [h2]; decide))))
    have hN : ¬ cwrite_B x v c = 0 := by rw [hB]; decide
    have hM : m 0 6 = 120 := h3
    rw [show cwrite_R x v u h c = -3 from (if_neg hN).trans hB, show cwrite_X x v u h c = _ from if_neg hN, show wrtR m c = -3 from (if_neg hI).trans (if_pos hM), show wrtM m c = m from (if_neg hI).trans (if_pos hM)]
    exact ⟨rfl, r, hl⟩
  have z1 : ¬ 120 ≤ x 0 0 := by
    rw [h2, ile, nI_i (by omega)]
    have : (120 : Int32).toInt = 120 := rfl
    omega
  have hB : cwrite_B x v c = 0 := (if_neg p0).trans ((if_neg p1).trans ((if_neg z0).trans (if_neg z1)))
  have hM : ¬ m 0 6 = 120 := by
    rw [h3]
    exact nI_ne (b := 120) p2 (by omega) (by omega)
  rw [show cwrite_R x v u h c = _ from if_pos hB, show cwrite_X x v u h c = _ from if_pos hB, show wrtR m c = _ from (if_neg hI).trans (if_neg hM), show wrtM m c = _ from (if_neg hI).trans (if_neg hM)]
  refine ⟨by rw [h2, h3], ⟨r1, r2, ⟨n + 1, by omega, ?_, ?_, fun j hj => ?_⟩, r4, r5, r6⟩, hl⟩
  · show x 0 0 + 1 = _
    rw [h2, nI_1]
  · show m 0 6 + 1 = _
    rw [h3, nI_1]
  · show upd (m 4) (m 0 6).toNatClampNeg c j = upd (x 1) (x 0 0).toNatClampNeg c j
    rw [h2, h3, nI_clamp (by omega)]
    by_cases z : j = n
    · subst z
      exact (if_pos rfl).trans (if_pos rfl).symm
    · rw [upd_ne z, upd_ne z]
      exact h4 j (by omega)
theorem wipe_S {B : Int} {x v u : pLV} {h : Nat → pLV} {m : pLV} (r : RS B x v u h m) : x 0 0 = m 0 6 ∧ RS B (vS x 0 0) v u h (wipM m) := by
  obtain ⟨r1, r2, ⟨n, h1, h2, h3, h4⟩, r4, r5, r6⟩ := r
  exact ⟨h2.trans h3.symm, r1, r2, ⟨0, by omega, rfl, rfl, fun j hj => absurd hj (Nat.not_lt_zero j)⟩, r4, r5, r6⟩
theorem fault_S {B : Int} {x v u : pLV} {h : Nat → pLV} {m : pLV} (r : RS B x v u h m) (q : Int32) : fauB x q = fauR m q := by
  have e0 : (0 : Int32).toInt = 0 := rfl
  have e1 : (1 : Int32).toInt = 1 := rfl
  unfold fauB fauR
  by_cases q0 : q = 0
  · subst q0
    rw [if_neg (by decide), if_neg (by decide), if_pos rfl, if_pos rfl]
    rcases r.2.2.2.1 with ⟨a, b, c⟩ | ⟨a, b, c⟩
    · rw [if_pos a, b]
    · rw [if_neg a, b]
  by_cases q1 : q = 1
  · subst q1
    rcases r.2.2.2.1 with ⟨a, b, c⟩ | ⟨a, b, c⟩
    · rw [if_neg (by decide), if_neg (by decide), if_pos a, if_neg q0, if_pos rfl, c]
    · rw [if_neg (by decide), if_neg (by decide), if_neg a, if_neg q0, if_neg q0, if_pos rfl, c]
  rw [show (if q = 0 then m 0 7 else if q = 1 then m 0 8 else -1) = -1 from (if_neg q0).trans (if_neg q1)]
  by_cases p0 : q < 0
  · rw [if_pos p0]
  rw [if_neg p0]
  by_cases p1 : 1 < q
  · rw [if_pos p1]
  exfalso
  rw [ilt] at p0 p1
  rw [ieq] at q0 q1
  omega
theorem setting_S {B : Int} {x v u : pLV} {h : Nat → pLV} {m : pLV} (r : RS B x v u h m) (s : Int32) : stgB x v s = stgR m s := by
  have e0 : (0 : Int32).toInt = 0 := rfl
  have e8 : (8 : Int32).toInt = 8 := rfl
  have e9 : (9 : Int32).toInt = 9 := rfl
  have h1 := r.1.1
  unfold stgB stgR
  by_cases p0 : s < 0
  · rw [if_pos p0, if_pos (inI_0l p0)]
  rw [if_neg p0]
  by_cases p1 : 9 ≤ s
  · rw [if_pos p1, if_pos (inI_0r p0 (by rw [ile] at p1; rw [ilt]; omega))]
  rw [if_neg p1]
  have p2 : ¬ 8 < s := by rw [ile] at p1; rw [ilt]; omega
  rw [if_neg (inI_1 p0 p2)]
  have hk : s.toNatClampNeg < 9 := by
    have e : s.toNatClampNeg = s.toInt.toNat := rfl
    rw [ilt] at p0 p2
    omega
  generalize s.toNatClampNeg = k at hk
  match k, hk with
  | 0, _ => exact (h1 0 (by omega)).symm
  | 1, _ => exact (h1 1 (by omega)).symm
  | 2, _ => exact (h1 2 (by omega)).symm
  | 3, _ => exact (h1 3 (by omega)).symm
  | 4, _ => exact (h1 4 (by omega)).symm
  | 5, _ => exact (h1 5 (by omega)).symm
  | 6, _ => exact (h1 6 (by omega)).symm
  | 7, _ => exact (h1 7 (by omega)).symm
  | 8, _ => exact (h1 8 (by omega)).symm
  | j + 9, hj => exact absurd hj (by omega)
theorem paper_S {B : Int} {x v u : pLV} {h : Nat → pLV} {m : pLV} (r : RS B x v u h m) (g : Int32) : papB x v g = papR m g := by
  have h1 := r.1.1
  unfold papB papR
  by_cases p0 : g < 0
  · rw [if_pos p0, if_pos (inI_0l p0)]
  rw [if_neg p0]
  by_cases p1 : 4 ≤ g
  · rw [if_pos p1, if_pos (inI_0r p0 (ge4 p1))]
  rw [if_neg p1, if_neg (inI_1 p0 (nge4 p1))]
  rcases IB_4 (inI_i.mp (inI_1 p0 (nge4 p1))) with rfl | rfl | rfl | rfl
  · exact (h1 35 (by omega)).symm
  · exact (h1 36 (by omega)).symm
  · exact (h1 37 (by omega)).symm
  · exact (h1 38 (by omega)).symm
theorem account_S {B : Int} {x v u : pLV} {h : Nat → pLV} {m : pLV} (r : RS B x v u h m) (q : Int32) : accB x v q = accR m q := by
  have h1 := r.1.1
  have e30 : m 1 30 = v 0 22 := h1 30 (by omega)
  have e31 : m 1 31 = v 0 23 := h1 31 (by omega)
  have e32 : m 1 32 = v 0 24 := h1 32 (by omega)
  have e33 : m 1 33 = v 0 25 := h1 33 (by omega)
  have e34 : m 1 34 = v 0 26 := h1 34 (by omega)
  have e18 : m 1 18 = v 0 10 := h1 18 (by omega)
  have e21 : m 1 21 = v 0 13 := h1 21 (by omega)
  have e24 : m 1 24 = v 0 16 := h1 24 (by omega)
  have e27 : m 1 27 = v 0 19 := h1 27 (by omega)
  unfold accB accR
  rw [ap_eq r.1, e30, e31, e32, e33, e34, show icM m = fibV v by unfold icM fibV; rw [e18, e21, e24, e27]]
theorem eaI_eq {m : pLV} {f : Nat → Int32} {t : Int32} : ∀ n, (∀ k, k < n → m 1 (50 + 3 * k) = f k) → m 1 9 = t → eaI n m = caI f t n
  | 0, _, _ => rfl
  | n + 1, h, ht => by
    show eaI n m + _ = (if f n ≤ t then caI f t n else caI f t n + 1)
    rw [eaI_eq n (fun k hk => h k (by omega)) ht, h n (by omega), ht]
    split
    · exact Int32.add_zero _
    · rfl
theorem n29 {v : pLV} (h : IB 0 20 (v 0 29)) : (v 0 29).toNatClampNeg ≤ 20 := by
  have e : (v 0 29).toNatClampNeg = (v 0 29).toInt.toNat := rfl
  have := h.2
  omega
theorem told_S {B : Int} {x v u : pLV} {h : Nat → pLV} {m : pLV} (r : RS B x v u h m) (q : Int32) : tolB x v q = tolR m q ∧ eOK m := by
  have h1 := r.1.1
  have hn := n29 r.1.2.2.2.1.2.2.2.1.2.2.2.2.2
  have e49 : m 1 49 = v 0 29 := r.1.2.2.1.1
  have ea : caI (v 4) (v 0 0) (caK (v 0 29)) = eaR m := by
    unfold caK eaR
    rw [Nat.min_eq_right hn, e49]
    exact (eaI_eq _ (fun k hk => (r.1.2.2.1.2 k hk).1) (h1 9 (by omega))).symm
  refine ⟨?_, by unfold eOK; rw [e49]; exact hn⟩
  have e9 : m 1 9 = v 0 0 := h1 9 (by omega)
  have e10 : m 1 10 = v 0 1 := h1 10 (by omega)
  have e11 : m 1 11 = v 0 2 := h1 11 (by omega)
  have e12 : m 1 12 = v 0 3 := h1 12 (by omega)
  have e13 : m 1 13 = v 0 27 := h1 13 (by omega)
  have e14 : m 1 14 = v 0 4 := h1 14 (by omega)
  have e15 : m 1 15 = v 0 5 := h1 15 (by omega)
  have e16 : m 1 16 = ltC (v 0 28) (v 3 0) := h1 16 (by omega)
  have e17 : m 1 17 = v 0 6 := h1 17 (by omega)
  obtain ⟨n, t1, t2, t3, t4⟩ := r.2.2.1
  obtain ⟨s, q', s1, s2, s3, s4, -⟩ := r.2.2.2.2.1
  unfold tolB tolR
  rw [ea, e9, e10, e11, e12, e13, e14, e15, e16, e17, e49, t2, t3, s3, s4]
theorem chestc_S {r0 : Int} {f g z R : Int32} {m : pLV} {c : Nat} (hch : CH r0 f g) (hr : r0 ≤ 3000000) (a : Int32) (c1 : Int32) (hc1 : c1.toNatClampNeg = c) (e1 : m 1 (18 + 3 * c) = f) (e2 : m 1 (19 + 3 * c) = g) (e3 : m 1 (20 + 3 * c) = z) (hR : rmI c1 = R) : (if a = 0 then f else if a = 1 then g else if a = 2 then csC f g else if a = 3 then R - f - g else if a = 4 then z else -1) = chsQ m c1 a := by
  unfold chsQ
  rw [hc1, hR, show csM c m = csC f g by unfold csM sumM; rw [e1, e2]; exact csM_eq hch hr, show R - sumM c m = R - f - g by
    unfold sumM
    rw [e1, e2, ← Int32.toBitVec_inj]
    simp only [Int32.toBitVec_sub, Int32.toBitVec_add]
    bv_omega, e1, e2, e3]
theorem chest_S {B : Int} {x v u : pLV} {h : Nat → pLV} {m : pLV} (r : RS B x v u h m) (c a : Int32) : chsB x v c a = chsR m c a := by
  have h1 := r.1.1
  have hch := r.1.2.2.2.1.2.1
  have hrm := r.1.2.2.2.1.1
  unfold chsB chsR
  by_cases p0 : c < 0
  · rw [if_pos p0, if_pos (inI_0l p0)]
  rw [if_neg p0]
  by_cases p1 : 4 ≤ c
  · rw [if_pos p1, if_pos (inI_0r p0 (ge4 p1))]
  rw [if_neg p1, if_neg (inI_1 p0 (nge4 p1))]
  rcases IB_4 (inI_i.mp (inI_1 p0 (nge4 p1))) with rfl | rfl | rfl | rfl
  · exact chestc_S (c := 0) hch.1 (by omega) a 0 rfl (h1 18 (by omega)) (h1 19 (by omega)) (h1 20 (by omega)) (Eq.trans rfl hrm.1.symm)
  · exact chestc_S (c := 1) hch.2.1 (by omega) a 1 rfl (h1 21 (by omega)) (h1 22 (by omega)) (h1 23 (by omega)) (Eq.trans rfl hrm.2.1.symm)
  · exact chestc_S (c := 2) hch.2.2.1 (by omega) a 2 rfl (h1 24 (by omega)) (h1 25 (by omega)) (h1 26 (by omega)) (Eq.trans rfl hrm.2.2.1.symm)
  · exact chestc_S (c := 3) hch.2.2.2 (by omega) a 3 rfl (h1 27 (by omega)) (h1 28 (by omega)) (h1 29 (by omega)) (Eq.trans rfl hrm.2.2.2.symm)
theorem entry_S {B : Int} {x v u : pLV} {h : Nat → pLV} {m : pLV} (r : RS B x v u h m) (e a : Int32) : entB x v e a = entR m e a ∧ tOK20 m := by
  have e0 : (0 : Int32).toInt = 0 := rfl
  have e1 : (1 : Int32).toInt = 1 := rfl
  have e2 : (2 : Int32).toInt = 2 := rfl
  have e20 : (20 : Int32).toInt = 20 := rfl
  have e49 : m 1 49 = v 0 29 := r.1.2.2.1.1
  have hn := r.1.2.2.2.1.2.2.2.1.2.2.2.2.2
  have hE := r.1.2.2.1.2
  obtain ⟨n0, n1⟩ := hn
  refine ⟨?_, by unfold tOK20; rw [e49, ile, ile]; omega⟩
  unfold entB entR
  rw [e49]
  have es : (v 0 29 - 1).toInt = (v 0 29).toInt - 1 := by rw [i_sub (by omega) (by omega)]; rfl
  by_cases p0 : e < 0
  · rw [if_pos p0, if_pos (inI_0l p0)]
  rw [if_neg p0]
  by_cases p1 : v 0 29 ≤ e
  · rw [if_pos p1, if_pos (inI_0r p0 (by rw [ile] at p1; rw [ilt]; omega))]
  rw [if_neg p1]
  have p2 : ¬ 20 ≤ e := by
    rw [ile] at p1 ⊢
    omega
  rw [if_neg p2, if_neg (inI_1 p0 (by rw [ile] at p1; rw [ilt]; omega))]
  have hk : e.toNatClampNeg < (v 0 29).toNatClampNeg := by
    have e1 : e.toNatClampNeg = e.toInt.toNat := rfl
    have e2 : (v 0 29).toNatClampNeg = (v 0 29).toInt.toNat := rfl
    rw [ile] at p1
    rw [ilt] at p0
    omega
  have hk2 := n29 ⟨n0, n1⟩
  have he : e = nI e.toNatClampNeg := nI_ofN (Int32.not_lt.mp p0)
  generalize e.toNatClampNeg = k at hk he
  subst he
  obtain ⟨g1, g2, g3⟩ := hE k hk
  by_cases a0 : a = 0
  · subst a0
    rw [if_pos rfl, if_neg (by decide), show (0 : Int32) = nI 0 from rfl, nI_ent, nI_clamp (by omega)]
    exact g1.symm
  rw [if_neg a0]
  by_cases a1 : a = 1
  · subst a1
    rw [if_pos rfl, if_neg (by decide), show (1 : Int32) = nI 1 from rfl, nI_ent, nI_clamp (by omega)]
    exact g2.symm
  rw [if_neg a1]
  by_cases a2 : a = 2
  · subst a2
    rw [if_pos rfl, if_neg (by decide), show (2 : Int32) = nI 2 from rfl, nI_ent, nI_clamp (by omega)]
    exact g3.symm
  rw [if_neg a2, if_pos (inI_z.mpr ?_)]
  rw [ieq] at a0 a1 a2
  omega
end
