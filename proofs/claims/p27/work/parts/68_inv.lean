noncomputable section
/-! WHAT STAYS TRUE OF A LOOP -/
def IB (lo hi : Int) (x : Int32) : Prop := lo ≤ x.toInt ∧ x.toInt ≤ hi
def ICh (v : pLV) : Prop := CH 20000 (v 0 10) (v 0 11) ∧ CH 30000 (v 0 13) (v 0 14) ∧ CH 10000 (v 0 16) (v 0 17) ∧ CH 10000 (v 0 19) (v 0 20)
def IGt (v : pLV) : Prop := (v 0 12).toInt ≤ 20000 ∧ (v 0 15).toInt ≤ 30000 ∧ (v 0 18).toInt ≤ 10000 ∧ (v 0 21).toInt ≤ 10000
def ISt (v : pLV) : Prop := IB 0 200 (v 1 0) ∧ IB 0 5000 (v 1 1) ∧ IB 0 2000 (v 1 2) ∧ IB 0 1000 (v 1 3) ∧ IB 0 2000 (v 1 7) ∧ IB 0 20 (v 1 8)
def IGr (v : pLV) : Prop := IB 0 3 (v 0 1) ∧ IB 0 50 (v 0 2) ∧ IB 0 20 (v 0 3) ∧ IB 0 3000 (v 0 27)
def IEn (k n : Int32) : Prop := (k = 0 ∧ IB 0 50 n) ∨ (k = 1 ∧ IB 0 3 n) ∨ (k = 2 ∧ IB 0 2000 n)
def ISx (z : Int32) (t k n : Nat → Int32) : Prop := ∃ N : Nat, N ≤ 20 ∧ z = nI N ∧ (∀ j, j < N → IEn (k j) (n j)) ∧ ∀ j, j + 1 < N → (t j).toInt ≤ (t (j + 1)).toInt
def ISc (v : pLV) : Prop := ISx (v 0 29) (v 4) (v 5) (v 6)
def JA (v : pLV) : Prop := IRm v ∧ ICh v ∧ IGt v ∧ ISt v ∧ IGr v ∧ ISc v
theorem JA.nl {v : pLV} (h : JA v) : JA (NL v) := h
/-- the account of fibre, z of it being between the chests -/
def BL (z : Int32) (v : pLV) : Prop := 400 + v 0 22 + v 0 23 = sumP (v 2) 4 + v 0 24 + v 0 25 + fibV v + z
theorem BL.nl {z : Int32} {v : pLV} (h : BL z v) : BL z (NL v) := h
theorem toI0 : (0 : Int32).toInt = 0 := rfl
theorem JA.rm0 {v : pLV} (h : JA v) : (v 0 30).toInt = 20000 := by rw [h.1.1]; rfl
theorem JA.rm1 {v : pLV} (h : JA v) : (v 0 31).toInt = 30000 := by rw [h.1.2.1]; rfl
theorem JA.rm2 {v : pLV} (h : JA v) : (v 0 32).toInt = 10000 := by rw [h.1.2.2.1]; rfl
theorem JA.rm3 {v : pLV} (h : JA v) : (v 0 33).toInt = 10000 := by rw [h.1.2.2.2]; rfl
theorem JA.pour0 {v : pLV} {a b : Int32} (h : JA v) (ha : 0 ≤ a.toInt) (hb : 0 ≤ b.toInt) (hab : a.toInt + b.toInt ≤ 1000000) : JA (pourV 0 v a b) :=
  ⟨h.1, ⟨(pour_ok h.2.1.1 (by omega) h.rm0 ha hb hab (by omega)).1, h.2.1.2.1, h.2.1.2.2.1, h.2.1.2.2.2⟩, h.2.2.1, h.2.2.2.1, h.2.2.2.2.1, h.2.2.2.2.2⟩
theorem BL.pour0 {v : pLV} {a : Int32} (b : Int32) (h : BL a v) : BL 0 (pourV 0 v a b) := by
  have h : 400 + v 0 22 + v 0 23 = sumP (v 2) 4 + v 0 24 + v 0 25 + (v 0 10 + v 0 13 + v 0 16 + v 0 19) + a := h
  show 400 + v 0 22 + v 0 23 = sumP (v 2) 4 + (v 0 24 + puR (v 0 30) (v 0 10) (v 0 11) a b) + v 0 25 + ((v 0 10 + a - puR (v 0 30) (v 0 10) (v 0 11) a b) + v 0 13 + v 0 16 + v 0 19) + 0
  generalize puR (v 0 30) (v 0 10) (v 0 11) a b = t
  grind
theorem JA.pour1 {v : pLV} {a b : Int32} (h : JA v) (ha : 0 ≤ a.toInt) (hb : 0 ≤ b.toInt) (hab : a.toInt + b.toInt ≤ 1000000) : JA (pourV 1 v a b) :=
  ⟨h.1, ⟨h.2.1.1, (pour_ok h.2.1.2.1 (by omega) h.rm1 ha hb hab (by omega)).1, h.2.1.2.2.1, h.2.1.2.2.2⟩, h.2.2.1, h.2.2.2.1, h.2.2.2.2.1, h.2.2.2.2.2⟩
theorem BL.pour1 {v : pLV} {a : Int32} (b : Int32) (h : BL a v) : BL 0 (pourV 1 v a b) := by
  have h : 400 + v 0 22 + v 0 23 = sumP (v 2) 4 + v 0 24 + v 0 25 + (v 0 10 + v 0 13 + v 0 16 + v 0 19) + a := h
  show 400 + v 0 22 + v 0 23 = sumP (v 2) 4 + (v 0 24 + puR (v 0 31) (v 0 13) (v 0 14) a b) + v 0 25 + (v 0 10 + (v 0 13 + a - puR (v 0 31) (v 0 13) (v 0 14) a b) + v 0 16 + v 0 19) + 0
  generalize puR (v 0 31) (v 0 13) (v 0 14) a b = t
  grind
theorem JA.pour2 {v : pLV} {a b : Int32} (h : JA v) (ha : 0 ≤ a.toInt) (hb : 0 ≤ b.toInt) (hab : a.toInt + b.toInt ≤ 1000000) : JA (pourV 2 v a b) :=
  ⟨h.1, ⟨h.2.1.1, h.2.1.2.1, (pour_ok h.2.1.2.2.1 (by omega) h.rm2 ha hb hab (by omega)).1, h.2.1.2.2.2⟩, h.2.2.1, h.2.2.2.1, h.2.2.2.2.1, h.2.2.2.2.2⟩
theorem BL.pour2 {v : pLV} {a : Int32} (b : Int32) (h : BL a v) : BL 0 (pourV 2 v a b) := by
  have h : 400 + v 0 22 + v 0 23 = sumP (v 2) 4 + v 0 24 + v 0 25 + (v 0 10 + v 0 13 + v 0 16 + v 0 19) + a := h
  show 400 + v 0 22 + v 0 23 = sumP (v 2) 4 + (v 0 24 + puR (v 0 32) (v 0 16) (v 0 17) a b) + v 0 25 + (v 0 10 + v 0 13 + (v 0 16 + a - puR (v 0 32) (v 0 16) (v 0 17) a b) + v 0 19) + 0
  generalize puR (v 0 32) (v 0 16) (v 0 17) a b = t
  grind
theorem JA.pour3 {v : pLV} {a b : Int32} (h : JA v) (ha : 0 ≤ a.toInt) (hb : 0 ≤ b.toInt) (hab : a.toInt + b.toInt ≤ 1000000) : JA (pourV 3 v a b) :=
  ⟨h.1, ⟨h.2.1.1, h.2.1.2.1, h.2.1.2.2.1, (pour_ok h.2.1.2.2.2 (by omega) h.rm3 ha hb hab (by omega)).1⟩, h.2.2.1, h.2.2.2.1, h.2.2.2.2.1, h.2.2.2.2.2⟩
theorem BL.pour3 {v : pLV} {a : Int32} (b : Int32) (h : BL a v) : BL 0 (pourV 3 v a b) := by
  have h : 400 + v 0 22 + v 0 23 = sumP (v 2) 4 + v 0 24 + v 0 25 + (v 0 10 + v 0 13 + v 0 16 + v 0 19) + a := h
  show 400 + v 0 22 + v 0 23 = sumP (v 2) 4 + (v 0 24 + puR (v 0 33) (v 0 19) (v 0 20) a b) + v 0 25 + (v 0 10 + v 0 13 + v 0 16 + (v 0 19 + a - puR (v 0 33) (v 0 19) (v 0 20) a b)) + 0
  generalize puR (v 0 33) (v 0 19) (v 0 20) a b = t
  grind
-- the schedule
theorem JA.brk {v : pLV} {n : Int32} (h : JA v) (hn : IB 0 50 n) : JA (brkV v n) := by
  have e : (mxI (v 0 2) n).toInt = max (v 0 2).toInt n.toInt := mxI_i _ _
  obtain ⟨g1, g2, g3, g4⟩ := h.2.2.2.2.1
  have hb : IB 0 50 (mxI (v 0 2) n) := by
    unfold IB at *
    omega
  exact ⟨h.1, h.2.1, h.2.2.1, h.2.2.2.1, ⟨g1, hb, g3, g4⟩, h.2.2.2.2.2⟩
theorem JA.turn {v : pLV} {n : Int32} (h : JA v) (hn : IB 0 3 n) : JA (turnV v n) := by
  unfold turnV
  split
  · exact h
  · exact ⟨h.1, h.2.1, h.2.2.1, h.2.2.2.1, ⟨hn, h.2.2.2.2.1.2.1, h.2.2.2.1.2.2.2.2.2, h.2.2.2.2.1.2.2.2⟩, h.2.2.2.2.2⟩
theorem JA.flow {v : pLV} {n : Int32} (h : JA v) (hn : IB 0 2000 n) : JA (vA v 1 (upd (v 1) 2 n)) :=
  ⟨h.1, h.2.1, h.2.2.1, ⟨h.2.2.2.1.1, h.2.2.2.1.2.1, hn, h.2.2.2.1.2.2.2⟩, h.2.2.2.2.1, h.2.2.2.2.2⟩
theorem JA.co {v : pLV} {k n : Int32} (h : JA v) (hn : IEn k n) : JA (coV v k n) := by
  unfold coV
  rcases hn with ⟨rfl, hn⟩ | ⟨rfl, hn⟩ | ⟨rfl, hn⟩
  · rw [if_pos rfl]; exact h.nl.brk hn
  · rw [if_neg (by decide), if_pos rfl]; exact h.nl.turn hn
  · rw [if_neg (by decide), if_neg (by decide)]; exact h.flow hn
/-- what the schedule leaves alone -/
def CoF (v w : pLV) : Prop := w 0 0 = v 0 0 ∧ w 0 5 = v 0 5 ∧ w 0 6 = v 0 6 ∧ w 0 28 = v 0 28 ∧ w 0 26 = v 0 26 ∧ w 2 = v 2 ∧ w 3 = v 3 ∧ w 0 29 = v 0 29 ∧ w 4 = v 4 ∧ w 5 = v 5 ∧ w 6 = v 6 ∧ (∀ z, BL z v → BL z w) ∧ (IRm v → IRm w)
theorem CoF.rf (v : pLV) : CoF v v := ⟨rfl, rfl, rfl, rfl, rfl, rfl, rfl, rfl, rfl, rfl, rfl, fun _ h => h, fun h => h⟩
theorem CoF.tr {a b c : pLV} (h : CoF a b) (g : CoF b c) : CoF a c := by
  obtain ⟨h1, h2, h3, h4, h5, h6, h7, h8, h9, h10, h11, h12, h13⟩ := h
  obtain ⟨g1, g2, g3, g4, g5, g6, g7, g8, g9, g10, g11, g12, g13⟩ := g
  exact ⟨g1.trans h1, g2.trans h2, g3.trans h3, g4.trans h4, g5.trans h5, g6.trans h6, g7.trans h7, g8.trans h8, g9.trans h9, g10.trans h10, g11.trans h11, fun z q => g12 z (h12 z q), fun q => g13 (h13 q)⟩
theorem co_F (v : pLV) (k n : Int32) : CoF v (coV v k n) := by
  unfold coV
  split
  · exact ⟨rfl, rfl, rfl, rfl, rfl, rfl, rfl, rfl, rfl, rfl, rfl, fun _ h => h, fun h => h⟩
  · split
    · unfold turnV
      split <;> exact ⟨rfl, rfl, rfl, rfl, rfl, rfl, rfl, rfl, rfl, rfl, rfl, fun _ h => h, fun h => h⟩
    · exact ⟨rfl, rfl, rfl, rfl, rfl, rfl, rfl, rfl, rfl, rfl, rfl, fun _ h => h, fun h => h⟩
theorem cst_F (v : pLV) (k : Nat) : CoF v (cstV v k) := by
  unfold cstV
  split
  · exact (show CoF v (NL v) from CoF.rf v).tr (co_F (NL v) _ _)
  · exact CoF.rf v
theorem cry_F (v : pLV) : ∀ k, CoF v (cryI k v)
  | 0 => CoF.rf v
  | k + 1 => (cry_F v k).tr (cst_F _ k)
theorem JA.cry {v : pLV} (h : JA v) : ∀ k, k ≤ (v 0 29).toNatClampNeg → JA (cryI k v)
  | 0, _ => h
  | k + 1, hk => by
    have ih := JA.cry h k (by omega)
    show JA (cstV (cryI k v) k)
    unfold cstV
    split
    · refine ih.nl.co ?_
      obtain ⟨N, h20, hN, hE, -⟩ := ih.2.2.2.2.2
      have e : (cryI k v) 0 29 = v 0 29 := cryI_29 k v
      have : (v 0 29).toNatClampNeg = N := by rw [← e, hN, nI_clamp (by omega)]
      exact hE k (by omega)
    · exact ih
theorem JA.clk {v : pLV} {x : Int32} (h : JA v) : JA (vS v 0 x) := h
theorem JA.tk1 {v : pLV} (h : JA v) : JA (tk1 v) := JA.cry (h.clk.nl) _ (Nat.min_le_right _ _)
theorem tk1_F (v : pLV) : CoF (vS v 0 (v 0 0 + 1)) (tk1 v) := (show CoF (vS v 0 (v 0 0 + 1)) (NL (vS v 0 (v 0 0 + 1))) from CoF.rf _).tr (cry_F _ _)
theorem BL.tk1 {v : pLV} {z : Int32} (h : BL z v) : BL z (tk1 v) := (tk1_F v).2.2.2.2.2.2.2.2.2.2.2.1 z h
-- the inflow
theorem JA.tk2 {v : pLV} (h : JA v) : JA (tk2 v) := by
  have h2 : JA (NL (vS v 22 (v 0 22 + v 1 0))) := h
  obtain ⟨⟨a1, a2⟩, ⟨b1, b2⟩, -⟩ := h.2.2.2.1
  exact h2.pour0 a1 b1 (by omega)
theorem BL.tk2 {v : pLV} (h : BL 0 v) : BL 0 (tk2 v) := by
  have h2 : BL (v 1 0) (NL (vS v 22 (v 0 22 + v 1 0))) := by
    have h : 400 + v 0 22 + v 0 23 = sumP (v 2) 4 + v 0 24 + v 0 25 + fibV v + 0 := h
    show 400 + (v 0 22 + v 1 0) + v 0 23 = sumP (v 2) 4 + v 0 24 + v 0 25 + fibV v + v 1 0
    grind
  exact h2.pour0 _
-- mixing
theorem mx_dem {v : pLV} (h : JA v) : 0 ≤ (mxD v).toInt ∧ (mxD v).toInt ≤ 2000 := by
  have hsum := h.2.1.2.2.1.sum (by omega)
  obtain ⟨q1, q2, q3⟩ := h.2.1.2.2.1
  have hr := h.rm2
  have hmis : (v 0 32 - v 0 16 - v 0 17).toInt = 10000 - ((v 0 16).toInt + (v 0 17).toInt) := by
    rw [sub_sub32, i_sub (by omega) (by omega), hsum, hr]
  obtain ⟨f1, f2⟩ := h.2.2.2.1.2.2.1
  unfold mxD
  rw [mnI_i, hmis]
  omega
theorem mx_wnt {v : pLV} (h : JA v) : 0 ≤ (mxW v).toInt ∧ (mxW v).toInt ≤ (mxD v).toInt := by
  have hd := mx_dem h
  obtain ⟨l1, l2⟩ := h.2.2.2.1.2.2.2.1
  unfold mxW
  split
  · have hp0 : 0 ≤ (mxD v).toInt * (v 1 3).toInt := Int.mul_nonneg hd.1 l1
    have hp1 : (mxD v).toInt * (v 1 3).toInt ≤ (mxD v).toInt * 1000 := Int.mul_le_mul_of_nonneg_left l2 hd.1
    have hmul : (mxD v * v 1 3).toInt = (mxD v).toInt * (v 1 3).toInt := i_mul (by omega) (by omega)
    rw [div1000 (by omega), hmul]
    omega
  · rw [toI0]
    omega
theorem mx_tak {v : pLV} (h : JA v) {w : Int32} (hw : 0 ≤ w.toInt ∧ w.toInt ≤ (mxD v).toInt) : 0 ≤ (mxB v w).toInt ∧ (mxB v w).toInt ≤ w.toInt ∧ (mxB v w).toInt ≤ (v 0 13).toInt + (v 0 14).toInt ∧ 0 ≤ (mxP v w).toInt ∧ (mxP v w).toInt ≤ (v 0 10).toInt + (v 0 11).toInt ∧ (mxB v w).toInt + (mxP v w).toInt ≤ 2000 := by
  have hd := mx_dem h
  have s1 := h.2.1.2.1.sum (by omega)
  have s0 := h.2.1.1.sum (by omega)
  obtain ⟨q1, q2, q3⟩ := h.2.1.2.1
  obtain ⟨p1, p2, p3⟩ := h.2.1.1
  have eB : (mxB v w).toInt = min w.toInt ((v 0 13).toInt + (v 0 14).toInt) := by
    unfold mxB
    rw [mnI_i, s1]
  have eD : (mxD v - mxB v w).toInt = (mxD v).toInt - (mxB v w).toInt := i_sub (by omega) (by omega)
  have eP : (mxP v w).toInt = min ((mxD v).toInt - (mxB v w).toInt) ((v 0 10).toInt + (v 0 11).toInt) := by
    unfold mxP
    rw [mnI_i, s0, eD]
  omega
theorem JA.mxT {v : pLV} (h : JA v) {w : Int32} (hw : 0 ≤ w.toInt ∧ w.toInt ≤ (mxD v).toInt) : JA (mxT v w) := by
  obtain ⟨a1, a2, a3, a4, a5, a6⟩ := mx_tak h hw
  exact ⟨h.1, ⟨take_CH h.2.1.1 (by omega) a4 a5, take_CH h.2.1.2.1 (by omega) a1 a3, h.2.1.2.2⟩, h.2.2.1, h.2.2.2.1, h.2.2.2.2.1, h.2.2.2.2.2⟩
theorem JA.mxU {v : pLV} (h : JA v) {w : Int32} (hw : 0 ≤ w.toInt ∧ w.toInt ≤ (mxD v).toInt) : JA (mxU v w) := by
  obtain ⟨a1, a2, a3, a4, a5, a6⟩ := mx_tak h hw
  obtain ⟨t1, t2, -⟩ := take_ok h.2.1.2.1 (by omega) a1 a3
  obtain ⟨u1, u2, -⟩ := take_ok h.2.1.1 (by omega) a4 a5
  have eF : (mxF v w).toInt = (tkR (v 0 13) (v 0 14) (mxB v w)).toInt + (tkR (v 0 10) (v 0 11) (mxP v w)).toInt := i_add (by omega) (by omega)
  have eM : (mxB v w + mxP v w).toInt = (mxB v w).toInt + (mxP v w).toInt := i_add (by omega) (by omega)
  have eW : (mxB v w + mxP v w - mxF v w).toInt = (mxB v w).toInt + (mxP v w).toInt - (mxF v w).toInt := by rw [i_sub (by omega) (by omega), eM]
  exact (h.mxT hw).nl.pour2 (by omega) (by omega) (by omega)
theorem JA.rsn {v : pLV} (x : Int32) (h : JA v) : JA (vS v 5 x) := h
theorem BL.rsn {v : pLV} {z : Int32} (x : Int32) (h : BL z v) : BL z (vS v 5 x) := h
theorem JA.mix {v : pLV} (h : JA v) : JA (mixV v) := (h.mxU (mx_wnt h)).nl.rsn _
theorem BL.mix {v : pLV} (h : BL 0 v) : BL 0 (mixV v) := by
  have h2 : BL (mxF v (mxW v)) (NL (mxT v (mxW v))) := by
    have h : 400 + v 0 22 + v 0 23 = sumP (v 2) 4 + v 0 24 + v 0 25 + (v 0 10 + v 0 13 + v 0 16 + v 0 19) + 0 := h
    show 400 + v 0 22 + v 0 23 = sumP (v 2) 4 + v 0 24 + v 0 25 + (v 0 10 - tkR (v 0 10) (v 0 11) (mxP v (mxW v)) + (v 0 13 - tkR (v 0 13) (v 0 14) (mxB v (mxW v))) + v 0 16 + v 0 19) + (tkR (v 0 13) (v 0 14) (mxB v (mxW v)) + tkR (v 0 10) (v 0 11) (mxP v (mxW v)))
    generalize tkR (v 0 13) (v 0 14) (mxB v (mxW v)) = t1
    generalize tkR (v 0 10) (v 0 11) (mxP v (mxW v)) = t2
    grind
  have h3 : BL 0 (mxU v (mxW v)) := h2.pour2 _
  exact h3.nl.rsn _
-- the machine's chest
theorem mc_tak {v : pLV} (h : JA v) : 0 ≤ (mcT v).toInt ∧ (mcT v).toInt ≤ 2000 ∧ (mcT v).toInt ≤ (v 0 16).toInt + (v 0 17).toInt := by
  have s := h.2.1.2.2.1.sum (by omega)
  obtain ⟨q1, q2, q3⟩ := h.2.1.2.2.1
  obtain ⟨f1, f2⟩ := h.2.2.2.1.2.2.1
  unfold mcT
  rw [mnI_i, s]
  omega
theorem JA.mcU {v : pLV} (h : JA v) : JA (mcU v) := by
  obtain ⟨a1, a2, a3⟩ := mc_tak h
  exact ⟨h.1, ⟨h.2.1.1, h.2.1.2.1, take_CH h.2.1.2.2.1 (by omega) a1 a3, h.2.1.2.2.2⟩, h.2.2.1, h.2.2.2.1, h.2.2.2.2.1, h.2.2.2.2.2⟩
theorem JA.mch {v : pLV} (h : JA v) : JA (mchV v) := by
  obtain ⟨a1, a2, a3⟩ := mc_tak h
  obtain ⟨t1, t2, -⟩ := take_ok h.2.1.2.2.1 (by omega) a1 a3
  have t1 : 0 ≤ (mcF v).toInt := t1
  have t2 : (mcF v).toInt ≤ (mcT v).toInt := t2
  obtain ⟨g1, g2⟩ := h.2.2.2.2.1.2.2.2
  have hp0 : 0 ≤ (v 0 27).toInt * (mcT v).toInt := Int.mul_nonneg g1 a1
  have hp1 : (v 0 27).toInt * (mcT v).toInt ≤ 3000 * (mcT v).toInt := Int.mul_le_mul_of_nonneg_right g2 a1
  have hm : (v 0 27 * mcT v).toInt = (v 0 27).toInt * (mcT v).toInt := i_mul (by omega) (by omega)
  have hd : (v 0 27 * mcT v / 1000).toInt = (v 0 27).toInt * (mcT v).toInt / 1000 := by rw [div1000 (by omega), hm]
  have e1 : (mcT v - mcF v).toInt = (mcT v).toInt - (mcF v).toInt := i_sub (by omega) (by omega)
  have e2 : (mcT v - mcF v + v 0 27 * mcT v / 1000).toInt = (mcT v).toInt - (mcF v).toInt + (v 0 27).toInt * (mcT v).toInt / 1000 := by rw [i_add (by omega) (by omega), e1, hd]
  exact h.mcU.nl.pour3 t1 (by omega) (by omega)
theorem BL.mch {v : pLV} (h : BL 0 v) : BL 0 (mchV v) := by
  have h2 : BL (mcF v) (NL (mcU v)) := by
    have h : 400 + v 0 22 + v 0 23 = sumP (v 2) 4 + v 0 24 + v 0 25 + (v 0 10 + v 0 13 + v 0 16 + v 0 19) + 0 := h
    show 400 + v 0 22 + v 0 23 = sumP (v 2) 4 + v 0 24 + v 0 25 + (v 0 10 + v 0 13 + (v 0 16 - mcF v) + v 0 19) + mcF v
    generalize mcF v = t1
    grind
  exact h2.pour3 _
-- the control
theorem JA.tk5 {v : pLV} (h : JA v) : JA (tk5 v) := h
theorem BL.tk5 {v : pLV} {z : Int32} (h : BL z v) : BL z (tk5 v) := h
theorem ct_b (a z : Int32) (f : Nat → Int32) (d t g : Int32) (h : IB 0 3000 a) : IB 0 3000 (ctV a z f d t g) := by
  unfold ctV
  split
  · exact h
  · split
    · exact h
    · split
      · exact h
      · unfold IB
        rw [mxI_i, mnI_i, toI0, show (3000 : Int32).toInt = 3000 from rfl]
        omega
theorem JA.tk6 {v : pLV} (h : JA v) : JA (tk6 v) :=
  ⟨h.1, h.2.1, h.2.2.1, h.2.2.2.1, ⟨h.2.2.2.2.1.1, h.2.2.2.2.1.2.1, h.2.2.2.2.1.2.2.1, ct_b _ _ _ _ _ _ h.2.2.2.2.1.2.2.2⟩, h.2.2.2.2.2⟩
theorem BL.tk6 {v : pLV} {z : Int32} (h : BL z v) : BL z (tk6 v) := h
-- the sheet
theorem sh_tak {v : pLV} (h : JA v) : 0 ≤ (shT v).toInt ∧ (shT v).toInt ≤ 2000 ∧ (shT v).toInt ≤ (v 0 19).toInt + (v 0 20).toInt := by
  have s := h.2.1.2.2.2.sum (by omega)
  obtain ⟨q1, q2, q3⟩ := h.2.1.2.2.2
  obtain ⟨f1, f2⟩ := h.2.2.2.1.2.2.1
  unfold shT
  rw [mnI_i, s]
  omega
theorem JA.shU {v : pLV} (h : JA v) : JA (shU v) := by
  obtain ⟨a1, a2, a3⟩ := sh_tak h
  exact ⟨h.1, ⟨h.2.1.1, h.2.1.2.1, h.2.1.2.2.1, take_CH h.2.1.2.2.2 (by omega) a1 a3⟩, h.2.2.1, h.2.2.2.1, h.2.2.2.2.1, h.2.2.2.2.2⟩
theorem BL.shU {v : pLV} (h : BL 0 v) : BL (shF v) (shU v) := by
  have h : 400 + v 0 22 + v 0 23 = sumP (v 2) 4 + v 0 24 + v 0 25 + (v 0 10 + v 0 13 + v 0 16 + v 0 19) + 0 := h
  show 400 + v 0 22 + v 0 23 = sumP (v 2) 4 + v 0 24 + v 0 25 + (v 0 10 + v 0 13 + v 0 16 + (v 0 19 - shF v)) + shF v
  generalize shF v = t1
  grind
theorem IB_4 {x : Int32} (h : IB 0 3 x) : x = 0 ∨ x = 1 ∨ x = 2 ∨ x = 3 := by
  obtain ⟨h1, h2⟩ := h
  rcases (show x.toInt = 0 ∨ x.toInt = 1 ∨ x.toInt = 2 ∨ x.toInt = 3 by omega) with q | q | q | q
  · exact Or.inl (ieq.mpr q)
  · exact Or.inr (Or.inl (ieq.mpr q))
  · exact Or.inr (Or.inr (Or.inl (ieq.mpr q)))
  · exact Or.inr (Or.inr (Or.inr (ieq.mpr q)))
theorem JA.pap {v : pLV} {x : Int32} (h : JA v) : JA (cpV v x) := by
  unfold cpV
  split
  · exact h
  · split
    · exact h
    · exact h
theorem sum_cp {v : pLV} (x : Int32) (hg : IB 0 3 (v 0 1)) : sumP (cpV v x 2) 4 = sumP (v 2) 4 + x := by
  unfold cpV
  rcases IB_4 hg with q | q | q | q
  · rw [q, if_neg (by decide), if_neg (by decide)]
    show 0 + (v 2 0 + x) + v 2 1 + v 2 2 + v 2 3 = 0 + v 2 0 + v 2 1 + v 2 2 + v 2 3 + x
    grind
  · rw [q, if_neg (by decide), if_neg (by decide)]
    show 0 + v 2 0 + (v 2 1 + x) + v 2 2 + v 2 3 = 0 + v 2 0 + v 2 1 + v 2 2 + v 2 3 + x
    grind
  · rw [q, if_neg (by decide), if_neg (by decide)]
    show 0 + v 2 0 + v 2 1 + (v 2 2 + x) + v 2 3 = 0 + v 2 0 + v 2 1 + v 2 2 + v 2 3 + x
    grind
  · rw [q, if_neg (by decide), if_neg (by decide)]
    show 0 + v 2 0 + v 2 1 + v 2 2 + (v 2 3 + x) = 0 + v 2 0 + v 2 1 + v 2 2 + v 2 3 + x
    grind
theorem cpV_0 (v : pLV) (x : Int32) : cpV v x 0 = v 0 := by
  unfold cpV
  split
  · rfl
  · split <;> rfl
theorem cpV_1 (v : pLV) (x : Int32) : cpV v x 1 = v 1 := by
  unfold cpV
  split
  · rfl
  · split <;> rfl
theorem cpV_3 (v : pLV) (x : Int32) : cpV v x 3 = v 3 := by
  unfold cpV
  split
  · rfl
  · split <;> rfl
theorem BL.pap {v : pLV} {x : Int32} (h : BL x v) (hg : IB 0 3 (v 0 1)) : BL 0 (cpV v x) := by
  have h : 400 + v 0 22 + v 0 23 = sumP (v 2) 4 + v 0 24 + v 0 25 + fibV v + x := h
  have e := sum_cp x hg
  have e0 := cpV_0 v x
  have ef : fibV (cpV v x) = fibV v := by unfold fibV; rw [e0]
  unfold BL
  rw [e0, e, ef]
  generalize fibV v = f at *
  generalize sumP (v 2) 4 = s at *
  grind
theorem JA.shBn {v : pLV} (h : JA v) : JA (NL (shB v)) := h.shU
theorem BL.shBn {v : pLV} (h : BL 0 v) : BL (shF v) (NL (shB v)) := h.shU
theorem sh_fib {v : pLV} (h : JA v) : 0 ≤ (shF v).toInt ∧ (shF v).toInt ≤ 2000 := by
  obtain ⟨a1, a2, a3⟩ := sh_tak h
  obtain ⟨t1, t2, -⟩ := take_ok h.2.1.2.2.2 (by omega) a1 a3
  have t1 : 0 ≤ (shF v).toInt := t1
  have t2 : (shF v).toInt ≤ (shT v).toInt := t2
  omega
theorem JA.sht {v : pLV} (h : JA v) : JA (shtV v) := by
  have hf := sh_fib h
  obtain ⟨s1, s2⟩ := h.2.2.2.1.2.2.2.2.1
  have hb : JA (pourV 1 (NL (shB v)) (shF v) (v 1 7)) := h.shBn.pour1 hf.1 s1 (by omega)
  unfold shtV
  split
  · split
    · exact h.shU.nl.pap
    · exact hb
  · exact hb
theorem BL.sht {v : pLV} (h : BL 0 v) (hg : IB 0 3 (v 0 1)) : BL 0 (shtV v) := by
  unfold shtV
  split
  · split
    · exact h.shU.nl.pap hg
    · exact h.shBn.pour1 _
  · exact h.shBn.pour1 _
-- the end of a tick
theorem dec_b {x : Int32} {hi : Int} (h : IB 0 hi x) (hh : hi ≤ 1000) : IB 0 hi (mxI 0 (x - 1)) ∧ (x = 0 → mxI 0 (x - 1) = 0) := by
  obtain ⟨h1, h2⟩ := h
  have e : (x - 1).toInt = x.toInt - 1 := i_sub (by rw [show (1 : Int32).toInt = 1 from rfl]; omega) (by rw [show (1 : Int32).toInt = 1 from rfl]; omega)
  refine ⟨?_, fun q => by rw [q]; decide⟩
  unfold IB
  rw [mxI_i, e, toI0]
  omega
theorem JA.tk8 {v : pLV} (h : JA v) : JA (tk8 v) :=
  ⟨h.1, h.2.1, h.2.2.1, h.2.2.2.1, ⟨h.2.2.2.2.1.1, (dec_b h.2.2.2.2.1.2.1 (by omega)).1, (dec_b h.2.2.2.2.1.2.2.1 (by omega)).1, h.2.2.2.2.1.2.2.2⟩, h.2.2.2.2.2⟩
theorem BL.tk8 {v : pLV} {z : Int32} (h : BL z v) : BL z (tk8 v) := h
theorem gt_b {r : Int} {g f w : Int32} (h : CH r f w) (hr : r ≤ 3000000) (hg : g.toInt ≤ r) : (mxI g (f + w)).toInt ≤ r := by
  rw [mxI_i, h.sum hr]
  have := h.2.2
  omega
theorem JA.sm {v : pLV} (h : JA v) : JA (smV v) :=
  ⟨h.1, h.2.1, ⟨gt_b h.2.1.1 (by omega) h.2.2.1.1, gt_b h.2.1.2.1 (by omega) h.2.2.1.2.1, gt_b h.2.1.2.2.1 (by omega) h.2.2.1.2.2.1, gt_b h.2.1.2.2.2 (by omega) h.2.2.1.2.2.2⟩, h.2.2.2.1, h.2.2.2.2.1, h.2.2.2.2.2⟩
theorem BL.sm {v : pLV} {z : Int32} (h : BL z v) : BL z (smV v) := h
theorem JA.tick {v : pLV} (h : JA v) : JA (tickV v) := h.tk1.tk2.nl.mix.nl.mch.tk5.tk6.nl.sht.tk8.nl.sm
theorem BL.tick {v : pLV} (h : JA v) (b : BL 0 v) : BL 0 (tickV v) :=
  (b.tk1.tk2.nl.mix.nl.mch.tk5.tk6.nl.sht (h.tk1.tk2.nl.mix.nl.mch.tk5.tk6.nl.2.2.2.2.1.1)).tk8.nl.sm
-- the rooms, whatever else
theorem IRm.pour {c : Nat} (hc : c < 4) {v : pLV} {a b : Int32} (h : IRm v) : IRm (pourV c v a b) := by
  rcases (show c = 0 ∨ c = 1 ∨ c = 2 ∨ c = 3 by omega) with rfl | rfl | rfl | rfl <;> exact h
theorem IRm.cp {v : pLV} {x : Int32} (h : IRm v) : IRm (cpV v x) := by
  unfold IRm
  rw [cpV_0]
  exact h
theorem IRm.sht {v : pLV} (h : IRm v) : IRm (shtV v) := by
  have hb : IRm (pourV 1 (NL (shB v)) (shF v) (v 1 7)) := IRm.pour (by omega) h
  unfold shtV
  split
  · split
    · exact IRm.cp (show IRm (NL (shU v)) from h)
    · exact hb
  · exact hb
theorem IRm.nl {v : pLV} (h : IRm v) : IRm (NL v) := h
theorem IRm.tk1 {v : pLV} (h : IRm v) : IRm (tk1 v) := (tk1_F v).2.2.2.2.2.2.2.2.2.2.2.2 h
theorem IRm.tk2 {v : pLV} (h : IRm v) : IRm (tk2 v) := IRm.pour (c := 0) (v := NL (vS v 22 (v 0 22 + v 1 0))) (by omega) h
theorem IRm.mxTn {v : pLV} (w : Int32) (h : IRm v) : IRm (mxT v w) := h
theorem IRm.mxUn {v : pLV} (w : Int32) (h : IRm v) : IRm (mxU v w) := IRm.pour (c := 2) (v := NL (mxT v w)) (by omega) (h.mxTn w).nl
theorem IRm.mixUn {v : pLV} (w : Int32) (h : IRm v) : IRm (mixU v w) := by
  have h2 := (h.mxUn w).nl
  unfold mixU
  generalize NL (mxU v w) = y at h2 ⊢
  exact h2
theorem IRm.mix {v : pLV} (h : IRm v) : IRm (mixV v) := h.mixUn _
theorem IRm.mcUn {v : pLV} (h : IRm v) : IRm (mcU v) := h
theorem IRm.mch {v : pLV} (h : IRm v) : IRm (mchV v) := IRm.pour (c := 3) (v := NL (mcU v)) (by omega) h.mcUn.nl
theorem IRm.tk5 {v : pLV} (h : IRm v) : IRm (tk5 v) := h
theorem IRm.tk6 {v : pLV} (h : IRm v) : IRm (tk6 v) := h
theorem IRm.tk8 {v : pLV} (h : IRm v) : IRm (tk8 v) := h
theorem IRm.sm {v : pLV} (h : IRm v) : IRm (smV v) := h
theorem IRm.tick {v : pLV} (h : IRm v) : IRm (tickV v) := h.tk1.tk2.nl.mix.nl.mch.tk5.tk6.nl.sht.tk8.nl.sm
theorem IRm.ticks {v : pLV} (h : IRm v) : ∀ k, IRm (tickI k v)
  | 0 => h
  | k + 1 => IRm.tick (show IRm (NL (tickI k v)) from IRm.ticks h k)
end
