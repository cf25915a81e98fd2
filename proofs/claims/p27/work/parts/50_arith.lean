noncomputable section
/-! THE TWO SIDES ARE ALIKE: numbers -/
theorem i_add {a b : Int32} (h1 : -2147483648 ≤ a.toInt + b.toInt) (h2 : a.toInt + b.toInt < 2147483648) : (a + b).toInt = a.toInt + b.toInt := by
  rw [Int32.toInt_add]
  exact Int.bmod_eq_of_le (by simpa using h1) (by simpa using h2)
theorem i_sub {a b : Int32} (h1 : -2147483648 ≤ a.toInt - b.toInt) (h2 : a.toInt - b.toInt < 2147483648) : (a - b).toInt = a.toInt - b.toInt := by
  rw [Int32.toInt_sub]
  exact Int.bmod_eq_of_le (by simpa using h1) (by simpa using h2)
theorem i_mul {a b : Int32} (h1 : -2147483648 ≤ a.toInt * b.toInt) (h2 : a.toInt * b.toInt < 2147483648) : (a * b).toInt = a.toInt * b.toInt := by
  rw [Int32.toInt_mul]
  exact Int.bmod_eq_of_le (by simpa using h1) (by simpa using h2)
theorem i_div {a b : Int32} (ha : 0 ≤ a.toInt) (hb : 0 < b.toInt) : (a / b).toInt = a.toInt / b.toInt := by
  rw [Int32.toInt_div, Int.tdiv_eq_ediv_of_nonneg ha]
  have h1 : 0 ≤ a.toInt / b.toInt := Int.ediv_nonneg ha (by omega)
  have h2 : a.toInt / b.toInt ≤ a.toInt := Int.ediv_le_self _ ha
  have h3 := Int32.toInt_lt a
  exact Int.bmod_eq_of_le (by omega) (by simpa using (by omega : a.toInt / b.toInt < 2147483648))
theorem ilt {a b : Int32} : a < b ↔ a.toInt < b.toInt := Int32.lt_iff_toInt_lt
theorem ile {a b : Int32} : a ≤ b ↔ a.toInt ≤ b.toInt := Int32.le_iff_toInt_le
theorem ieq {a b : Int32} : a = b ↔ a.toInt = b.toInt := Int32.toInt_inj.symm
/-- mass * fibre / sum, in longs -/
def mfs (m f s : Int32) : Int32 := (m.toInt64 * f.toInt64 / s.toInt64).toInt32
theorem mfs_i {m f s : Int32} (hm : 0 ≤ m.toInt) (hms : m.toInt ≤ s.toInt) (hf : 0 ≤ f.toInt) (hfs : f.toInt ≤ s.toInt) (hs : 0 < s.toInt) : (mfs m f s).toInt = m.toInt * f.toInt / s.toInt := by
  have b1 := Int32.toInt_lt m
  have b2 := Int32.toInt_lt f
  have b3 := Int32.toInt_lt s
  have hp : 0 ≤ m.toInt * f.toInt := Int.mul_nonneg hm hf
  have hp2 : m.toInt * f.toInt ≤ s.toInt * f.toInt := Int.mul_le_mul_of_nonneg_right hms hf
  have hp3 : s.toInt * f.toInt ≤ s.toInt * s.toInt := Int.mul_le_mul_of_nonneg_left hfs (by omega)
  have hp4 : s.toInt * s.toInt ≤ 2147483648 * s.toInt := Int.mul_le_mul_of_nonneg_right (by omega) (by omega)
  have hd1 : m.toInt * f.toInt / s.toInt ≤ f.toInt := by
    refine Int.ediv_le_of_le_mul hs ?_
    rw [Int.mul_comm f.toInt]
    exact hp2
  have hd0 : 0 ≤ m.toInt * f.toInt / s.toInt := Int.ediv_nonneg hp (by omega)
  unfold mfs
  have e1 : (m.toInt64 * f.toInt64).toInt = m.toInt * f.toInt := by
    rw [Int64.toInt_mul, Int32.toInt_toInt64, Int32.toInt_toInt64]
    exact Int.bmod_eq_of_le (by omega) (by omega)
  have e2 : (m.toInt64 * f.toInt64 / s.toInt64).toInt = m.toInt * f.toInt / s.toInt := by
    rw [Int64.toInt_div, e1, Int32.toInt_toInt64, Int.tdiv_eq_ediv_of_nonneg hp]
    exact Int.bmod_eq_of_le (by omega) (by omega)
  rw [Int64.toInt_toInt32, e2]
  exact Int.bmod_eq_of_le (by omega) (by omega)
/-- what is taken is there -/
theorem mfs_b {m f g s : Int32} (hm : 0 ≤ m.toInt) (hms : m.toInt ≤ s.toInt) (hf : 0 ≤ f.toInt) (hg : 0 ≤ g.toInt) (hfg : s.toInt = f.toInt + g.toInt) (hs : 0 < s.toInt) : 0 ≤ (mfs m f s).toInt ∧ (mfs m f s).toInt ≤ f.toInt ∧ (mfs m f s).toInt ≤ m.toInt ∧ m.toInt - (mfs m f s).toInt ≤ g.toInt := by
  rw [mfs_i hm hms hf (by omega) hs]
  have hp : 0 ≤ m.toInt * f.toInt := Int.mul_nonneg hm hf
  have hp2 : m.toInt * f.toInt ≤ s.toInt * f.toInt := Int.mul_le_mul_of_nonneg_right hms hf
  have hp3 : m.toInt * f.toInt ≤ m.toInt * s.toInt := Int.mul_le_mul_of_nonneg_left (by omega) hm
  have h1 : m.toInt * f.toInt / s.toInt ≤ f.toInt := by
    refine Int.ediv_le_of_le_mul hs ?_
    rw [Int.mul_comm f.toInt]
    exact hp2
  have h2 : m.toInt * f.toInt / s.toInt ≤ m.toInt := Int.ediv_le_of_le_mul hs hp3
  have h3 : m.toInt - g.toInt ≤ m.toInt * f.toInt / s.toInt := by
    refine Int.le_ediv_of_mul_le hs ?_
    have e : (m.toInt - g.toInt) * s.toInt = m.toInt * f.toInt - g.toInt * (s.toInt - m.toInt) := by
      rw [hfg]
      simp only [Int.sub_mul, Int.mul_sub, Int.mul_add, Int.add_mul]
      rw [Int.mul_comm g.toInt m.toInt]
      omega
    have h4 : 0 ≤ g.toInt * (s.toInt - m.toInt) := Int.mul_nonneg hg (by omega)
    omega
  exact ⟨Int.ediv_nonneg hp (by omega), h1, h2, by omega⟩
/-- a chest's fibre and water, in its room -/
def CH (r : Int) (f g : Int32) : Prop := 0 ≤ f.toInt ∧ 0 ≤ g.toInt ∧ f.toInt + g.toInt ≤ r
theorem CH.sum {r : Int} {f g : Int32} (h : CH r f g) (hr : r ≤ 3000000) : (f + g).toInt = f.toInt + g.toInt := by
  obtain ⟨h1, h2, h3⟩ := h
  exact i_add (by omega) (by omega)
theorem mnI_i (x y : Int32) : (mnI x y).toInt = min x.toInt y.toInt := by
  unfold mnI
  split
  · rename_i h
    have := ilt.mp h
    omega
  · rename_i h
    have := ile.mp (Int32.not_lt.mp h)
    omega
theorem mxI_i (x y : Int32) : (mxI x y).toInt = max x.toInt y.toInt := by
  unfold mxI
  split
  · rename_i h
    have := ilt.mp h
    omega
  · rename_i h
    have := ile.mp (Int32.not_lt.mp h)
    omega
theorem tkR_eq (f g m : Int32) : tkR f g m = if 0 < f + g then mfs m f (f + g) else 0 := rfl
/-- taking leaves a chest well -/
theorem take_ok {r : Int} {f g m : Int32} (h : CH r f g) (hr : r ≤ 3000000) (hm : 0 ≤ m.toInt) (hms : m.toInt ≤ f.toInt + g.toInt) :
    0 ≤ (tkR f g m).toInt ∧ (tkR f g m).toInt ≤ m.toInt ∧ (tkR f g m).toInt ≤ f.toInt ∧ (f - tkR f g m).toInt = f.toInt - (tkR f g m).toInt ∧ (tkG f g m).toInt = g.toInt - (m.toInt - (tkR f g m).toInt) ∧ m.toInt - (tkR f g m).toInt ≤ g.toInt ∧ (m - tkR f g m).toInt = m.toInt - (tkR f g m).toInt := by
  have hs := h.sum hr
  obtain ⟨h1, h2, h3⟩ := h
  have b1 := Int32.toInt_lt m
  by_cases h0 : (0 : Int32) < f + g
  · have h0' := ilt.mp h0
    rw [Int32.toInt_zero] at h0'
    have hb := mfs_b (m := m) (f := f) (g := g) (s := f + g) hm (by omega) h1 h2 hs h0'
    have e : tkR f g m = mfs m f (f + g) := by rw [tkR_eq, if_pos h0]
    have e2 : tkG f g m = g - (m - tkR f g m) := by unfold tkG; rw [if_pos h0]
    rw [e2, e]
    have e3 : (m - mfs m f (f + g)).toInt = m.toInt - (mfs m f (f + g)).toInt := i_sub (by omega) (by omega)
    have e4 : (g - (m - mfs m f (f + g))).toInt = g.toInt - (m - mfs m f (f + g)).toInt := i_sub (by omega) (by omega)
    refine ⟨hb.1, hb.2.2.1, hb.2.1, i_sub (by omega) (by omega), by rw [e4, e3], hb.2.2.2, e3⟩
  · have e : tkR f g m = 0 := by rw [tkR_eq, if_neg h0]
    have e2 : tkG f g m = g := by unfold tkG; rw [if_neg h0]
    have h0' : ¬ (0 : Int32).toInt < (f + g).toInt := fun q => h0 (ilt.mpr q)
    rw [Int32.toInt_zero] at h0'
    rw [e2, e, Int32.toInt_zero, Int32.sub_zero, Int32.sub_zero]
    omega
theorem take_CH {r : Int} {f g m : Int32} (h : CH r f g) (hr : r ≤ 3000000) (hm : 0 ≤ m.toInt) (hms : m.toInt ≤ f.toInt + g.toInt) : CH r (f - tkR f g m) (tkG f g m) := by
  obtain ⟨a1, a2, a3, a4, a5, a6, -⟩ := take_ok h hr hm hms
  obtain ⟨h1, h2, h3⟩ := h
  refine ⟨?_, ?_, ?_⟩ <;> omega
/-- filling leaves a chest well -/
theorem pour_ok {r : Int} {R f g a b : Int32} (h : CH r f g) (hr : r ≤ 1000000) (hR : R.toInt = r) (ha : 0 ≤ a.toInt) (hb : 0 ≤ b.toInt) (hab : a.toInt + b.toInt ≤ 1000000) (h0 : 0 ≤ r) :
    CH r (puF R f g a b) (puG R f g a b) ∧ (f + a).toInt = f.toInt + a.toInt ∧ (g + b).toInt = g.toInt + b.toInt ∧ (f + a + (g + b)).toInt = f.toInt + a.toInt + (g.toInt + b.toInt) ∧ (f + a + (g + b) - R).toInt = f.toInt + a.toInt + (g.toInt + b.toInt) - r ∧ 0 ≤ (puR R f g a b).toInt ∧ (puR R f g a b).toInt ≤ f.toInt + a.toInt := by
  obtain ⟨h1, h2, h3⟩ := h
  have e1 : (f + a).toInt = f.toInt + a.toInt := i_add (by omega) (by omega)
  have e2 : (g + b).toInt = g.toInt + b.toInt := i_add (by omega) (by omega)
  have e3 : (f + a + (g + b)).toInt = f.toInt + a.toInt + (g.toInt + b.toInt) := by rw [i_add (by omega) (by omega), e1, e2]
  have e4 : (f + a + (g + b) - R).toInt = f.toInt + a.toInt + (g.toInt + b.toInt) - r := by rw [i_sub (by omega) (by omega), e3, hR]
  by_cases hs : f + a + (g + b) - R ≤ 0
  · have hs' := ile.mp hs
    rw [Int32.toInt_zero] at hs'
    have p1 : puR R f g a b = 0 := if_pos hs
    have p2 : puF R f g a b = f + a := by unfold puF; rw [p1, Int32.sub_zero]
    have p3 : puG R f g a b = g + b := if_pos hs
    rw [p1, p2, p3, Int32.toInt_zero]
    unfold CH
    omega
  · have hs' := ilt.mp (Int32.not_le.mp hs)
    rw [Int32.toInt_zero] at hs'
    have p1 : puR R f g a b = tkR (f + a) (g + b) (f + a + (g + b) - R) := if_neg hs
    have p2 : puF R f g a b = f + a - tkR (f + a) (g + b) (f + a + (g + b) - R) := by unfold puF; rw [p1]
    have p3 : puG R f g a b = tkG (f + a) (g + b) (f + a + (g + b) - R) := if_neg hs
    have hc : CH 2000000 (f + a) (g + b) := ⟨by omega, by omega, by omega⟩
    obtain ⟨t1, t2, t3, t4, t5, t6, -⟩ := take_ok hc (by omega) (m := f + a + (g + b) - R) (by omega) (by omega)
    rw [p1, p2, p3]
    unfold CH
    omega
end
