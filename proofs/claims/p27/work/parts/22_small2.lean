noncomputable section
/-! SMALL THINGS -/
def inI (v a b : Int32) : Int32 := if v < a then 0 else if b < v then 0 else 1
def chI (c : Int32) : Option Nat := match decide (c = 0) with
  | true => some 0
  | false => match decide (c = 1) with
    | true => some 1
    | false => match decide (c = 2) with
      | true => some 2
      | false => match decide (c = 3) with
        | true => some 3
        | false => none
theorem chI_in {c : Int32} {n : Nat} (h : chI c = some n) : (c = 0 ∧ n = 0) ∨ (c = 1 ∧ n = 1) ∨ (c = 2 ∧ n = 2) ∨ (c = 3 ∧ n = 3) := by
  unfold chI at h
  split at h
  next e => cases h; exact Or.inl ⟨of_decide_eq_true e, rfl⟩
  next =>
    split at h
    next e => cases h; exact Or.inr (Or.inl ⟨of_decide_eq_true e, rfl⟩)
    next =>
      split at h
      next e => cases h; exact Or.inr (Or.inr (Or.inl ⟨of_decide_eq_true e, rfl⟩))
      next =>
        split at h
        next e => cases h; exact Or.inr (Or.inr (Or.inr ⟨of_decide_eq_true e, rfl⟩))
        next => cases h
theorem nI_plus (a b : Nat) : nI a + nI b = nI (a + b) := (Int32.ofNat_add a b).symm
theorem clamp_b {x : Int32} (y : Int32) {n : Nat} (hy : y.toInt = n) (h : x ≤ y) : x.toNatClampNeg ≤ n := by
  have e1 := Int32.le_iff_toInt_le.mp h
  have e3 : x.toNatClampNeg = x.toInt.toNat := rfl
  omega
theorem nI_ofN {x : Int32} (h : 0 ≤ x) : x = nI x.toNatClampNeg := by
  have e1 := Int32.le_iff_toInt_le.mp h
  rw [Int32.toInt_zero] at e1
  have e3 : x.toNatClampNeg = x.toInt.toNat := rfl
  have e2 : x.toInt < 2 ^ 31 := Int32.toInt_lt x
  refine Int32.toInt_inj.mp ?_
  rw [nI_toInt (by omega)]
  omega
theorem inI_03 {c : Int32} (h : ¬ inI c 0 3 = 0) : c = 0 ∨ c = 1 ∨ c = 2 ∨ c = 3 := by
  have h1 : ¬ c < 0 := fun q => h (if_pos q)
  have h2 : ¬ 3 < c := fun q => h ((if_neg h1).trans (if_pos q))
  have e1 := Int32.le_iff_toInt_le.mp (Int32.not_lt.mp h1)
  have e2 := Int32.le_iff_toInt_le.mp (Int32.not_lt.mp h2)
  have e3 : (3 : Int32).toInt = 3 := by decide
  have e4 : (0 : Int32).toInt = 0 := by decide
  have : c.toInt = 0 ∨ c.toInt = 1 ∨ c.toInt = 2 ∨ c.toInt = 3 := by omega
  rcases this with q | q | q | q
  · exact Or.inl (Int32.toInt_inj.mp (q.trans (by decide)))
  · exact Or.inr (Or.inl (Int32.toInt_inj.mp (q.trans (by decide))))
  · exact Or.inr (Or.inr (Or.inl (Int32.toInt_inj.mp (q.trans (by decide)))))
  · exact Or.inr (Or.inr (Or.inr (Int32.toInt_inj.mp (q.trans (by decide)))))
end
