noncomputable section
/-! THE TWO SIDES ARE ALIKE: mixing, thinning, control -/
theorem div1000 {x : Int32} (h : 0 ≤ x.toInt) : (x / 1000).toInt = x.toInt / 1000 := by
  have := i_div (a := x) (b := 1000) h (by decide)
  rw [this]
  rfl
theorem sub_sub32 (a b c : Int32) : a - b - c = a - (b + c) := by
  rw [Int32.sub_eq_add_neg, Int32.sub_eq_add_neg, Int32.sub_eq_add_neg, Int32.neg_add, Int32.add_assoc, ← Int32.sub_eq_add_neg (-b) c]
end
