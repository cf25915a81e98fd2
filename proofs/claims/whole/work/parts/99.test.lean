def kX1_takeOut : List pEn := [oAload 0, oGet 1 1, oAload 0, oGet 1 2, oAdd, oIstore 2, oIload 2, oIfgt 10, oConst 0, oIret,
  oIload 1, oI2l, oAload 0, oGet 1 1, oI2l, oLmul, oIload 2, oI2l, oLdiv, oL2i, oIstore 3, oAload 0, oDup, oGet 1 1, oIload 3, oSub, oPut 1 1, oAload 0, oDup, oGet 1 2, oIload 1, oIload 3, oSub, oSub, oPut 1 2, oIload 3, oIret]
def fTake (f g m : Int32) : Int32 := if 0 < f + g then (m.toInt64 * f.toInt64 / (f + g).toInt64).toInt32 else 0
def gTake (f g m : Int32) : Int32 := if 0 < f + g then g - (m - fTake f g m) else g
theorem tst1 (rg : pRg) (r f g z m : Int32) (hz : 0 < f + g → ¬ (f+g).toInt64 = 0) : ex kX1_takeOut 5 0 [(0, .ref 0), (1, .int m)] [] [.inr (1, [.int r, .int f, .int g, .int z])] rg = some (some (.int (fTake f g m)), [.inr (1, [.int r, .int (f - fTake f g m), .int (gTake f g m), .int z])], rg) := by
  conv => lhs; whnf
  refine pif_c (fun h => ?_) (fun h => ?_)
  · conv => lhs; whnf
    rw [pif_f (hz h)]
    simp only [fTake, gTake, if_pos h]
    rfl
  · simp only [fTake, gTake, if_neg h, Int32.sub_zero]
    rfl
