noncomputable section
/-! NEW STEPS: the remainder, two floats compared -/
def oRem : pEn := fun ls st w rg k _ => match st with
  | .int y :: .int x :: st' => pif (y = 0) (none) (k ls (.int (x - x / y * y) :: st') w rg)
  | _ => none
/-- how two floats compare -/
def fcL (x y : UInt32) : Int32 := Op.cmpValue (FP.fcmp x y) .l
theorem fcL_self {r : UInt32} (h : vf_n32 r) : fcL r r = 0 := by
  have h2 : FP.Core.fIsNaN r = false := by
    cases e : FP.Core.fIsNaN r with
    | false => rfl
    | true =>
      exfalso
      have := (FP.Core.isNaN_bits32 _).mp e
      unfold vf_n32 at h
      rw [UInt32.le_iff_toNat_le, UInt32.toNat_and] at h
      have h1 : (0x7fffffff : UInt32).toNat = 2 ^ 31 - 1 := by decide
      have h3 : (0x7f800000 : UInt32).toNat = 2139095040 := by decide
      rw [h1, h3, Nat.and_two_pow_sub_one_eq_mod] at h
      omega
  have h5 : FP.fcmp r r = some .eq := FP.Core.fcmp_self ((FP.Core.notNaN_iff32 r).mp h2)
  unfold fcL
  rw [h5]
  rfl
def oFcmpL : pEn := fun ls st w rg k _ => match st with
  | .float y :: .float x :: st' => k ls (.int (fcL x y) :: st') w rg
  | _ => none
section ST
variable {l : Launch} {R : Room} {cc : ByteArray} {own : String} {nL cap : Nat} {ret : Option FieldType} {pcOf : Nat → Nat} {i : Nat}
theorem okRem (hd : decode cc (pcOf i) = .ok (.irem, 1)) (hp : pcOf (i + 1) = pcOf i + 1) : EOK l cc own nL ret R cap pcOf i oRem := by
  intro p e s m args below meth c D κ α A sz L0 Lm r Qc out C hR ls st w rg k j h hk hj H locs lsA hP hz h0 h1 hr hS hl
  obtain ⟨hx, hb, hml, hown, hts, hret, hlk, hKE, hA, hin, hAk, hfr, hLm⟩ := id C
  unfold oRem at h
  split at h
  next y x st' =>
    by_cases hy : y = 0
    · have h := (pif_t hy).symm.trans h; cases h
    · have h := (pif_f hy).symm.trans h
      have g := hk _ _ _ _ h H locs lsA hP hz h0 h1 hr hS hl; rw [hp] at g; exact lv_irem hx hb hd hy g
  next => cases h
theorem okFcmpL (hd : decode cc (pcOf i) = .ok (.fcmp .l, 1)) (hp : pcOf (i + 1) = pcOf i + 1) : EOK l cc own nL ret R cap pcOf i oFcmpL := by
  intro p e s m args below meth c D κ α A sz L0 Lm r Qc out C hR ls st w rg k j h hk hj H locs lsA hP hz h0 h1 hr hS hl
  obtain ⟨hx, hb, hml, hown, hts, hret, hlk, hKE, hA, hin, hAk, hfr, hLm⟩ := id C
  unfold oFcmpL at h
  split at h
  next y x st' =>
    have g := hk _ _ _ _ h H locs lsA hP hz h0 h1 hr hS hl
    rw [hp] at g
    exact lv_fcmp hx hb hd g
  next => cases h
end ST
end
