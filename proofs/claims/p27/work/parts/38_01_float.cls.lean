noncomputable section
/-! FLOATS -/
theorem fdiv_ok (a b : Int32) (hb : b ≠ 0) : vf_n32 (FP.fdiv (FP.i2f a) (FP.i2f b)) := by
  have h : FP.Core.fIsNaN (FP.Core.fdiv (FP.Core.i2f a) (FP.Core.i2f b)) = false := FP.Core.fdiv_out (FP.Core.FFin.notNaN (FP.Core.i2f_fin a)) (FP.Core.i2f_fin b) (fun z => FP.Core.i2f_ne_zero hb ((FP.Core.zero_bits232 _).mp z))
  have h2 : ¬ 2139095040 < (FP.Core.fdiv (FP.Core.i2f a) (FP.Core.i2f b)).toNat % 2 ^ 31 := fun z => by
    rw [(FP.Core.isNaN_bits32 _).mpr z] at h
    cases h
  unfold vf_n32
  rw [UInt32.le_iff_toNat_le, UInt32.toNat_and]
  have h1 : (0x7fffffff : UInt32).toNat = 2 ^ 31 - 1 := by decide
  have h3 : (0x7f800000 : UInt32).toNat = 2139095040 := by decide
  rw [h1, h3, Nat.and_two_pow_sub_one_eq_mod]
  exact Nat.le_of_not_lt h2
theorem f2d_ok {r : UInt32} (h : vf_n32 r) : vf_n64 (FP.f2d r) := by
  have h2 : FP.Core.fIsNaN r = false := by
    cases e : FP.Core.fIsNaN r with
    | false => rfl
    | true =>
      exfalso
      have := (FP.Core.isNaN_bits32 _).mp e
      unfold vf_n32 at h
      rw [UInt32.le_iff_toNat_le, UInt32.toNat_and] at h
      have h1 : (0x7fffffff : UInt32).toNat = 2 ^ 31 - 1 := by decide
      have h3 : (0x7f800000 : UInt32).toNat = 2139095040 := by decide
      rw [h1, h3, Nat.and_two_pow_sub_one_eq_mod] at h
      omega
  have h4 : FP.f2d r = FP.Core.f2d r := by
    unfold FP.f2d
    rw [h2]
    rfl
  rw [h4]
  have h5 := FP.Core.f2d_out h2
  have h6 : ¬ 9218868437227405312 < (FP.Core.f2d r).toNat % 2 ^ 63 := fun z => by
    rw [(FP.Core.isNaN_bits _).mpr z] at h5
    cases h5
  unfold vf_n64
  rw [UInt64.le_iff_toNat_le, UInt64.toNat_and]
  have h1 : (0x7fffffffffffffff : UInt64).toNat = 2 ^ 63 - 1 := by decide
  have h3 : (0x7ff0000000000000 : UInt64).toNat = 9218868437227405312 := by decide
  rw [h1, h3, Nat.and_two_pow_sub_one_eq_mod]
  exact Nat.le_of_not_lt h6
def oI2f : pEn := fun ls st w rg k _ => match st with
  | .int x :: st' => k ls (.float (FP.i2f x) :: st') w rg
  | _ => none
def oFdiv : pEn := fun ls st w rg k _ => match st with
  | .float y :: .float x :: st' => pif (vf_n32 (FP.fdiv x y)) (k ls (.float (FP.fdiv x y) :: st') w rg) none
  | _ => none
def oFconst0 : pEn := fun ls st w rg k _ => k ls (.float FP.fconst0 :: st) w rg
def oFret : pEn := fun _ st w rg _ _ => match st with
  | [.float v] => some (some (.float v), w, rg)
  | _ => none
section ST
variable {l : Launch} {R : Room} {cc : ByteArray} {own : String} {nL cap : Nat} {ret : Option FieldType} {pcOf : Nat → Nat} {i : Nat}
theorem okI2f (hd : decode cc (pcOf i) = .ok (.i2f, 1)) (hp : pcOf (i + 1) = pcOf i + 1) : EOK l cc own nL ret R cap pcOf i oI2f := by
  intro p e s m args below meth c D κ α A sz L0 Lm r Qc out C hR ls st w rg k j h hk hj H locs lsA hP hz h0 h1 hr hS hl
  obtain ⟨hx, hb, hml, hown, hts, hret, hlk, hKE, hA, hin, hAk, hfr, hLm⟩ := id C
  unfold oI2f at h
  split at h
  next x st' =>
    have g := hk _ _ _ _ h H locs lsA hP hz h0 h1 hr hS hl
    rw [hp] at g
    exact lv_i2f hx hb hd g
  next => cases h
theorem okFdiv (hd : decode cc (pcOf i) = .ok (.fdiv, 1)) (hp : pcOf (i + 1) = pcOf i + 1) : EOK l cc own nL ret R cap pcOf i oFdiv := by
  intro p e s m args below meth c D κ α A sz L0 Lm r Qc out C hR ls st w rg k j h hk hj H locs lsA hP hz h0 h1 hr hS hl
  obtain ⟨hx, hb, hml, hown, hts, hret, hlk, hKE, hA, hin, hAk, hfr, hLm⟩ := id C
  unfold oFdiv at h
  split at h
  next y x st' =>
    by_cases hv : vf_n32 (FP.fdiv x y)
    · have h := (pif_t hv).symm.trans h
      have g := hk _ _ _ _ h H locs lsA hP hz h0 h1 hr hS hl
      rw [hp] at g
      exact lv_fdiv hx hb hd hv g
    · have h := (pif_f hv).symm.trans h; cases h
  next => cases h
theorem okFconst0 (hd : decode cc (pcOf i) = .ok (.fconst 0, 1)) (hp : pcOf (i + 1) = pcOf i + 1) : EOK l cc own nL ret R cap pcOf i oFconst0 := by
  intro p e s m args below meth c D κ α A sz L0 Lm r Qc out C hR ls st w rg k j h hk hj H locs lsA hP hz h0 h1 hr hS hl
  obtain ⟨hx, hb, hml, hown, hts, hret, hlk, hKE, hA, hin, hAk, hfr, hLm⟩ := id C
  unfold oFconst0 at h
  have g := hk _ _ _ _ h H locs lsA hP hz h0 h1 hr hS hl
  rw [hp] at g
  exact lv_fconst0 hx hb hd g
theorem okFret (hd : decode cc (pcOf i) = .ok (.freturn, 1)) (hrt : ret = some .float) : EOK l cc own nL ret R cap pcOf i oFret := by
  intro p e s m args below meth c D κ α A sz L0 Lm r Qc out C hR ls st w rg k j h hk hj H locs lsA hP hz h0 h1 hr hS hl
  obtain ⟨hx, hb, hml, hown, hts, hret, hlk, hKE, hA, hin, hAk, hfr, hLm⟩ := id C
  unfold oFret at h
  split at h
  next v =>
    cases h
    exact W.fret (v := v) hx hb (hret.trans hrt) (fun t ht hW => hR H locs t hP hz hS ht hW) hS.2.2 hd hlk
  next => cases h
end ST
end
