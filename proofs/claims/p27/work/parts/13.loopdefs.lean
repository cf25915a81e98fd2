noncomputable section
/-! THE LOOP'S CELLS AS ONE VALUE: v 0 its numbers, v 1 the settings, v 2 the paper, v 3 the measurements, v 4, v 5, v 6 the schedule -/
def vS (v : pLV) (k : Nat) (x : Int32) : pLV := fun a j => match a with
  | 0 => match Nat.beq j k with
    | true => x
    | false => v 0 j
  | a + 1 => v (a + 1) j
def vA (v : pLV) (a : Nat) (f : Nat → Int32) : pLV := fun b => match Nat.beq b a with
  | true => f
  | false => v b
def sget : List Int32 → Nat → Int32
  | [], _ => 0
  | x :: _, 0 => x
  | _ :: l, k + 1 => sget l k
def mkL (s : List Int32) (f1 f2 f3 f4 f5 f6 : Nat → Int32) : pLV := fun a => match a with
  | 0 => sget s
  | 1 => f1
  | 2 => f2
  | 3 => f3
  | 4 => f4
  | 5 => f5
  | _ => f6
def NL (v : pLV) : pLV := mkL [v 0 0, v 0 1, v 0 2, v 0 3, v 0 4, v 0 5, v 0 6, 0, 0, 0, v 0 10, v 0 11, v 0 12, v 0 13, v 0 14, v 0 15, v 0 16, v 0 17, v 0 18, v 0 19, v 0 20, v 0 21, v 0 22, v 0 23, v 0 24, v 0 25, v 0 26, v 0 27, v 0 28, v 0 29, v 0 30, v 0 31, v 0 32, v 0 33] (v 1) (v 2) (v 3) (v 4) (v 5) (v 6)
theorem NL_NL (v : pLV) : NL (NL v) = NL v := rfl
theorem NL_cells (b : Nat) (v : pLV) : loopCells b (NL v) = loopCells b v := rfl
def chk : List Nat → List Nat → Bool
  | [], [] => true
  | a :: l, b :: m => match Nat.beq a b with
    | true => chk l m
    | false => false
  | _, _ => false
theorem chk_eq : ∀ {l m : List Nat}, chk l m = true → l = m
  | [], [], _ => rfl
  | [], _ :: _, h => by cases h
  | _ :: _, [], h => by cases h
  | a :: l, b :: m, h => by
    unfold chk at h
    split at h
    next hb => rw [Nat.eq_of_beq_eq_true hb, chk_eq h]
    next => cases h
def unL {X : Type} (b : Nat) (w : pWd) (c : pLV → Option X) : Option X := match w with
  | [c0, c1, c2, c3, c4, c5, c6, c7, c8, c9, c10, c11, c12, c13] => (match c0 with | .inr (i0, [.int s0, .int s1, .int s2, .int s3, .int s4, .int s5, .int s6, .ref q0, .ref q1, .ref q2, .ref q3, .ref q4, .ref q5, .ref q6, .ref q7]) => (match c1 with | .inr (i1, [.int s30, .int s10, .int s11, .int s12]) => (match c2 with | .inr (i2, [.int s31, .int s13, .int s14, .int s15]) => (match c3 with | .inr (i3, [.int s32, .int s16, .int s17, .int s18]) => (match c4 with | .inr (i4, [.int s33, .int s19, .int s20, .int s21]) => (match c5 with | .inr (i5, [.int s22, .int s23, .int s24, .int s25, .int s26, .ref q8]) => (match c6 with | .inl (i6, n6, .inl f2) => (match c7 with | .inr (i7, [.int s27, .ref q9, .int s28]) => (match c8 with | .inl (i8, n8, .inl f3) => (match c9 with | .inr (i9, [.ref q10, .ref q11, .ref q12, .int s29]) => (match c10 with | .inl (i10, n10, .inl f4) => (match c11 with | .inl (i11, n11, .inl f5) => (match c12 with | .inl (i12, n12, .inl f6) => (match c13 with | .inl (i13, n13, .inl f1) => (match chk [i0, q0, q1, q2, q3, q4, q5, q6, q7, i1, i2, i3, i4, i5, q8, i6, n6, i7, q9, i8, n8, i9, q10, q11, q12, i10, n10, i11, n11, i12, n12, i13, n13] [5, b + 1, b + 2, b + 3, b + 4, b + 5, b + 7, b + 9, b + 13, 1, 1, 1, 1, 0, b + 6, 0, 4, 2, b + 8, 0, 9, 7, b + 10, b + 11, b + 12, 0, 20, 0, 20, 0, 20, 0, 9] with | true => c (mkL [s0, s1, s2, s3, s4, s5, s6, 0, 0, 0, s10, s11, s12, s13, s14, s15, s16, s17, s18, s19, s20, s21, s22, s23, s24, s25, s26, s27, s28, s29, s30, s31, s32, s33] f1 f2 f3 f4 f5 f6) | false => none) | _ => none) | _ => none) | _ => none) | _ => none) | _ => none) | _ => none) | _ => none) | _ => none) | _ => none) | _ => none) | _ => none) | _ => none) | _ => none) | _ => none)
  | _ => none
set_option maxHeartbeats 4000000 in
theorem unL_some {X : Type} {b : Nat} {w : pWd} {c : pLV → Option X} {o : X} (h : unL b w c = some o) : ∃ v, w = loopCells b v ∧ c v = some o := by
  unfold unL at h
  split at h
  next c0 c1 c2 c3 c4 c5 c6 c7 c8 c9 c10 c11 c12 c13 =>
    split at h
    next i0 s0 s1 s2 s3 s4 s5 s6 q0 q1 q2 q3 q4 q5 q6 q7 =>
      split at h
      next i1 s30 s10 s11 s12 =>
        split at h
        next i2 s31 s13 s14 s15 =>
          split at h
          next i3 s32 s16 s17 s18 =>
            split at h
            next i4 s33 s19 s20 s21 =>
              split at h
              next i5 s22 s23 s24 s25 s26 q8 =>
                split at h
                next i6 n6 f2 =>
                  split at h
                  next i7 s27 q9 s28 =>
                    split at h
                    next i8 n8 f3 =>
                      split at h
                      next i9 q10 q11 q12 s29 =>
                        split at h
                        next i10 n10 f4 =>
                          split at h
                          next i11 n11 f5 =>
                            split at h
                            next i12 n12 f6 =>
                              split at h
                              next i13 n13 f1 =>
                                split at h
                                next hc =>
                                  have hc := chk_eq hc
                                  simp only [List.cons.injEq, and_true] at hc
                                  obtain ⟨rfl, rfl, rfl, rfl, rfl, rfl, rfl, rfl, rfl, rfl, rfl, rfl, rfl, rfl, rfl, rfl, rfl, rfl, rfl, rfl, rfl, rfl, rfl, rfl, rfl, rfl, rfl, rfl, rfl, rfl, rfl, rfl, rfl⟩ := hc
                                  exact ⟨_, rfl, h⟩
                                next => cases h
                              next => cases h
                            next => cases h
                          next => cases h
                        next => cases h
                      next => cases h
                    next => cases h
                  next => cases h
                next => cases h
              next => cases h
            next => cases h
          next => cases h
        next => cases h
      next => cases h
    next => cases h
  next => cases h
theorem lc_len (b : Nat) (v : pLV) : (loopCells b v).length = 14 := rfl
theorem met_of_exL {l : Launch} {y : MethodName} {cc : ByteArray} {nL : Nat} {ret : Option FieldType} {rm : Room} {pcOf : Nat → Nat} {code : List pEn} (hy : plainName y.cls = true)
    (hc : ∀ (i : Nat) (en : pEn), code[i]? = some en → EOK l cc y.cls nL ret rm 0 pcOf i en) (hp0 : pcOf 0 = 0)
    {args : List Value} {v v' : pLV} {rg : pRg} {res : Option Value} (hrun : ∃ n, ex code n 0 (lv_args 0 args) [] (loopCells 0 v) rg = some (res, loopCells 0 v', rg)) (hsl : (lg_sl args).length ≤ nL) (hrc : rm.cells = 0) (hrs : rm.slots = 0) :
    pCT l y (pWs y cc nL ret) rm args (loopCells 0 v) rg (res, loopCells 0 v', rg) :=
  met_of_ex hy hc hp0 hrun hsl rfl (by dsimp only; rw [lc_len, lc_len]; exact Nat.le_refl _) (by dsimp only; rw [lc_len]; omega) (Nat.zero_le _) (by dsimp only; rw [lc_len, lc_len]; exact hrc) (by dsimp only; rw [lc_len, lc_len]; exact hrs)
end
