noncomputable section
/-! THE CLASS'S CELLS: f the history's row of loops, x its own numbers (x 0: textLength, faultKind, faultPlace, newest, size, the two kept, the reader's kind, place, at, the size of what is found) and rows (x 1 the text, x 2, x 3, x 4 what is found), v its loop, u its trial; the history's eight loops and the images' two stand in the region -/
def cwT (f : Nat → Option Nat) (x : pLV) : pWd :=
  [.inr (3, [.ref 30, .int (x 0 3), .int (x 0 4)]), .inl (1, 8, .inr (.inr (.inr (.inr f)))), .inr (4, [.ref 100112, .int (x 0 5)]), .inr (4, [.ref 100126, .int (x 0 6)]), .inl (0, 120, .inl (x 1)),
   .inr (6, [.ref 35, .int (x 0 7), .int (x 0 8), .int (x 0 9)]), .inr (7, [.ref 36, .ref 37, .ref 38, .int (x 0 10)]), .inl (0, 20, .inl (x 2)), .inl (0, 20, .inl (x 3)), .inl (0, 20, .inl (x 4))]
def cwO (x : pLV) : va_E := .inr (8, [.ref 1, .ref 15, .ref 29, .ref 31, .ref 32, .ref 33, .int (x 0 0), .ref 34, .int (x 0 1), .int (x 0 2)])
def cw (f : Nat → Option Nat) (x v u : pLV) : pWd := cwO x :: (loopCells 1 v ++ (loopCells 15 u ++ cwT f x))
def NX (x : pLV) : pLV := mkL [x 0 0, x 0 1, x 0 2, x 0 3, x 0 4, x 0 5, x 0 6, x 0 7, x 0 8, x 0 9, x 0 10] (x 1) (x 2) (x 3) (x 4) (fun _ => 0) (fun _ => 0)
theorem cw_len (f : Nat → Option Nat) (x v u : pLV) : (cw f x v u).length = 39 := rfl
def unT {X : Type} (c0 : va_E) (w : pWd) (c : (Nat → Option Nat) → pLV → Option X) : Option X := match w with
  | [c1, c2, c3, c4, c5, c6, c7, c8, c9, c10] => (match c0 with | .inr (i0, [.ref q1, .ref q2, .ref q3, .ref q4, .ref q5, .ref q6, .int s0, .ref q7, .int s1, .int s2]) => (match c1 with | .inr (i1, [.ref q8, .int s3, .int s4]) => (match c2 with | .inl (i2, n2, .inr (.inr (.inr (.inr f)))) => (match c3 with | .inr (i3, [.ref q9, .int s5]) => (match c4 with | .inr (i4, [.ref q10, .int s6]) => (match c5 with | .inl (i5, n5, .inl f1) => (match c6 with | .inr (i6, [.ref q11, .int s7, .int s8, .int s9]) => (match c7 with | .inr (i7, [.ref q12, .ref q13, .ref q14, .int s10]) => (match c8 with | .inl (i8, n8, .inl f2) => (match c9 with | .inl (i9, n9, .inl f3) => (match c10 with | .inl (i10, n10, .inl f4) => (match chk [i0, q1, q2, q3, q4, q5, q6, q7, i1, q8, i2, n2, i3, q9, i4, q10, i5, n5, i6, q11, i7, q12, q13, q14, i8, n8, i9, n9, i10, n10] [8, 1, 15, 29, 31, 32, 33, 34, 3, 30, 1, 8, 4, 100112, 4, 100126, 0, 120, 6, 35, 7, 36, 37, 38, 0, 20, 0, 20, 0, 20] with | true => c f (mkL [s0, s1, s2, s3, s4, s5, s6, s7, s8, s9, s10] f1 f2 f3 f4 (fun _ => 0) (fun _ => 0)) | false => none) | _ => none) | _ => none) | _ => none) | _ => none) | _ => none) | _ => none) | _ => none) | _ => none) | _ => none) | _ => none) | _ => none)
  | _ => none
set_option maxHeartbeats 4000000 in
theorem unT_some {X : Type} {c0 : va_E} {w : pWd} {c : (Nat → Option Nat) → pLV → Option X} {o : X} (h : unT c0 w c = some o) : ∃ f x, c0 = cwO x ∧ w = cwT f x ∧ c f x = some o := by
  unfold unT at h
  split at h
  next c1 c2 c3 c4 c5 c6 c7 c8 c9 c10 =>
    split at h
    next i0 q1 q2 q3 q4 q5 q6 s0 q7 s1 s2 =>
      split at h
      next i1 q8 s3 s4 =>
        split at h
        next i2 n2 f =>
          split at h
          next i3 q9 s5 =>
            split at h
            next i4 q10 s6 =>
              split at h
              next i5 n5 f1 =>
                split at h
                next i6 q11 s7 s8 s9 =>
                  split at h
                  next i7 q12 q13 q14 s10 =>
                    split at h
                    next i8 n8 f2 =>
                      split at h
                      next i9 n9 f3 =>
                        split at h
                        next i10 n10 f4 =>
                          split at h
                          next hc =>
                            have hc := chk_eq hc
                            simp only [List.cons.injEq, and_true] at hc
                            obtain ⟨rfl, rfl, rfl, rfl, rfl, rfl, rfl, rfl, rfl, rfl, rfl, rfl, rfl, rfl, rfl, rfl, rfl, rfl, rfl, rfl, rfl, rfl, rfl, rfl, rfl, rfl, rfl, rfl, rfl, rfl⟩ := hc
                            exact ⟨_, _, rfl, rfl, h⟩
                          next => cases h
                        next => cases h
                      next => cases h
                    next => cases h
                  next => cases h
                next => cases h
              next => cases h
            next => cases h
          next => cases h
        next => cases h
      next => cases h
    next => cases h
  next => cases h
def unB {X : Type} (w : pWd) (c : (Nat → Option Nat) → pLV → pLV → pLV → Option X) : Option X := match w with
  | c0 :: c1 :: c2 :: c3 :: c4 :: c5 :: c6 :: c7 :: c8 :: c9 :: c10 :: c11 :: c12 :: c13 :: c14 :: w2 => unL 1 [c1, c2, c3, c4, c5, c6, c7, c8, c9, c10, c11, c12, c13, c14] (fun v => match w2 with
    | c15 :: c16 :: c17 :: c18 :: c19 :: c20 :: c21 :: c22 :: c23 :: c24 :: c25 :: c26 :: c27 :: c28 :: w3 => unL 15 [c15, c16, c17, c18, c19, c20, c21, c22, c23, c24, c25, c26, c27, c28] (fun u => unT c0 w3 (fun f x => c f x v u))
    | _ => none)
  | _ => none
theorem unB_some {X : Type} {w : pWd} {c : (Nat → Option Nat) → pLV → pLV → pLV → Option X} {o : X} (h : unB w c = some o) : ∃ f x v u, w = cw f x v u ∧ c f x v u = some o := by
  unfold unB at h
  split at h
  next =>
    obtain ⟨v, e1, h2⟩ := unL_some h
    clear h
    split at h2
    next =>
      obtain ⟨u, e2, h3⟩ := unL_some h2
      clear h2
      obtain ⟨f, x, e3, e4, h4⟩ := unT_some h3
      refine ⟨f, x, v, u, ?_, h4⟩
      unfold cw
      rw [← e1, ← e2, ← e3, ← e4]
      rfl
    next => cases h2
  next => cases h
/-- the row of loops, and how many stand in the region -/
def bOK (f : Nat → Option Nat) (rg : pRg) : Prop := (∀ i, i < 8 → f i = some (100000 + 14 * i)) ∧ rg.1 = 10
def updR (h : Nat → pLV) (k : Nat) (v : pLV) : Nat → pLV := fun i => if i = k then v else h i
/-- a loop's cells stand under a renaming -/
theorem lc_map (ρ : Nat → Nat) (a b : Nat) (v : pLV) (h : ∀ t, t < 14 → ρ (a + t) = b + t) : (loopCells a v).map (re ρ) = loopCells b v := by
  have h1 := h 1 (by omega)
  have h2 := h 2 (by omega)
  have h3 := h 3 (by omega)
  have h4 := h 4 (by omega)
  have h5 := h 5 (by omega)
  have h6 := h 6 (by omega)
  have h7 := h 7 (by omega)
  have h8 := h 8 (by omega)
  have h9 := h 9 (by omega)
  have h10 := h 10 (by omega)
  have h11 := h 11 (by omega)
  have h12 := h 12 (by omega)
  have h13 := h 13 (by omega)
  show ([.inr (5, [.int (v 0 0), .int (v 0 1), .int (v 0 2), .int (v 0 3), .int (v 0 4), .int (v 0 5), .int (v 0 6), .ref (ρ (a + 1)), .ref (ρ (a + 2)), .ref (ρ (a + 3)), .ref (ρ (a + 4)), .ref (ρ (a + 5)), .ref (ρ (a + 7)), .ref (ρ (a + 9)), .ref (ρ (a + 13))]), .inr (1, _), .inr (1, _), .inr (1, _), .inr (1, _), .inr (0, [_, _, _, _, _, .ref (ρ (a + 6))]), .inl _, .inr (2, [_, .ref (ρ (a + 8)), _]), .inl _, .inr (7, [.ref (ρ (a + 10)), .ref (ρ (a + 11)), .ref (ρ (a + 12)), _]),   .inl _, .inl _, .inl _, .inl _] : pWd) = _
  rw [h1, h2, h3, h4, h5, h6, h7, h8, h9, h10, h11, h12, h13]
  rfl
theorem rg_at {rg : pRg} {k t : Nat} (hk : k < rg.1) (ht : t < 14) : rgCell rg (100000 + 14 * k + t) = wget (loopCells (100000 + 14 * k) (rg.2 k)) t := by
  unfold rgCell
  rw [if_pos (by omega), show (100000 + 14 * k + t - 100000) / 14 = k by omega, show (100000 + 14 * k + t - 100000) % 14 = t by omega]
theorem rg_other {rg : pRg} {k : Nat} {v : pLV} {q : Nat} (hq : ∀ t, t < 14 → q ≠ 100000 + 14 * k + t) : rgCell (rg.1, updR rg.2 k v) q = rgCell rg q := by
  unfold rgCell
  by_cases h : 100000 ≤ q ∧ q < 100000 + 14 * rg.1
  · rw [if_pos h, if_pos h]
    have hne : (q - 100000) / 14 ≠ k := fun e => hq ((q - 100000) % 14) (Nat.mod_lt _ (by omega)) (by omega)
    show wget (loopCells _ (if (q - 100000) / 14 = k then v else rg.2 ((q - 100000) / 14))) _ = _
    rw [if_neg hne]
  · rw [if_neg h, if_neg h]
theorem lc_wget {b : Nat} {v : pLV} {k : Nat} {e : va_E} (h : wget (loopCells b v) k = some e) : k < 14 := wget_lt h
theorem lo_14 (B : pWd) (v : pLV) (b : Nat) {j : Nat} (hj : j < 14) : wget (loopCells b v ++ B) j = wget (loopCells b v) j := by
  rw [wget_cat]
  exact if_pos (show j < (loopCells b v).length from hj)
theorem hi_14 (B : pWd) (v : pLV) (b : Nat) {j : Nat} (hj : ¬ j < 14) : wget (loopCells b v ++ B) j = wget B (j - 14) := by
  rw [wget_cat]
  exact if_neg (show ¬ j < (loopCells b v).length from hj)
theorem cw_loop (f : Nat → Option Nat) (x v u : pLV) {t : Nat} (ht : t < 14) : wget (cw f x v u) (1 + t) = wget (loopCells 1 v) t := by
  rw [show 1 + t = t + 1 by omega]
  exact lo_14 _ v 1 ht
theorem cw_other (f : Nat → Option Nat) (x v v' u : pLV) {k : Nat} (hk : ∀ t, t < 14 → k ≠ 1 + t) : wget (cw f x v u) k = wget (cw f x v' u) k := by
  cases k with
  | zero => rfl
  | succ k =>
    have h : ¬ k < 14 := fun z => hk k z (by omega)
    show wget (loopCells 1 v ++ _) k = wget (loopCells 1 v' ++ _) k
    rw [hi_14 _ _ _ h, hi_14 _ _ _ h]
theorem cellOf_hi {w : pWd} {rg : pRg} {k : Nat} (h : w.length ≤ k) : cellOf w rg k = rgCell rg k := by
  unfold cellOf
  rw [wget_none h]
theorem cellOf_lo {w : pWd} {rg : pRg} {k : Nat} (h : k < w.length) : cellOf w rg k = wget w k := by
  obtain ⟨e, he⟩ := wget_ex h
  rw [cellOf_get he, he]
end
