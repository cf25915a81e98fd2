noncomputable section
/-! THE REFERENCE'S CELLS AS ONE VALUE: m 0 its fields by their numbers, m 1 .. m 6 its rows w, past, images, text, readEntry, held -/
def mdl (m : pLV) : pWd :=
  [.inr (9, [.ref 1, .ref 2, .int (m 0 2), .ref 3, .int (m 0 4), .ref 4, .int (m 0 6), .int (m 0 7), .int (m 0 8), .int (m 0 9), .int (m 0 10), .int (m 0 11), .int (m 0 12), .int (m 0 13), .ref 5, .int (m 0 15), .int (m 0 16), .int (m 0 17), .int (m 0 18), .int (m 0 19), .int (m 0 20), .ref 6]),
   .inl (0, 110, .inl (m 1)), .inl (0, 880, .inl (m 2)), .inl (0, 220, .inl (m 3)), .inl (0, 120, .inl (m 4)), .inl (0, 60, .inl (m 5)), .inl (0, 110, .inl (m 6))]
def NM (m : pLV) : pLV := mkL [0, 0, m 0 2, 0, m 0 4, 0, m 0 6, m 0 7, m 0 8, m 0 9, m 0 10, m 0 11, m 0 12, m 0 13, 0, m 0 15, m 0 16, m 0 17, m 0 18, m 0 19, m 0 20] (m 1) (m 2) (m 3) (m 4) (m 5) (m 6)
theorem mdl_len (m : pLV) : (mdl m).length = 7 := rfl
def unM {X : Type} (w : pWd) (c : pLV → Option X) : Option X := match w with
  | [c0, c1, c2, c3, c4, c5, c6] => (match c0 with | .inr (i0, [.ref q1, .ref q2, .int s2, .ref q3, .int s4, .ref q4, .int s6, .int s7, .int s8, .int s9, .int s10, .int s11, .int s12, .int s13, .ref q5, .int s15, .int s16, .int s17, .int s18, .int s19, .int s20, .ref q6]) => (match c1 with | .inl (i1, n1, .inl f1) => (match c2 with | .inl (i2, n2, .inl f2) => (match c3 with | .inl (i3, n3, .inl f3) => (match c4 with | .inl (i4, n4, .inl f4) => (match c5 with | .inl (i5, n5, .inl f5) => (match c6 with | .inl (i6, n6, .inl f6) => (match chk [i0, q1, q2, q3, q4, q5, q6, i1, n1, i2, n2, i3, n3, i4, n4, i5, n5, i6, n6] [9, 1, 2, 3, 4, 5, 6, 0, 110, 0, 880, 0, 220, 0, 120, 0, 60, 0, 110] with | true => c (mkL [0, 0, s2, 0, s4, 0, s6, s7, s8, s9, s10, s11, s12, s13, 0, s15, s16, s17, s18, s19, s20] f1 f2 f3 f4 f5 f6) | false => none) | _ => none) | _ => none) | _ => none) | _ => none) | _ => none) | _ => none) | _ => none)
  | _ => none
set_option maxHeartbeats 4000000 in
theorem unM_some {X : Type} {w : pWd} {c : pLV → Option X} {o : X} (h : unM w c = some o) : ∃ m, w = mdl m ∧ c m = some o := by
  unfold unM at h
  split at h
  next c0 c1 c2 c3 c4 c5 c6 =>
    split at h
    next i0 q1 q2 s2 q3 s4 q4 s6 s7 s8 s9 s10 s11 s12 s13 q5 s15 s16 s17 s18 s19 s20 q6 =>
      split at h
      next i1 n1 f1 =>
        split at h
        next i2 n2 f2 =>
          split at h
          next i3 n3 f3 =>
            split at h
            next i4 n4 f4 =>
              split at h
              next i5 n5 f5 =>
                split at h
                next i6 n6 f6 =>
                  split at h
                  next hc =>
                    have hc := chk_eq hc
                    simp only [List.cons.injEq, and_true] at hc
                    obtain ⟨rfl, rfl, rfl, rfl, rfl, rfl, rfl, rfl, rfl, rfl, rfl, rfl, rfl, rfl, rfl, rfl, rfl, rfl, rfl⟩ := hc
                    exact ⟨_, rfl, h⟩
                  next => cases h
                next => cases h
              next => cases h
            next => cases h
          next => cases h
        next => cases h
      next => cases h
    next => cases h
  next => cases h
theorem met_of_exM {l : Launch} {y : MethodName} {cc : ByteArray} {nL : Nat} {ret : Option FieldType} {rm : Room} {pcOf : Nat → Nat} {code : List pEn} (hy : plainName y.cls = true)
    (hc : ∀ (i : Nat) (en : pEn), code[i]? = some en → EOK l cc y.cls nL ret rm 0 pcOf i en) (hp0 : pcOf 0 = 0)
    {args : List Value} {m m' : pLV} {rg : pRg} {res : Option Value} (hrun : ∃ n, ex code n 0 (lv_args 0 args) [] (mdl m) rg = some (res, mdl m', rg)) (hsl : (lg_sl args).length ≤ nL) (hrc : rm.cells = 0) (hrs : rm.slots = 0) :
    pCT l y (pWs y cc nL ret) rm args (mdl m) rg (res, mdl m', rg) :=
  met_of_ex hy hc hp0 hrun hsl rfl (by dsimp only; rw [mdl_len, mdl_len]; exact Nat.le_refl _) (by dsimp only; rw [mdl_len]; omega) (Nat.zero_le _) (by dsimp only; rw [mdl_len, mdl_len]; exact hrc) (by dsimp only; rw [mdl_len, mdl_len]; exact hrs)
theorem met_of_exMe {l : Launch} {y : MethodName} {cc : ByteArray} {nL : Nat} {ret : Option FieldType} {rm : Room} {pcOf : Nat → Nat} {code : List pEn} (hy : plainName y.cls = true)
    (hc : ∀ (i : Nat) (en : pEn), code[i]? = some en → EOK l cc y.cls nL ret rm 0 pcOf i en) (hp0 : pcOf 0 = 0)
    {args : List Value} {m m' m2 : pLV} {rg : pRg} {res : Option Value} (hrun : ∃ n, ex code n 0 (lv_args 0 args) [] (mdl m) rg = some (res, mdl m', rg)) (he : pWEq (mdl m') (mdl m2)) (hsl : (lg_sl args).length ≤ nL) (hrc : rm.cells = 0) (hrs : rm.slots = 0) :
    pCT l y (pWs y cc nL ret) rm args (mdl m) rg (res, mdl m2, rg) := pCT_eqv (met_of_exM hy hc hp0 hrun hsl hrc hrs) he
/-- the reference's rows count within their lengths -/
theorem mdl_eq {m m' : pLV} (h0 : ∀ k, k < 21 → m 0 k = m' 0 k) (h1 : ∀ j, j < 110 → m 1 j = m' 1 j) (h2 : ∀ j, j < 880 → m 2 j = m' 2 j) (h3 : ∀ j, j < 220 → m 3 j = m' 3 j) (h4 : ∀ j, j < 120 → m 4 j = m' 4 j) (h5 : ∀ j, j < 60 → m 5 j = m' 5 j) (h6 : ∀ j, j < 110 → m 6 j = m' 6 j) : pWEq (mdl m) (mdl m') := by
  refine ⟨rfl, fun k x hx => ?_⟩
  match k, hx with
  | 0, hx =>
    cases hx
    refine ⟨_, rfl, Or.inl ?_⟩
    simp only [mdl, h0 2 (by omega), h0 4 (by omega), h0 6 (by omega), h0 7 (by omega), h0 8 (by omega), h0 9 (by omega), h0 10 (by omega), h0 11 (by omega), h0 12 (by omega), h0 13 (by omega), h0 15 (by omega), h0 16 (by omega), h0 17 (by omega), h0 18 (by omega), h0 19 (by omega), h0 20 (by omega)]
  | 1, hx => cases hx; exact ⟨_, rfl, Or.inr ⟨0, 110, _, _, rfl, rfl, h1⟩⟩
  | 2, hx => cases hx; exact ⟨_, rfl, Or.inr ⟨0, 880, _, _, rfl, rfl, h2⟩⟩
  | 3, hx => cases hx; exact ⟨_, rfl, Or.inr ⟨0, 220, _, _, rfl, rfl, h3⟩⟩
  | 4, hx => cases hx; exact ⟨_, rfl, Or.inr ⟨0, 120, _, _, rfl, rfl, h4⟩⟩
  | 5, hx => cases hx; exact ⟨_, rfl, Or.inr ⟨0, 60, _, _, rfl, rfl, h5⟩⟩
  | 6, hx => cases hx; exact ⟨_, rfl, Or.inr ⟨0, 110, _, _, rfl, rfl, h6⟩⟩
  | k + 7, hx => cases hx
end
