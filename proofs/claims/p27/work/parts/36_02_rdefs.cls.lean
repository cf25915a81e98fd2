noncomputable section
/-! THE READER: r 0 its kind, place, at and the size of what is found, r 1, r 2, r 3 what is found, r 4 the text -/
def qW (r : pLV) : pWd := [.inr (6, [.ref 1, .int (r 0 0), .int (r 0 1), .int (r 0 2)]), .inr (7, [.ref 2, .ref 3, .ref 4, .int (r 0 3)]), .inl (0, 20, .inl (r 1)), .inl (0, 20, .inl (r 2)), .inl (0, 20, .inl (r 3)), .inl (0, 120, .inl (r 4))]
def NQ (r : pLV) : pLV := mkL [r 0 0, r 0 1, r 0 2, r 0 3] (r 1) (r 2) (r 3) (r 4) (fun _ => 0) (fun _ => 0)
def unQ {X : Type} (w : pWd) (c : pLV → Option X) : Option X := match w with
  | [c0, c1, c2, c3, c4, c5] => (match c0 with | .inr (i0, [.ref q1, .int s0, .int s1, .int s2]) => (match c1 with | .inr (i1, [.ref q2, .ref q3, .ref q4, .int s3]) => (match c2 with | .inl (i2, n2, .inl f1) => (match c3 with | .inl (i3, n3, .inl f2) => (match c4 with | .inl (i4, n4, .inl f3) => (match c5 with | .inl (i5, n5, .inl f4) => (match chk [i0, q1, i1, q2, q3, q4, i2, n2, i3, n3, i4, n4, i5, n5] [6, 1, 7, 2, 3, 4, 0, 20, 0, 20, 0, 20, 0, 120] with | true => c (mkL [s0, s1, s2, s3] f1 f2 f3 f4 (fun _ => 0) (fun _ => 0)) | false => none) | _ => none) | _ => none) | _ => none) | _ => none) | _ => none) | _ => none)
  | _ => none
set_option maxHeartbeats 4000000 in
theorem unQ_some {X : Type} {w : pWd} {c : pLV → Option X} {o : X} (h : unQ w c = some o) : ∃ r, w = qW r ∧ c r = some o := by
  unfold unQ at h
  split at h
  next c0 c1 c2 c3 c4 c5 =>
    split at h
    next i0 q1 s0 s1 s2 =>
      split at h
      next i1 q2 q3 q4 s3 =>
        split at h
        next i2 n2 f1 =>
          split at h
          next i3 n3 f2 =>
            split at h
            next i4 n4 f3 =>
              split at h
              next i5 n5 f4 =>
                split at h
                next hc =>
                  have hc := chk_eq hc
                  simp only [List.cons.injEq, and_true] at hc
                  obtain ⟨rfl, rfl, rfl, rfl, rfl, rfl, rfl, rfl, rfl, rfl, rfl, rfl, rfl, rfl⟩ := hc
                  exact ⟨_, rfl, h⟩
                next => cases h
              next => cases h
            next => cases h
          next => cases h
        next => cases h
      next => cases h
    next => cases h
  next => cases h
theorem met_of_exQ {l : Launch} {y : MethodName} {cc : ByteArray} {nL : Nat} {ret : Option FieldType} {rm : Room} {pcOf : Nat → Nat} {code : List pEn} (hy : plainName y.cls = true)
    (hc : ∀ (i : Nat) (en : pEn), code[i]? = some en → EOK l cc y.cls nL ret rm 0 pcOf i en) (hp0 : pcOf 0 = 0)
    {args : List Value} {m m' : pLV} {rg : pRg} {res : Option Value} (hrun : ∃ n, ex code n 0 (lv_args 0 args) [] (qW m) rg = some (res, qW m', rg)) (hsl : (lg_sl args).length ≤ nL) (hrc : rm.cells = 0) (hrs : rm.slots = 0) :
    pCT l y (pWs y cc nL ret) rm args (qW m) rg (res, qW m', rg) :=
  met_of_ex hy hc hp0 hrun hsl rfl (Nat.le_of_ble_eq_true rfl) (Nat.le_of_ble_eq_true rfl) (Nat.zero_le _) hrc hrs
/-- where the reader stands: a places of the text's n bytes are read -/
def qOK (r : pLV) (L : Int32) : Prop := ∃ a n : Nat, r 0 2 = nI a ∧ L = nI n ∧ a ≤ n ∧ n ≤ 120
def qCd (r : pLV) (L : Int32) : Int32 := if r 0 2 < 0 then -9 else if L ≤ r 0 2 then -9 else if 120 ≤ r 0 2 then -9 else r 4 (r 0 2).toNatClampNeg
def qNt (r : pLV) (k p : Int32) : pLV := vS (vS r 0 k) 1 p
def qNw (r : pLV) (L : Int32) : pLV := if L ≤ r 0 2 then qNt r 3 (r 0 2) else qNt r 1 (r 0 2)
/-- the byte at a place -/
theorem qCd_at {r : pLV} {a n : Nat} (ha : r 0 2 = nI a) (h : a < n) (hn : n ≤ 120) : qCd r (nI n) = r 4 a := by
  have h1 : ¬ r 0 2 < 0 := by rw [ha]; exact Int32.not_lt.mpr (nI_pos' (by omega))
  have h2 : ¬ nI n ≤ r 0 2 := by rw [ha]; exact nI_ge (a := a) (b := n) h (by omega)
  have h3 : ¬ (120 : Int32) ≤ r 0 2 := by rw [ha]; exact nI_ge (a := a) (b := 120) (by omega) (by omega)
  rw [show qCd r (nI n) = r 4 (r 0 2).toNatClampNeg from (if_neg h1).trans ((if_neg h2).trans (if_neg h3)), ha, nI_clamp (by omega)]
theorem qCd_end {r : pLV} {a n : Nat} (ha : r 0 2 = nI a) (h : n ≤ a) (hb : a < 2 ^ 31) : qCd r (nI n) = -9 := by
  unfold qCd
  split
  · rfl
  · have h2 : nI n ≤ r 0 2 := by rw [ha]; exact nI_le h hb
    rw [if_pos h2]
theorem qCd_lt {r : pLV} {a n : Nat} (ha : r 0 2 = nI a) (hn : n ≤ 120) (han : a ≤ n) (h : ¬ qCd r (nI n) = -9) : a < n := by
  rcases Nat.lt_or_ge a n with z | z
  · exact z
  · exact absurd (qCd_end ha z (by omega)) h
end
