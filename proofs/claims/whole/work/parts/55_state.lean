noncomputable section
/-! THE TWO SIDES ARE ALIKE: ticks, and the whole state -/
theorem ticks_S {B : Int} {v m : pLV} (h : SL B (v 0 2) v (m 1)) : ∀ k : Nat, B + 2000 * (k : Int) ≤ 2000000000 → SL (B + 2000 * (k : Int)) (tickI k v 0 2) (tickI k v) (tmI k m 1) ∧ FR m (tmI k m)
  | 0, _ => ⟨h.up (by omega), FR.rf m⟩
  | k + 1, hB => by
    obtain ⟨h1, r1⟩ := ticks_S h k (by omega)
    obtain ⟨-, b, h2, r2, -, e2, -⟩ := tick_S (v := NL (tickI k v)) (m := NM (tmI k m)) h1 (Or.inl rfl) (by omega)
    rw [e2 rfl] at h2
    exact ⟨h2.up (by omega), (r1.tr (FR.nm _)).tr r2⟩
theorem ticks_OK {B : Int} {v m : pLV} (h : SL B (v 0 2) v (m 1)) {n : Nat} (hB : B + 2000 * (n : Int) ≤ 2000000000) : tksOK n m := by
  intro k hk
  obtain ⟨h1, -⟩ := ticks_S h k (by omega)
  exact (tick_S (v := NL (tickI k v)) (m := NM (tmI k m)) h1 (Or.inl rfl) (by omega)).1
theorem ap_eq {B : Int} {bk : Int32} {v m : pLV} (h : SL B bk v (m 1)) : apM m = sumP (v 2) 4 := by
  have e5 : m 1 35 = v 2 0 := h.1 35 (by omega)
  have e6 : m 1 36 = v 2 1 := h.1 36 (by omega)
  have e7 : m 1 37 = v 2 2 := h.1 37 (by omega)
  have e8 : m 1 38 = v 2 3 := h.1 38 (by omega)
  show m 1 35 + m 1 36 + m 1 37 + m 1 38 = 0 + v 2 0 + v 2 1 + v 2 2 + v 2 3
  rw [e5, e6, e7, e8, Int32.zero_add]
theorem ap_b {B : Int} {v : pLV} (h : IPa B v) (hB : B ≤ 2100000000) : 0 ≤ (sumP (v 2) 4).toInt ∧ (sumP (v 2) 4).toInt ≤ B := by
  obtain ⟨p0, p1, p2, p3, p4⟩ := h
  have e1 : (v 2 0 + v 2 1).toInt = (v 2 0).toInt + (v 2 1).toInt := i_add (by omega) (by omega)
  have e2 : (v 2 0 + v 2 1 + v 2 2).toInt = (v 2 0).toInt + (v 2 1).toInt + (v 2 2).toInt := by rw [i_add (by omega) (by omega), e1]
  have e3 : (v 2 0 + v 2 1 + v 2 2 + v 2 3).toInt = (v 2 0).toInt + (v 2 1).toInt + (v 2 2).toInt + (v 2 3).toInt := by rw [i_add (by omega) (by omega), e2]
  have e : sumP (v 2) 4 = v 2 0 + v 2 1 + v 2 2 + v 2 3 := by
    show 0 + v 2 0 + v 2 1 + v 2 2 + v 2 3 = _
    rw [Int32.zero_add]
  rw [e, e3]
  omega
/-- a row counts up to place 110 -/
theorem SL.co {B : Int} {bk : Int32} {v : pLV} {f f' : Nat → Int32} (h : SL B bk v f) (hf : ∀ j, j < 110 → f' j = f j) : SL B bk v f' := by
  have hgr := h.2.2.2.1.2.2.2.1
  have a1 := hgr.2.2.2.2.1.2
  have a2 := hgr.2.2.2.2.2.2
  have e1 : (v 0 28).toNatClampNeg = (v 0 28).toInt.toNat := rfl
  have e2 : (v 0 29).toNatClampNeg = (v 0 29).toInt.toNat := rfl
  refine ⟨fun j hj => by rw [hf j (by omega)]; exact h.1 j hj, fun j hj => by rw [hf _ (by omega)]; exact h.2.1 j hj, ⟨by rw [hf _ (by omega)]; exact h.2.2.1.1, fun k hk => ?_⟩, h.2.2.2⟩
  rw [hf _ (by omega), hf _ (by omega), hf _ (by omega)]
  exact h.2.2.1.2 k hk
theorem SL.cp {B : Int} {bk : Int32} {v w : pLV} {f : Nat → Int32} (h : SL B bk v f) (hw : IRm w) : SL B bk (cpyV w v) f := ⟨h.1, h.2.1, h.2.2.1, ⟨hw, h.2.2.2.1.2⟩, h.2.2.2.2⟩
def SN (B : Int) (v : pLV) (f : Nat → Int32) : Prop := SL B (v 0 2) v f
theorem SN.cp {B : Int} {v w : pLV} {f : Nat → Int32} (h : SN B v f) (hw : IRm w) : SN B (cpyV w v) f := SL.cp h hw
theorem SN.co {B : Int} {v : pLV} {f f' : Nat → Int32} (h : SN B v f) (hf : ∀ j, j < 110 → f' j = f j) : SN B v f' := SL.co h hf
theorem SN.up {B C : Int} {v : pLV} {f : Nat → Int32} (h : SN B v f) (hBC : B ≤ C) : SN C v f := SL.up h hBC
def RTx (x m : pLV) : Prop := ∃ n : Nat, n ≤ 120 ∧ x 0 0 = nI n ∧ m 0 6 = nI n ∧ ∀ j, j < n → m 4 j = x 1 j
def RFa (x m : pLV) : Prop := (x 0 1 = 0 ∧ m 0 7 = -9 ∧ m 0 8 = -9) ∨ (¬ x 0 1 = 0 ∧ m 0 7 = x 0 1 ∧ m 0 8 = x 0 2)
def RHi (B : Int) (x : pLV) (h : Nat → pLV) (m : pLV) : Prop := ∃ s q : Nat, s ≤ 8 ∧ q < 8 ∧ x 0 4 = nI s ∧ m 0 2 = nI s ∧ x 0 3 = nI q ∧ ∀ t, t < s → SN B (h ((q + 8 - t) % 8)) (fun j => m 2 (110 * (s - 1 - t) + j))
def RIm (B : Int) (x : pLV) (h : Nat → pLV) (m : pLV) : Prop := (x 0 5 = 0 ∨ x 0 5 = 1) ∧ (x 0 6 = 0 ∨ x 0 6 = 1) ∧ m 0 4 = x 0 5 + (x 0 6 + x 0 6) ∧ (x 0 5 = 1 → SN B (h 8) (m 3)) ∧ (x 0 6 = 1 → SN B (h 9) (fun j => m 3 (110 + j)))
def RRm (u : pLV) (h : Nat → pLV) : Prop := IRm u ∧ ∀ i, i < 10 → IRm (h i)
/-- class and reference are in like states -/
def RS (B : Int) (x v u : pLV) (h : Nat → pLV) (m : pLV) : Prop := SN B v (m 1) ∧ RRm u h ∧ RTx x m ∧ RFa x m ∧ RHi B x h m ∧ RIm B x h m
theorem RS.up {B C : Int} {x v u : pLV} {h : Nat → pLV} {m : pLV} (r : RS B x v u h m) (hBC : B ≤ C) : RS C x v u h m := by
  obtain ⟨r1, r2, r3, r4, ⟨s, q, h1, h2, h3, h4, h5, h6⟩, ⟨i1, i2, i3, i4, i5⟩⟩ := r
  exact ⟨r1.up hBC, r2, r3, r4, ⟨s, q, h1, h2, h3, h4, h5, fun t ht => (h6 t ht).up hBC⟩, ⟨i1, i2, i3, fun e => (i4 e).up hBC, fun e => (i5 e).up hBC⟩⟩
/-- the loop alone changes -/
theorem RS.loop {B C : Int} {x v u v' u' : pLV} {h : Nat → pLV} {m m' : pLV} (r : RS B x v u h m) (hs : SN C v' (m' 1)) (hBC : B ≤ C) (hu : IRm u') (f2 : m' 2 = m 2) (f3 : m' 3 = m 3) (f4 : m' 4 = m 4) (g2 : m' 0 2 = m 0 2) (g4 : m' 0 4 = m 0 4) (g6 : m' 0 6 = m 0 6) (g7 : m' 0 7 = m 0 7) (g8 : m' 0 8 = m 0 8) : RS C x v' u' h m' := by
  obtain ⟨r1, r2, r3, r4, r5, r6⟩ := r.up hBC
  refine ⟨hs, ⟨hu, r2.2⟩, ?_, ?_, ?_, ?_⟩
  · unfold RTx
    rw [g6, f4]
    exact r3
  · unfold RFa
    rw [g7, g8]
    exact r4
  · unfold RHi
    rw [g2, f2]
    exact r5
  · unfold RIm
    rw [g4, f3]
    exact r6
theorem RS.fr {B C : Int} {x v u v' : pLV} {h : Nat → pLV} {m m' : pLV} (r : RS B x v u h m) (hs : SN C v' (m' 1)) (hBC : B ≤ C) (f : FR m m') : RS C x v' u h m' := by
  obtain ⟨a1, a2, a3, a4, a5, a6, a7, a8, a9, a10⟩ := f
  exact r.loop hs hBC r.2.1.1 a1 a2 a3 a6 a7 a8 a9 a10
theorem nw_q {n : Int32} {q : Nat} (h : n = nI q) (hq : q < 8) : nwI n = nI ((q + 1) % 8) := by
  subst h
  unfold nwI
  rw [if_neg (Int32.not_lt.mpr (nI_pos' (by omega)))]
  by_cases h7 : q < 7
  · rw [if_pos (show nI q < 7 from Int32.not_le.mp (nI_ge (a := q) (b := 7) h7 (by omega))), nI_1, show (q + 1) % 8 = q + 1 by omega]
  · rw [if_neg (show ¬ nI q < 7 from Int32.not_lt.mpr (nI_le (a := 7) (b := q) (by omega) (by omega))), show (q + 1) % 8 = 0 by omega]
    rfl
theorem mn_s {s : Nat} (hs : s ≤ 8) : mnI (nI s + 1) 8 = nI (min (s + 1) 8) := by
  rw [nI_1]
  unfold mnI
  by_cases h : s = 8
  · subst h
    rfl
  · rw [if_neg (show ¬ (8 : Int32) < nI (s + 1) from nI_nlt (a := 8) (b := s + 1) (by omega) (by omega)), show min (s + 1) 8 = s + 1 by omega]
theorem cpy_rm {w v : pLV} (h : IRm w) : IRm (cpyV w v) := h
theorem rem_S {B : Int} {x v u : pLV} {h : Nat → pLV} {m : pLV} (r : RS B x v u h m) : RS B (xRem x) v u (hRem x v h) (rememM m) ∧ pOK m ∧ rememM m 1 = m 1 := by
  obtain ⟨r1, r2, r3, r4, ⟨s, q, h1, h2, h3, h4, h5, h6⟩, ⟨i1, i2, i3, i4, i5⟩⟩ := r
  have hk : (nwI (x 0 3)).toNatClampNeg = (q + 1) % 8 := by rw [nw_q h5 h2, nI_clamp (by omega)]
  have hp : pOK m := by
    unfold pOK
    rw [h4]
    exact ⟨nI_pos' (by omega), nI_le (a := s) (b := 8) h1 (by omega)⟩
  have e1 : rememM m 1 = m 1 := by
    unfold rememM
    split <;> rfl
  have e2 : rememM m 0 2 = nI (min (s + 1) 8) := by
    by_cases h8 : s = 8
    · subst h8
      have : rememM m = rm2 (rm1 m) := if_pos h4
      rw [this]
      show m 0 2 - 1 + 1 = _
      rw [h4]
      rfl
    · have : rememM m = rm2 m := if_neg (by
        rw [h4]
        intro q
        have := congrArg Int32.toNatClampNeg q
        rw [nI_clamp (by omega)] at this
        exact h8 (this.trans (by decide)))
      rw [this]
      show m 0 2 + 1 = _
      rw [h4, nI_1, show min (s + 1) 8 = s + 1 by omega]
  have eo : ∀ k, k = 4 ∨ k = 6 ∨ k = 7 ∨ k = 8 → rememM m 0 k = m 0 k := by
    intro k hk
    unfold rememM
    rcases hk with rfl | rfl | rfl | rfl <;> split <;> rfl
  have e3 : rememM m 3 = m 3 := by
    unfold rememM
    split <;> rfl
  have e4 : rememM m 4 = m 4 := by
    unfold rememM
    split <;> rfl
  -- the rows of the past
  have er0 : ∀ j, j < 110 → rememM m 2 (110 * (min (s + 1) 8 - 1) + j) = m 1 j := by
    intro j hj
    by_cases h8 : s = 8
    · subst h8
      have : rememM m = rm2 (rm1 m) := if_pos h4
      rw [this]
      have e7 : (rm1 m 0 2).toNatClampNeg = 7 := by
        show (m 0 2 - 1).toNatClampNeg = 7
        rw [h4]
        rfl
      show cpR 110 (110 * (rm1 m 0 2).toNatClampNeg) (m 1) _ _ = _
      rw [e7]
      unfold cpR
      rw [if_pos (by omega)]
      exact congrArg (m 1) (by omega)
    · have : rememM m = rm2 m := if_neg (by
        rw [h4]
        intro q
        have := congrArg Int32.toNatClampNeg q
        rw [nI_clamp (by omega)] at this
        exact h8 (this.trans (by decide)))
      rw [this]
      show cpR 110 (110 * (m 0 2).toNatClampNeg) (m 1) (m 2) _ = _
      rw [h4, nI_clamp (by omega)]
      unfold cpR
      rw [if_pos (by omega)]
      congr 1
      omega
  have er1 : ∀ t j, j < 110 → t + 1 < min (s + 1) 8 → rememM m 2 (110 * (min (s + 1) 8 - 1 - (t + 1)) + j) = m 2 (110 * (s - 1 - t) + j) := by
    intro t j hj ht
    by_cases h8 : s = 8
    · subst h8
      have : rememM m = rm2 (rm1 m) := if_pos h4
      rw [this]
      have e7 : (rm1 m 0 2).toNatClampNeg = 7 := by
        show (m 0 2 - 1).toNatClampNeg = 7
        rw [h4]
        rfl
      show cpR 110 (110 * (rm1 m 0 2).toNatClampNeg) (m 1) (cpS 770 (m 2)) _ = _
      rw [e7]
      unfold cpR
      rw [if_neg (by omega)]
      unfold cpS
      rw [if_pos (by omega)]
      congr 1
      omega
    · have : rememM m = rm2 m := if_neg (by
        rw [h4]
        intro q
        have := congrArg Int32.toNatClampNeg q
        rw [nI_clamp (by omega)] at this
        exact h8 (this.trans (by decide)))
      rw [this]
      show cpR 110 (110 * (m 0 2).toNatClampNeg) (m 1) (m 2) _ = _
      rw [h4, nI_clamp (by omega)]
      unfold cpR
      rw [if_neg (by omega)]
      congr 1
      omega
  refine ⟨⟨by rw [e1]; exact r1, ⟨r2.1, fun i hi => ?_⟩, ?_, ?_, ?_, ?_⟩, hp, e1⟩
  · unfold hRem updR
    split
    · exact cpy_rm (r2.2 _ (by rw [hk]; omega))
    · exact r2.2 i hi
  · unfold RTx
    rw [eo 6 (by omega), e4]
    exact r3
  · unfold RFa
    rw [eo 7 (by omega), eo 8 (by omega)]
    exact r4
  · refine ⟨min (s + 1) 8, (q + 1) % 8, by omega, by omega, ?_, e2, ?_, fun t ht => ?_⟩
    · show mnI (x 0 4 + 1) 8 = _
      rw [h3]
      exact mn_s h1
    · show nwI (x 0 3) = _
      exact nw_q h5 h2
    · cases t with
      | zero =>
        have e : hRem x v h (((q + 1) % 8 + 8 - 0) % 8) = cpyV (h ((q + 1) % 8)) v := by
          unfold hRem updR
          rw [hk, if_pos (by omega)]
        rw [e]
        exact (r1.cp (r2.2 _ (by omega))).co er0
      | succ t =>
        have e : hRem x v h (((q + 1) % 8 + 8 - (t + 1)) % 8) = h ((q + 8 - t) % 8) := by
          unfold hRem updR
          rw [hk, if_neg (by omega)]
          congr 1
          omega
        rw [e]
        exact (h6 t (by omega)).co (fun j hj => er1 t j hj ht)
  · have n8 : hRem x v h 8 = h 8 := by
      unfold hRem updR
      rw [hk, if_neg (by omega)]
    have n9 : hRem x v h 9 = h 9 := by
      unfold hRem updR
      rw [hk, if_neg (by omega)]
    unfold RIm
    rw [n8, n9, e3, eo 4 (by omega)]
    exact ⟨i1, i2, i3, i4, i5⟩
end
