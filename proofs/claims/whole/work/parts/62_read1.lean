noncomputable section
/-! THE TWO SIDES ARE ALIKE: reading, step by step -/
def RF (d k : Nat) (m : pLV) : pLV := rtE (rtI d k m)
theorem RF_s {m : pLV} {d k : Nat} (h : m 0 15 = -9) : RF (d + 1) k m = RF d (k + 1) (rtS m k) := congrArg rtE (if_pos h)
theorem RF_f {m : pLV} (h : ¬ m 0 15 = -9) : ∀ d k, RF d k m = m
  | 0, _ => if_neg h
  | _ + 1, _ => (congrArg rtE (if_neg h)).trans (if_neg h)
/-- what reading leaves of the reference -/
def FT (m m' : pLV) : Prop := m' 1 = m 1 ∧ m' 2 = m 2 ∧ m' 3 = m 3 ∧ m' 4 = m 4 ∧ m' 6 = m 6 ∧ m' 0 2 = m 0 2 ∧ m' 0 4 = m 0 4 ∧ m' 0 6 = m 0 6 ∧ m' 0 7 = m 0 7 ∧ m' 0 8 = m 0 8
theorem FT.rf (m : pLV) : FT m m := ⟨rfl, rfl, rfl, rfl, rfl, rfl, rfl, rfl, rfl, rfl⟩
theorem FT.tr {a b c : pLV} (h : FT a b) (g : FT b c) : FT a c := by
  obtain ⟨a1, a2, a3, a4, a5, a6, a7, a8, a9, a10⟩ := h
  obtain ⟨b1, b2, b3, b4, b5, b6, b7, b8, b9, b10⟩ := g
  exact ⟨b1.trans a1, b2.trans a2, b3.trans a3, b4.trans a4, b5.trans a5, b6.trans a6, b7.trans a7, b8.trans a8, b9.trans a9, b10.trans a10⟩
def QS (m0 : pLV) (E : Nat → Int32) (c : Nat) (st : Int32) (m : pLV) : Prop := FT m0 m ∧ m 0 15 = -9 ∧ m 0 13 = nI c ∧ m 0 17 = st ∧ m 5 = E
def QD (m0 : pLV) (E : Nat → Int32) (c : Nat) (st : Int32) (j a : Nat) (v : Int32) (m : pLV) : Prop := QS m0 E c st m ∧ m 0 18 = nI j ∧ m 0 19 = nI a ∧ m 0 20 = v
def FA (m0 : pLV) (k p : Int32) (M : pLV) : Prop := FT m0 M ∧ M 0 15 = k ∧ M 0 16 = p
theorem FA_f {m0 m : pLV} (h : FT m0 m) (k p : Int32) : FA m0 k p (faM (NM (NM m)) k p) := ⟨h.tr ⟨rfl, rfl, rfl, rfl, rfl, rfl, rfl, rfl, rfl, rfl⟩, rfl, rfl⟩
theorem FA_f1 {m0 m : pLV} (h : FT m0 m) (k p : Int32) : FA m0 k p (faM (NM m) k p) := ⟨h.tr ⟨rfl, rfl, rfl, rfl, rfl, rfl, rfl, rfl, rfl, rfl⟩, rfl, rfl⟩
theorem FA.run {m0 M : pLV} {k p : Int32} (h : FA m0 k p M) (hk : ¬ k = -9) (d j : Nat) : FA m0 k p (RF d j M) := by
  rw [RF_f (by rw [h.2.1]; exact hk)]
  exact h
theorem rtS_o {m : pLV} {k : Nat} (h : inI (m 4 k) 48 57 = 0) : rtS m k = roM (NM m) (nI k) := if_pos h
theorem rtS_d {m : pLV} {k : Nat} (h : ¬ inI (m 4 k) 48 57 = 0) : rtS m k = rdgM (NM m) (nI k) := if_neg h
theorem NM_17 (m : pLV) : NM m 0 17 = m 0 17 := rfl
theorem NM_18 (m : pLV) : NM m 0 18 = m 0 18 := rfl
theorem NM_4' (m : pLV) : NM m 4 = m 4 := rfl
theorem rom_z {m : pLV} {st : Int32} {k : Nat} (h : m 0 17 = st) (h2 : ¬ st = 2) (h4 : ¬ st = 4) (hk : k < 1000) : roM (NM m) (nI k) = roT (NM m) (nI k) (m 4 k) := by
  unfold roM
  rw [NM_17, h, if_neg h2, if_neg h4, NM_4', nI_clamp (by omega)]
theorem iw_NM (m : pLV) : iwR (NM m) = iwR m := rfl
theorem NM_19 (m : pLV) : NM m 0 19 = m 0 19 := rfl
theorem rom_w {m : pLV} {st : Int32} {k : Nat} (h : m 0 17 = st) (h2 : st = 2 ∨ st = 4) (hk : k < 1000) : roM (NM m) (nI k) = if iwR m = 0 then faM (NM (NM m)) 2 (m 0 19) else roT (NM m) (nI k) (m 4 k) := by
  have : roM (NM m) (nI k) = roW (NM m) (nI k) := by
    unfold roM
    rw [NM_17, h]
    rcases h2 with e | e
    · rw [if_pos e]
    · subst e
      rw [if_neg (by decide), if_pos rfl]
  rw [this]
  unfold roW
  rw [iw_NM, NM_19, NM_4', nI_clamp (by omega)]
/-- blanks are passed over -/
theorem RF_skip {m0 : pLV} {E : Nat → Int32} {c n : Nat} {t : Nat → Int32} (hn : n ≤ 120) (ht : ∀ j, j < n → m0 4 j = t j) : ∀ d a m, QS m0 E c 0 m → a + d = n → ∃ m', QS m0 E c 0 m' ∧ RF d a m = RF (n - skA t d a) (skA t d a) m'
  | 0, a, m, h, ha => ⟨m, h, by rw [show skA t 0 a = a from rfl, show n - a = 0 by omega]⟩
  | d + 1, a, m, h, ha => by
    by_cases z : t a = 32
    · have e : skA t (d + 1) a = skA t d (a + 1) := if_pos z
      have h4 : m 4 a = 32 := by rw [h.1.2.2.2.1, ht a (by omega), z]
      have s1 : rtS m a = NM m := by
        rw [rtS_o (by rw [h4]; decide), rom_z h.2.2.2.1 (by decide) (by decide) (by omega), h4]
        exact (if_pos h.2.2.2.1).trans ((if_pos (by decide)).trans (if_pos rfl))
      have h' : QS m0 E c 0 (NM m) := ⟨h.1.tr ⟨rfl, rfl, rfl, rfl, rfl, rfl, rfl, rfl, rfl, rfl⟩, h.2⟩
      obtain ⟨m', g1, g2⟩ := RF_skip hn ht d (a + 1) (NM m) h' (by omega)
      exact ⟨m', g1, by rw [e, RF_s h.2.1, s1, g2]⟩
    · exact ⟨m, h, by rw [show skA t (d + 1) a = a from if_neg z, show n - a = d + 1 by omega]⟩
theorem rd_add {m0 m : pLV} {E : Nat → Int32} {c j a b : Nat} {st v : Int32} (h : QD m0 E c st j a v m) (hst : st = 2 ∨ st = 4) (hj : j < 4) (hb : b < 1000) : QD m0 E c st (j + 1) a (v * 10 + m 4 b - 48) (rdgM (NM m) (nI b)) := by
  obtain ⟨h1, h2, h3, h4⟩ := h
  have e : rdgM (NM m) (nI b) = rdS (NM m) (nI b) := by
    unfold rdgM rdN
    have z4 : ¬ nI j = 4 := nI_ne (a := j) (b := 4) (by omega) (by omega) (by omega)
    rw [NM_17, NM_18, h1.2.2.2.1, h2, if_neg z4]
    rcases hst with e | e <;> subst e <;> rw [if_neg (by decide), if_neg (by decide), if_neg (by decide)]
  rw [e]
  refine ⟨⟨h1.1.tr ⟨rfl, rfl, rfl, rfl, rfl, rfl, rfl, rfl, rfl, rfl⟩, h1.2⟩, ?_, h3, ?_⟩
  · show m 0 18 + 1 = _
    rw [h2, nI_1]
  · show 10 * m 0 20 + m 4 (nI b).toNatClampNeg - 48 = _
    rw [h4, nI_clamp (by omega), Int32.mul_comm]
theorem rd_first {m0 m : pLV} {E : Nat → Int32} {c b : Nat} {st : Int32} (h : QS m0 E c st m) (hst : st = 1 ∨ st = 3) (hb : b < 1000) : QD m0 E c (st + 1) 1 b (0 * 10 + m 4 b - 48) (rdgM (NM m) (nI b)) := by
  have e : rdgM (NM m) (nI b) = rdA (NM m) (nI b) := by
    unfold rdgM rdN
    rw [NM_17, NM_18, h.2.2.2.1]
    by_cases z : m 0 18 = 4
    · rcases hst with e | e
      · subst e
        rw [if_neg (by decide), if_pos z, if_neg (by decide), if_neg (by decide), if_pos rfl]
      · subst e
        rw [if_neg (by decide), if_pos z, if_neg (by decide), if_neg (by decide), if_neg (by decide), if_pos rfl]
    · rcases hst with e | e
      · subst e
        rw [if_neg (by decide), if_neg z, if_pos rfl]
      · subst e
        rw [if_neg (by decide), if_neg z, if_neg (by decide), if_pos rfl]
  rw [e]
  refine ⟨⟨h.1.tr ⟨rfl, rfl, rfl, rfl, rfl, rfl, rfl, rfl, rfl, rfl⟩, h.2.1, h.2.2.1, ?_, h.2.2.2.2⟩, rfl, rfl, ?_⟩
  · show m 0 17 + 1 = _
    rw [h.2.2.2.1]
  · show 10 * 0 + m 4 (nI b).toNatClampNeg - 48 = _
    rw [nI_clamp (by omega)]
    rfl
/-- digits are read on -/
theorem RF_dig {m0 : pLV} {E : Nat → Int32} {c n a : Nat} {st : Int32} (hst : st = 2 ∨ st = 4) {t : Nat → Int32} (hn : n ≤ 120) (ht : ∀ j, j < n → m0 4 j = t j) : ∀ s j b v m, QD m0 E c st j a v m → j + s = 4 → b ≤ n → ∃ m', QD m0 E c st (j + (dgA t n s b - b)) a (dgV t n s b v) m' ∧ RF (n - b) b m = RF (n - dgA t n s b) (dgA t n s b) m' ∧ b ≤ dgA t n s b ∧ dgA t n s b ≤ n ∧ (dgA t n s b < n → ¬ inI (t (dgA t n s b)) 48 57 = 0 → dgA t n s b = b + s)
  | 0, j, b, v, m, h, hs, hb => ⟨m, by rw [show dgA t n 0 b = b from rfl, Nat.sub_self]; exact h, rfl, Nat.le_refl _, hb, fun _ _ => rfl⟩
  | s + 1, j, b, v, m, h, hs, hb => by
    by_cases z : b < n
    · by_cases y : inI (t b) 48 57 = 0
      · have e1 : dgA t n (s + 1) b = b := (if_pos z).trans (if_pos y)
        have e2 : dgV t n (s + 1) b v = v := (if_pos z).trans (if_pos y)
        rw [e1, e2]
        exact ⟨m, by rw [Nat.sub_self]; exact h, rfl, Nat.le_refl _, hb, fun _ q => absurd y q⟩
      · have h4 : m 4 b = t b := by rw [h.1.1.2.2.2.1, ht b z]
        have e1 : dgA t n (s + 1) b = dgA t n s (b + 1) := (if_pos z).trans (if_neg y)
        have e2 : dgV t n (s + 1) b v = dgV t n s (b + 1) (v * 10 + t b - 48) := (if_pos z).trans (if_neg y)
        have h' := rd_add h hst (by omega) (show b < 1000 by omega)
        rw [h4] at h'
        obtain ⟨m', g1, g2, g3, g4, g5⟩ := RF_dig hst hn ht s (j + 1) (b + 1) _ _ h' (by omega) (by omega)
        rw [e1, e2]
        refine ⟨m', ?_, ?_, by omega, g4, fun q1 q2 => by rw [g5 q1 q2]; omega⟩
        · rw [show j + (dgA t n s (b + 1) - b) = j + 1 + (dgA t n s (b + 1) - (b + 1)) by omega]
          exact g1
        · rw [show n - b = n - (b + 1) + 1 by omega, RF_s h.1.2.1, rtS_d (by rw [h4]; exact y), g2]
    · have e1 : dgA t n (s + 1) b = b := if_neg z
      have e2 : dgV t n (s + 1) b v = v := if_neg z
      rw [e1, e2]
      exact ⟨m, by rw [Nat.sub_self]; exact h, rfl, Nat.le_refl _, hb, fun q _ => absurd q z⟩
end
