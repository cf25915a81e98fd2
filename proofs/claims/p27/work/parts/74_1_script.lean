noncomputable section
/-! THE LAW'S OWN STEPS: the script -/
/-- the script stands at the place 2000000, outside what is walked -/
def pSX (s : State) (α : Nat → Nat) (A : Nat → Prop) (L : Nat) (xs : Nat → Int32) : Prop := va_X (α 2000000) L xs s s.heap ∧ α 2000000 < s.heap.size ∧ ¬ A (α 2000000)
def EOKl (L : Nat) (xs : Nat → Int32) (l : Launch) (cc : ByteArray) (own : String) (nL : Nat) (ret : Option FieldType) (R : Room) (cap : Nat) (pcOf : Nat → Nat) (i : Nat) (en : pEn) : Prop :=
  ∀ (p : Program) (e : Env) (s : State) (m : MethodId) (args : Array Value) (below : List Frame) (meth : Method) (c : Code) (D : va_G) (κ : pKap) (α : Nat → Nat) (A : Nat → Prop) (sz L0 Lm r : Nat) (Qc : Array Value → State → Outcome → State → Prop) (out : pOut),
    pSX s α A L xs → pCx cc own nL ret R cap p s m args meth c D κ α A sz L0 Lm r → pRet s args D κ α A sz L0 Qc out → ∀ (ls : pLs) (st : pSt) (w : pWd) (rg : pRg) (k : pK) (j : Nat → pK), en ls st w rg k j = some out →
    (∀ ls' st' w' rg', k ls' st' w' rg' = some out → pWW p l e R s m args below meth c D κ α A sz L0 Lm r nL (pMQ below Qc args s A L0 out) (pcOf (i + 1)) ls' st' w' rg') →
    (∀ i' ls' st' w' rg', j i' ls' st' w' rg' = some out → pWW p l e R s m args below meth c D κ α A sz L0 Lm r nL (pMQ below Qc args s A L0 out) (pcOf i') ls' st' w' rg') →
    pWW p l e R s m args below meth c D κ α A sz L0 Lm r nL (pMQ below Qc args s A L0 out) (pcOf i) ls st w rg
theorem EOK.l {L : Nat} {xs : Nat → Int32} {l : Launch} {cc : ByteArray} {own : String} {nL : Nat} {ret : Option FieldType} {R : Room} {cap : Nat} {pcOf : Nat → Nat} {i : Nat} {en : pEn} (h : EOK l cc own nL ret R cap pcOf i en) : EOKl L xs l cc own nL ret R cap pcOf i en := fun p e s m args below meth c D κ α A sz L0 Lm r Qc out _ => h p e s m args below meth c D κ α A sz L0 Lm r Qc out
section PM
variable {p : Program} {l : Launch} {e : Env} {R : Room} {s : State} {m : MethodId} {args : Array Value} {below : List Frame} {meth : Method} {c : Code}
variable {cc : ByteArray} {own : String} {nL cap : Nat} {ret : Option FieldType} {pcOf : Nat → Nat} {L : Nat} {xs : Nat → Int32}
theorem blk_soundl {code : List pEn} (hc : ∀ (i : Nat) (en : pEn), code[i]? = some en → EOKl L xs l cc own nL ret R cap pcOf i en) {D : va_G} {κ : pKap} {α : Nat → Nat} {A : Nat → Prop} {sz L0 Lm r : Nat} {Qc : Array Value → State → Outcome → State → Prop} {out : pOut} (hnm : pSX s α A L xs)
    (C : pCx cc own nL ret R cap p s m args meth c D κ α A sz L0 Lm r) (hR : pRet s args D κ α A sz L0 Qc out) {j : Nat → pK}
    (hj : ∀ i' ls' st' w' rg', j i' ls' st' w' rg' = some out → pWW p l e R s m args below meth c D κ α A sz L0 Lm r nL (pMQ below Qc args s A L0 out) (pcOf i') ls' st' w' rg') :
    ∀ (cd : List pEn) (i : Nat), cd = code.drop i → ∀ ls st w rg, blk j cd ls st w rg = some out → pWW p l e R s m args below meth c D κ α A sz L0 Lm r nL (pMQ below Qc args s A L0 out) (pcOf i) ls st w rg := by
  intro cd
  induction cd with
  | nil => intro i _ ls st w rg h; cases h
  | cons en cd ih =>
    intro i hcd ls st w rg h
    have h1 : code[i]? = some en := by
      have : (code.drop i)[0]? = some en := by rw [← hcd]; rfl
      rw [List.getElem?_drop] at this
      simpa using this
    have h2 : cd = code.drop (i + 1) := by
      have : (code.drop i).drop 1 = cd := by rw [← hcd]; rfl
      rw [List.drop_drop] at this
      exact this.symm
    exact hc i en h1 p e s m args below meth c D κ α A sz L0 Lm r Qc out hnm C hR ls st w rg (blk j cd) j h (fun ls' st' w' rg' h' => ih (i + 1) h2 ls' st' w' rg' h') hj
theorem ex_soundl {code : List pEn} (hc : ∀ (i : Nat) (en : pEn), code[i]? = some en → EOKl L xs l cc own nL ret R cap pcOf i en) {D : va_G} {κ : pKap} {α : Nat → Nat} {A : Nat → Prop} {sz L0 Lm r : Nat} {Qc : Array Value → State → Outcome → State → Prop} {out : pOut} (hnm : pSX s α A L xs)
    (C : pCx cc own nL ret R cap p s m args meth c D κ α A sz L0 Lm r) (hR : pRet s args D κ α A sz L0 Qc out) :
    ∀ (n i : Nat) (ls : pLs) (st : pSt) (w : pWd) (rg : pRg), ex code n i ls st w rg = some out → pWW p l e R s m args below meth c D κ α A sz L0 Lm r nL (pMQ below Qc args s A L0 out) (pcOf i) ls st w rg := by
  intro n
  induction n with
  | zero => intro i ls st w rg h; cases h
  | succ n ih =>
    intro i ls st w rg h
    exact blk_soundl hc hnm C hR (fun i' ls' st' w' rg' h' => ih i' ls' st' w' rg' h') _ i rfl ls st w rg h
end PM
/-- the script's length -/
def oSlen (L : Nat) : pEn := fun ls st w rg k _ => match st with
  | .ref x :: st' => (match Nat.beq x 2000000 with
    | true => k ls (.int (Int32.ofNat L) :: st') w rg
    | false => none)
  | _ => none
/-- a place of the script -/
def oSld (L : Nat) (xs : Nat → Int32) : pEn := fun ls st w rg k _ => match st with
  | .int i :: .ref x :: st' => (match Nat.beq x 2000000 with
    | true => pif (vp_in i L) (k ls (.int (xs i.toNatClampNeg) :: st') w rg) none
    | false => none)
  | _ => none
section ST
variable {l : Launch} {R : Room} {cc : ByteArray} {own : String} {nL cap : Nat} {ret : Option FieldType} {pcOf : Nat → Nat} {i : Nat} {L : Nat} {xs : Nat → Int32}
theorem okSlen (hd : decode cc (pcOf i) = .ok (.arraylength, 1)) (hp : pcOf (i + 1) = pcOf i + 1) : EOKl L xs l cc own nL ret R cap pcOf i (oSlen L) := by
  intro p e s m args below meth c D κ α A sz L0 Lm r Qc out hX C hR ls st w rg k j h hk hj H locs lsA hP hz h0 h1 hr hS hl
  obtain ⟨hx, hb, hml, hown, hts, hret, hlk, hKE, hA, hin, hAk, hfr, hLm⟩ := id C
  unfold oSlen at h
  split at h
  next x st' =>
    split at h
    next hq =>
      have hq := Nat.eq_of_beq_eq_true hq
      subst hq
      have g := hk _ _ _ _ h H locs lsA hP hz h0 h1 hr hS hl
      rw [hp] at g
      exact va_slen hx hb hX.1 hX.2.1 hX.2.2 hS hd g
    next => cases h
  next => cases h
theorem okSld (hd : decode cc (pcOf i) = .ok (.iaload, 1)) (hp : pcOf (i + 1) = pcOf i + 1) : EOKl L xs l cc own nL ret R cap pcOf i (oSld L xs) := by
  intro p e s m args below meth c D κ α A sz L0 Lm r Qc out hX C hR ls st w rg k j h hk hj H locs lsA hP hz h0 h1 hr hS hl
  obtain ⟨hx, hb, hml, hown, hts, hret, hlk, hKE, hA, hin, hAk, hfr, hLm⟩ := id C
  unfold oSld at h
  split at h
  next y x st' =>
    split at h
    next hq =>
      have hq := Nat.eq_of_beq_eq_true hq
      subst hq
      by_cases hv : vp_in y L
      · have h := (pif_t hv).symm.trans h
        have g := hk _ _ _ _ h H locs lsA hP hz h0 h1 hr hS hl
        rw [hp] at g
        exact va_sld hx hb hX.1 hX.2.1 hX.2.2 hS hv hd g
      · have h := (pif_f hv).symm.trans h
        cases h
    next => cases h
  next => cases h
end ST
end
