noncomputable section
/-! THE PURE MACHINE: a method's code as a list of steps in passing style over a local picture (locals, stack, cells by their places, a region of loops).
Places: k < length: the k-th cell; 100000 + 14 i + j: the j-th cell of the region's i-th loop; from 1000000 on: constant arrays. -/
abbrev pLs : Type := List (Nat × Value)
abbrev pSt : Type := List Value
abbrev pWd : Type := List va_E
abbrev pLV : Type := Nat → Nat → Int32
abbrev pRg : Type := Nat × (Nat → pLV)
abbrev pOut : Type := Option Value × pWd × pRg
abbrev pK : Type := pLs → pSt → pWd → pRg → Option pOut
abbrev pEn : Type := pLs → pSt → pWd → pRg → pK → (Nat → pK) → Option pOut
/-- a branch that unfolds by its two laws alone: it is chosen -/
theorem ex_pif : ∃ B : (R : Type) → Prop → R → R → R, ∀ (R : Type) (c : Prop) (a b : R), (c → B R c a b = a) ∧ (¬ c → B R c a b = b) :=
  ⟨fun R c a b => @ite R c (Classical.propDecidable c) a b, fun R c a b => ⟨fun h => @if_pos c (Classical.propDecidable c) h R a b, fun h => @if_neg c (Classical.propDecidable c) h R a b⟩⟩
def pifC : (R : Type) → Prop → R → R → R := Classical.choose ex_pif
abbrev pif {R : Type} (c : Prop) (a b : R) : R := pifC R c a b
theorem pif_t {R : Type} {c : Prop} {a b : R} (h : c) : pifC R c a b = a := (Classical.choose_spec ex_pif R c a b).1 h
theorem pif_f {R : Type} {c : Prop} {a b : R} (h : ¬ c) : pifC R c a b = b := (Classical.choose_spec ex_pif R c a b).2 h
theorem pif_c {R : Type} {c : Prop} {a b x : R} (ht : c → a = x) (hf : ¬ c → b = x) : pifC R c a b = x := by
  by_cases h : c
  · rw [pif_t h]; exact ht h
  · rw [pif_f h]; exact hf h
def wget : pWd → Nat → Option va_E
  | [], _ => none
  | e :: _, 0 => some e
  | _ :: w, k + 1 => wget w k
def wsetK {R : Type} : pWd → Nat → va_E → (pWd → R) → R
  | [], _, _, c => c []
  | _ :: w, 0, e, c => c (e :: w)
  | e0 :: w, k + 1, e, c => wsetK w k e (fun w' => c (e0 :: w'))
def wset (w : pWd) (k : Nat) (e : va_E) : pWd := wsetK w k e (fun w' => w')
def vget : List Value → Nat → Option Value
  | [], _ => none
  | v :: _, 0 => some v
  | _ :: l, k + 1 => vget l k
def vsetK {R : Type} : List Value → Nat → Value → (List Value → R) → R
  | [], _, _, c => c []
  | _ :: w, 0, e, c => c (e :: w)
  | e0 :: w, k + 1, e, c => vsetK w k e (fun w' => c (e0 :: w'))
def lget : pLs → Nat → Option Value
  | [], _ => none
  | q :: l, i => match Nat.beq q.1 i with
    | true => some q.2
    | false => lget l i
def lremK {R : Type} : pLs → Nat → (pLs → R) → R
  | [], _, c => c []
  | q :: l, i, c => match Nat.beq q.1 i with
    | true => lremK l i c
    | false => match Nat.beq q.2.category 2 with
      | true => lremK l i c
      | false => lremK l i (fun l' => c (q :: l'))
/-- locals hold no long in what is walked: every value is of one slot -/
def p1 : Value → Bool
  | .int _ => true
  | .ref _ => true
  | _ => false
-- the steps
def oConst (v : Int32) : pEn := fun ls st w rg k _ => k ls (.int v :: st) w rg
def oIload (i : Nat) : pEn := fun ls st w rg k _ => match lget ls i with
  | some (.int x) => k ls (.int x :: st) w rg
  | _ => none
def oAload (i : Nat) : pEn := fun ls st w rg k _ => match lget ls i with
  | some (.ref x) => k ls (.ref x :: st) w rg
  | _ => none
def oIstore (i : Nat) : pEn := fun ls st w rg k _ => match st with
  | .int x :: st' => lremK ls i (fun ls' => k ((i, .int x) :: ls') st' w rg)
  | _ => none
def oAstore (i : Nat) : pEn := fun ls st w rg k _ => match st with
  | .ref x :: st' => lremK ls i (fun ls' => k ((i, .ref x) :: ls') st' w rg)
  | _ => none
def oIinc (i : Nat) (n : Int32) : pEn := fun ls st w rg k _ => match lget ls i with
  | some (.int x) => lremK ls i (fun ls' => k ((i, .int (x + n)) :: ls') st w rg)
  | _ => none
def oAdd : pEn := fun ls st w rg k _ => match st with
  | .int y :: .int x :: st' => k ls (.int (x + y) :: st') w rg
  | _ => none
def oSub : pEn := fun ls st w rg k _ => match st with
  | .int y :: .int x :: st' => k ls (.int (x - y) :: st') w rg
  | _ => none
def oMul : pEn := fun ls st w rg k _ => match st with
  | .int y :: .int x :: st' => k ls (.int (x * y) :: st') w rg
  | _ => none
def oAnd : pEn := fun ls st w rg k _ => match st with
  | .int y :: .int x :: st' => k ls (.int (x &&& y) :: st') w rg
  | _ => none
def oOr : pEn := fun ls st w rg k _ => match st with
  | .int y :: .int x :: st' => k ls (.int (x ||| y) :: st') w rg
  | _ => none
def oDiv : pEn := fun ls st w rg k _ => match st with
  | .int y :: .int x :: st' => pif (y = 0) (none) (k ls (.int (x / y) :: st') w rg)
  | _ => none
/-- by a written number -/
def oDivL : pEn := fun ls st w rg k _ => match st with
  | .int y :: .int x :: st' => match decide (y = 0) with
    | true => none
    | false => k ls (.int (x / y) :: st') w rg
  | _ => none
def oShl : pEn := fun ls st w rg k _ => match st with
  | .int y :: .int x :: st' => k ls (.int (x <<< (y &&& 31)) :: st') w rg
  | _ => none
def oShr : pEn := fun ls st w rg k _ => match st with
  | .int y :: .int x :: st' => k ls (.int (x >>> (y &&& 31)) :: st') w rg
  | _ => none
def oI2l : pEn := fun ls st w rg k _ => match st with
  | .int x :: st' => k ls (.long x.toInt64 :: st') w rg
  | _ => none
def oL2i : pEn := fun ls st w rg k _ => match st with
  | .long x :: st' => k ls (.int x.toInt32 :: st') w rg
  | _ => none
def oLmul : pEn := fun ls st w rg k _ => match st with
  | .long y :: .long x :: st' => k ls (.long (x * y) :: st') w rg
  | _ => none
def oLdiv : pEn := fun ls st w rg k _ => match st with
  | .long y :: .long x :: st' => pif (y = 0) (none) (k ls (.long (x / y) :: st') w rg)
  | _ => none
def oDup : pEn := fun ls st w rg k _ => match st with
  | .int x :: st' => k ls (.int x :: .int x :: st') w rg
  | .ref x :: st' => k ls (.ref x :: .ref x :: st') w rg
  | _ => none
def oPop : pEn := fun ls st w rg k _ => match st with
  | .int _ :: st' => k ls st' w rg
  | .ref _ :: st' => k ls st' w rg
  | _ => none
/-- two of one slot each: an int over a reference -/
def oDup2 : pEn := fun ls st w rg k _ => match st with
  | .int x :: .ref y :: st' => k ls (.int x :: .ref y :: .int x :: .ref y :: st') w rg
  | _ => none
def oGoto (t : Nat) : pEn := fun ls st w rg _ j => j t ls st w rg
def oIfeq (t : Nat) : pEn := fun ls st w rg k j => match st with
  | .int x :: st' => pif (x = 0) (j t ls st' w rg) (k ls st' w rg)
  | _ => none
def oIfne (t : Nat) : pEn := fun ls st w rg k j => match st with
  | .int x :: st' => pif (x = 0) (k ls st' w rg) (j t ls st' w rg)
  | _ => none
def oIflt (t : Nat) : pEn := fun ls st w rg k j => match st with
  | .int x :: st' => pif (x < 0) (j t ls st' w rg) (k ls st' w rg)
  | _ => none
def oIfge (t : Nat) : pEn := fun ls st w rg k j => match st with
  | .int x :: st' => pif (0 ≤ x) (j t ls st' w rg) (k ls st' w rg)
  | _ => none
def oIfgt (t : Nat) : pEn := fun ls st w rg k j => match st with
  | .int x :: st' => pif (0 < x) (j t ls st' w rg) (k ls st' w rg)
  | _ => none
def oIfle (t : Nat) : pEn := fun ls st w rg k j => match st with
  | .int x :: st' => pif (x ≤ 0) (j t ls st' w rg) (k ls st' w rg)
  | _ => none
def oCeq (t : Nat) : pEn := fun ls st w rg k j => match st with
  | .int y :: .int x :: st' => pif (x = y) (j t ls st' w rg) (k ls st' w rg)
  | _ => none
def oCne (t : Nat) : pEn := fun ls st w rg k j => match st with
  | .int y :: .int x :: st' => pif (x = y) (k ls st' w rg) (j t ls st' w rg)
  | _ => none
def oClt (t : Nat) : pEn := fun ls st w rg k j => match st with
  | .int y :: .int x :: st' => pif (x < y) (j t ls st' w rg) (k ls st' w rg)
  | _ => none
def oCge (t : Nat) : pEn := fun ls st w rg k j => match st with
  | .int y :: .int x :: st' => pif (y ≤ x) (j t ls st' w rg) (k ls st' w rg)
  | _ => none
def oCgt (t : Nat) : pEn := fun ls st w rg k j => match st with
  | .int y :: .int x :: st' => pif (y < x) (j t ls st' w rg) (k ls st' w rg)
  | _ => none
def oCle (t : Nat) : pEn := fun ls st w rg k j => match st with
  | .int y :: .int x :: st' => pif (x ≤ y) (j t ls st' w rg) (k ls st' w rg)
  | _ => none
def swK {R : Type} (x : Int32) : List (Int32 × Nat) → Nat → (Nat → R) → R
  | [], d, c => c d
  | q :: l, d, c => pif (x = q.1) (c q.2) (swK x l d c)
def oSw (keys : List (Int32 × Nat)) (d : Nat) : pEn := fun ls st w rg _ j => match st with
  | .int x :: st' => swK x keys d (fun t => j t ls st' w rg)
  | _ => none
/-- ifnull of a reference: it isn't -/
def oNonnull : pEn := fun ls st w rg k _ => match st with
  | .ref _ :: st' => k ls st' w rg
  | _ => none
def oGet (ci f : Nat) : pEn := fun ls st w rg k _ => match st with
  | .ref a :: st' => match wget w a with
    | some (.inr (c, fs)) => match Nat.beq c ci with
      | true => match vget fs f with
        | some v => k ls (v :: st') w rg
        | none => none
      | false => none
    | _ => none
  | _ => none
/-- an int is put -/
def oPut (ci f : Nat) : pEn := fun ls st w rg k _ => match st with
  | .int v :: .ref a :: st' => match wget w a with
    | some (.inr (c, fs)) => match Nat.beq c ci with
      | true => match Nat.blt f fs.length with
        | true => vsetK fs f (.int v) (fun fs' => wsetK w a (.inr (ci, fs')) (fun w' => k ls st' w' rg))
        | false => none
      | false => none
    | _ => none
  | _ => none
/-- a truth is put: 0 or 1 -/
def oPutB (ci f : Nat) : pEn := fun ls st w rg k _ => match st with
  | .int v :: .ref a :: st' => match wget w a with
    | some (.inr (c, fs)) => match Nat.beq c ci with
      | true => match Nat.blt f fs.length with
        | true => pif (v = 0 ∨ v = 1) (vsetK fs f (.int v) (fun fs' => wsetK w a (.inr (ci, fs')) (fun w' => k ls st' w' rg))) (none)
        | false => none
      | false => none
    | _ => none
  | _ => none
/-- the constant arrays -/
def cget (a : Nat) : Option (List Int32) := match Nat.beq a 1000000 with
  | true => some [40, 960, 500, 300, 30, 3, 10, 500, 5]
  | false => match Nat.beq a 1000001 with
    | true => some [0, 0, 0, 0, 1, 0, 0, 0, 0]
    | false => match Nat.beq a 1000002 with
      | true => some [200, 5000, 2000, 1000, 100, 8, 50, 2000, 20]
      | false => none
def oAlen : pEn := fun ls st w rg k _ => match st with
  | .ref a :: st' => match wget w a with
    | some (.inl (0, n, .inl _)) => k ls (.int (Int32.ofNat n) :: st') w rg
    | none => match cget a with
      | some _ => k ls (.int 9 :: st') w rg
      | none => none
    | _ => none
  | _ => none
def oIald : pEn := fun ls st w rg k _ => match st with
  | .int i :: .ref a :: st' => match wget w a with
    | some (.inl (0, n, .inl f)) => pif (i < 0 ∨ n ≤ i.toNatClampNeg) none (k ls (.int (f i.toNatClampNeg) :: st') w rg)
    | none => match cget a with
      | some l => pif (i < 0 ∨ 9 ≤ i.toNatClampNeg) none (k ls (.int (l.getD i.toNatClampNeg 0) :: st') w rg)
      | none => none
    | _ => none
  | _ => none
/-- at a written place -/
def oIaldN (n0 : Nat) : pEn := fun ls st w rg k _ => match st with
  | .int i :: .ref a :: st' => match decide (i.toInt = (n0 : Int)) with
    | true => match wget w a with
      | some (.inl (0, n, .inl f)) => match Nat.blt n0 n with
        | true => k ls (.int (f n0) :: st') w rg
        | false => none
      | _ => none
    | false => none
  | _ => none
/-- at one of some written places -/
def pickK {R : Type} (i : Int32) : List Nat → (Nat → Option R) → Option R
  | [], _ => none
  | n :: l, c => match decide (i.toInt = (n : Int)) with
    | true => c n
    | false => pickK i l c
def oIaldP (ps : List Nat) : pEn := fun ls st w rg k _ => match st with
  | .int i :: .ref a :: st' => pickK i ps (fun n0 => match wget w a with
    | some (.inl (0, n, .inl f)) => match Nat.blt n0 n with
      | true => k ls (.int (f n0) :: st') w rg
      | false => none
    | _ => none)
  | _ => none
def oIastP (ps : List Nat) : pEn := fun ls st w rg k _ => match st with
  | .int x :: .int i :: .ref a :: st' => pickK i ps (fun n0 => match wget w a with
    | some (.inl (0, n, .inl f)) => match Nat.blt n0 n with
      | true => wsetK w a (.inl (0, n, .inl (upd f n0 x))) (fun w' => k ls st' w' rg)
      | false => none
    | _ => none)
  | _ => none
def oIast : pEn := fun ls st w rg k _ => match st with
  | .int x :: .int i :: .ref a :: st' => match wget w a with
    | some (.inl (0, n, .inl f)) => pif (i < 0 ∨ n ≤ i.toNatClampNeg) none (wsetK w a (.inl (0, n, .inl (upd f i.toNatClampNeg x))) (fun w' => k ls st' w' rg))
    | _ => none
  | _ => none
def oIastN (n0 : Nat) : pEn := fun ls st w rg k _ => match st with
  | .int x :: .int i :: .ref a :: st' => match decide (i.toInt = (n0 : Int)) with
    | true => match wget w a with
      | some (.inl (0, n, .inl f)) => match Nat.blt n0 n with
        | true => wsetK w a (.inl (0, n, .inl (upd f n0 x))) (fun w' => k ls st' w' rg)
        | false => none
      | _ => none
    | false => none
  | _ => none
def oIret : pEn := fun _ st w rg _ _ => match st with
  | [.int v] => some (some (.int v), w, rg)
  | _ => none
def oZret : pEn := fun _ st w rg _ _ => match st with
  | [.int v] => pif (v = 0 ∨ v = 1) (some (some (.int v), w, rg)) (none)
  | _ => none
def oVret : pEn := fun _ st w rg _ _ => match st with
  | [] => some (none, w, rg)
  | _ => none
def oAret : pEn := fun _ st w rg _ _ => match st with
  | [.ref v] => some (some (.ref v), w, rg)
  | _ => none
/-- Math.min, Math.max -/
def oMin : pEn := fun ls st w rg k _ => match st with
  | .int y :: .int x :: st' => match Nat.blt st'.length 5 with
    | true => k ls (.int (if y < x then y else x) :: st') w rg
    | false => none
  | _ => none
def oMax : pEn := fun ls st w rg k _ => match st with
  | .int y :: .int x :: st' => match Nat.blt st'.length 5 with
    | true => k ls (.int (if x < y then y else x) :: st') w rg
    | false => none
  | _ => none
def blk (j : Nat → pK) : List pEn → pK
  | [], _, _, _, _ => none
  | e :: cd, ls, st, w, rg => e ls st w rg (blk j cd) j
def ex (code : List pEn) : Nat → Nat → pK
  | 0, _, _, _, _, _ => none
  | n + 1, i, ls, st, w, rg => blk (ex code n) (code.drop i) ls st w rg
end
