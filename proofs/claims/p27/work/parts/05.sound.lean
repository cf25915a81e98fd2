noncomputable section
/-! THE PURE MACHINE IS SOUND: a picture of the heap by places; one theorem a step; a method's contract out of its pure run. -/
/-- the kinds of arrays: 0 of ints, else of loops -/
abbrev pKap : Type := Nat → ClassId
def cv (α : Nat → Nat) : Value → Value
  | .ref k => .ref (α k)
  | v => v
def ca (α : Nat → Nat) : vp_A → vp_A
  | (n, .inr (.inr (.inr (.inr f)))) => (n, .inr (.inr (.inr (.inr (fun i => (f i).map α)))))
  | x => x
def ce (κ : pKap) (α : Nat → Nat) : va_E → va_E
  | .inl (c, x) => .inl (κ c, ca α x)
  | .inr (i, fs) => .inr (i, fs.map (cv α))
theorem cv_cat (α : Nat → Nat) (v : Value) : (cv α v).category = v.category := by cases v <;> rfl
/-- the cells of a loop that stands at the place b: it, its four chests, its account with the paper, its controller with the measurements, its schedule with three rows, its settings -/
def loopCells (b : Nat) (v : pLV) : pWd :=
  [.inr (5, [.int (v 0 0), .int (v 0 1), .int (v 0 2), .int (v 0 3), .int (v 0 4), .int (v 0 5), .int (v 0 6), .ref (b + 1), .ref (b + 2), .ref (b + 3), .ref (b + 4), .ref (b + 5), .ref (b + 7), .ref (b + 9), .ref (b + 13)]),
   .inr (1, [.int (v 0 30), .int (v 0 10), .int (v 0 11), .int (v 0 12)]),
   .inr (1, [.int (v 0 31), .int (v 0 13), .int (v 0 14), .int (v 0 15)]),
   .inr (1, [.int (v 0 32), .int (v 0 16), .int (v 0 17), .int (v 0 18)]),
   .inr (1, [.int (v 0 33), .int (v 0 19), .int (v 0 20), .int (v 0 21)]),
   .inr (0, [.int (v 0 22), .int (v 0 23), .int (v 0 24), .int (v 0 25), .int (v 0 26), .ref (b + 6)]),
   .inl (0, 4, .inl (v 2)),
   .inr (2, [.int (v 0 27), .ref (b + 8), .int (v 0 28)]),
   .inl (0, 9, .inl (v 3)),
   .inr (7, [.ref (b + 10), .ref (b + 11), .ref (b + 12), .int (v 0 29)]),
   .inl (0, 20, .inl (v 4)), .inl (0, 20, .inl (v 5)), .inl (0, 20, .inl (v 6)),
   .inl (0, 9, .inl (v 1))]
def rgCell (rg : pRg) (k : Nat) : Option va_E := if 100000 ≤ k ∧ k < 100000 + 14 * rg.1 then wget (loopCells (100000 + 14 * ((k - 100000) / 14)) (rg.2 ((k - 100000) / 14))) ((k - 100000) % 14) else none
def cellOf (w : pWd) (rg : pRg) (k : Nat) : Option va_E := match wget w k with
  | some e => some e
  | none => rgCell rg k
def pDm (n r k : Nat) : Prop := k < n ∨ (100000 ≤ k ∧ k < 100000 + 14 * r)
theorem wget_lt : ∀ {w : pWd} {k : Nat} {e : va_E}, wget w k = some e → k < w.length
  | [], _, _, h => by cases h
  | _ :: _, 0, _, _ => by simp
  | _ :: w, k + 1, e, h => by
    have := wget_lt (w := w) (k := k) (e := e) h
    simp; omega
theorem wget_ex : ∀ {w : pWd} {k : Nat}, k < w.length → ∃ e, wget w k = some e
  | [], _, h => by simp at h
  | e :: _, 0, _ => ⟨e, rfl⟩
  | _ :: w, k + 1, h => wget_ex (w := w) (k := k) (by simp at h; omega)
theorem wget_none {w : pWd} {k : Nat} (h : w.length ≤ k) : wget w k = none := by
  cases e : wget w k with
  | none => rfl
  | some x => exact absurd (wget_lt e) (by omega)
theorem wsetK_eq {R : Type} : ∀ (w : pWd) (k : Nat) (e : va_E) (c : pWd → R), wsetK w k e c = c (wset w k e)
  | [], _, _, _ => rfl
  | _ :: _, 0, _, _ => rfl
  | e0 :: w, k + 1, e, c => by
    show wsetK w k e (fun w' => c (e0 :: w')) = c (wsetK w k e (fun w' => e0 :: w'))
    rw [wsetK_eq w k e, wsetK_eq w k e]
theorem wset_cons (e0 : va_E) (w : pWd) (k : Nat) (e : va_E) : wset (e0 :: w) (k + 1) e = e0 :: wset w k e := by
  show wsetK w k e (fun w' => e0 :: w') = _
  rw [wsetK_eq]
theorem wset_len : ∀ (w : pWd) (k : Nat) (e : va_E), (wset w k e).length = w.length
  | [], _, _ => rfl
  | _ :: _, 0, _ => rfl
  | e0 :: w, k + 1, e => by rw [wset_cons]; simp [wset_len w k e]
theorem wget_wset : ∀ {w : pWd} {a : Nat} {e0 : va_E} (e : va_E) (k : Nat), wget w a = some e0 → wget (wset w a e) k = if k = a then some e else wget w k
  | [], _, _, _, _, h => by cases h
  | _ :: _, 0, _, e, 0, _ => rfl
  | _ :: _, 0, _, e, k + 1, _ => rfl
  | x :: w, a + 1, e0, e, 0, _ => by rw [wset_cons]; rfl
  | x :: w, a + 1, e0, e, k + 1, h => by
    rw [wset_cons]
    show wget (wset w a e) k = if k + 1 = a + 1 then some e else wget w k
    rw [wget_wset (w := w) e k h]
    simp
theorem vsetK_eq {R : Type} : ∀ (w : List Value) (k : Nat) (e : Value) (c : List Value → R), vsetK w k e c = c (w.set k e)
  | [], _, _, _ => rfl
  | _ :: _, 0, _, _ => rfl
  | e0 :: w, k + 1, e, c => by
    show vsetK w k e (fun w' => c (e0 :: w')) = _
    rw [vsetK_eq w k e]; rfl
theorem vget_eq : ∀ (l : List Value) (k : Nat), vget l k = l[k]?
  | [], _ => rfl
  | _ :: _, 0 => rfl
  | _ :: l, k + 1 => by
    show vget l k = _
    rw [vget_eq l k]; rfl
theorem lget_mem : ∀ {l : pLs} {i : Nat} {v : Value}, lget l i = some v → (i, v) ∈ l
  | [], _, _, h => by cases h
  | q :: l, i, v, h => by
    unfold lget at h
    split at h
    next hb =>
      cases h
      have : q.1 = i := Nat.eq_of_beq_eq_true hb
      subst this
      exact List.mem_cons_self
    next => exact List.mem_cons_of_mem _ (lget_mem h)
def lrem (l : pLs) (i : Nat) : pLs := lremK l i (fun l' => l')
theorem lremK_eq {R : Type} : ∀ (l : pLs) (i : Nat) (c : pLs → R), lremK l i c = c (lrem l i)
  | [], _, _ => rfl
  | q :: l, i, c => by
    unfold lrem lremK
    split
    · exact lremK_eq l i c
    · split
      · exact lremK_eq l i c
      · rw [lremK_eq l i (fun l' => c (q :: l')), lremK_eq l i (fun l' => q :: l')]
theorem lrem_mem : ∀ {l : pLs} {i : Nat} {q : Nat × Value}, q ∈ lrem l i → q ∈ l ∧ ¬ q.1 = i ∧ ¬ q.2.category = 2
  | [], _, _, h => by cases h
  | x :: l, i, q, h => by
    unfold lrem lremK at h
    split at h
    next =>
      have := lrem_mem (l := l) (i := i) (q := q) h
      exact ⟨List.mem_cons_of_mem _ this.1, this.2⟩
    next hb =>
      split at h
      next =>
        have := lrem_mem (l := l) (i := i) (q := q) h
        exact ⟨List.mem_cons_of_mem _ this.1, this.2⟩
      next hb2 =>
        rw [lremK_eq] at h
        rcases List.mem_cons.mp h with rfl | h
        · exact ⟨List.mem_cons_self, fun e => (by rw [e] at hb; rw [Nat.beq_refl] at hb; cases hb), fun e => (by rw [e] at hb2; cases hb2)⟩
        · have := lrem_mem (l := l) (i := i) (q := q) h
          exact ⟨List.mem_cons_of_mem _ this.1, this.2⟩
theorem cellOf_get {w : pWd} {rg : pRg} {k : Nat} {e : va_E} (h : wget w k = some e) : cellOf w rg k = some e := by simp [cellOf, h]
theorem cellOf_dom {w : pWd} {rg : pRg} {k : Nat} {e : va_E} (h : cellOf w rg k = some e) : pDm w.length rg.1 k := by
  unfold cellOf at h
  split at h
  next e' h' => exact Or.inl (wget_lt h')
  next =>
    unfold rgCell at h
    split at h
    next hh => exact Or.inr hh
    next => cases h
theorem cellOf_set {w : pWd} {rg : pRg} {a : Nat} {e0 : va_E} (e : va_E) (k : Nat) (h : wget w a = some e0) : cellOf (wset w a e) rg k = if k = a then some e else cellOf w rg k := by
  unfold cellOf
  rw [wget_wset e k h]
  by_cases hk : k = a
  · simp [hk]
  · simp [hk]
def HP (D : va_G) (κ : pKap) (α : Nat → Nat) (h : Nat → Option va_E) (H : Heap) : Prop := ∀ (k : Nat) (e : va_E), h k = some e → va_at D vwCl (α k, ce κ α e) H
def pInj (α : Nat → Nat) (n r : Nat) : Prop := ∀ k k', pDm n r k → pDm n r k' → α k = α k' → k = k'
theorem HP.put {D : va_G} {κ : pKap} {α : Nat → Nat} {w : pWd} {rg : pRg} {H H1 : Heap} {a n : Nat} {e0 e1 : va_E} (hP : HP D κ α (cellOf w rg) H) (hn : w.length ≤ n) (hi : pInj α n rg.1) (ha : wget w a = some e0) (h1 : va_at D vwCl (α a, ce κ α e1) H1) (oq : ∀ q : Nat, q ≠ α a → H1[q]? = H[q]?) : HP D κ α (cellOf (wset w a e1) rg) H1 := by
  intro k e hk
  rw [cellOf_set e1 k ha] at hk
  by_cases hka : k = a
  · rw [if_pos hka] at hk
    cases hk
    rw [hka]; exact h1
  · rw [if_neg hka] at hk
    refine (hP k e hk).kept (oq _ fun q => hka ?_)
    have d1 : pDm n rg.1 k := by
      rcases cellOf_dom hk with h | h
      · exact Or.inl (by omega)
      · exact Or.inr h
    exact hi k a d1 (Or.inl (Nat.lt_of_lt_of_le (wget_lt ha) hn)) q
/-- the arrays' classes -/
abbrev pTys (κ : pKap) : List (ClassId × FieldType) := [(κ 0, .int), (κ 1, .object "BrokeLoop$Loop")]
def nestW : List Cond := [.methodLinkNest "BrokeLoop$Loop" 53 ⟨"BrokeLoop$Account", "<init>", "()V"⟩ "BrokeLoop", .methodLinkNest "BrokeLoop$Loop" 60 ⟨"BrokeLoop$Controller", "<init>", "()V"⟩ "BrokeLoop", .methodLinkNest "BrokeLoop$Loop" 67 ⟨"BrokeLoop$Schedule", "<init>", "()V"⟩ "BrokeLoop", .fieldLinkNest "BrokeLoop$Loop" 76 "BrokeLoop" "FIRST_VALUE" "[I" "BrokeLoop", .methodLinkNest "BrokeLoop$Loop" 79 ⟨"BrokeLoop", "copyNumbers", "([I[I)V"⟩ "BrokeLoop", .methodLinkNest "BrokeLoop" 28 ⟨"BrokeLoop$Image", "<init>", "()V"⟩ "BrokeLoop", .methodLinkNest "BrokeLoop" 46 ⟨"BrokeLoop$Reader", "<init>", "()V"⟩ "BrokeLoop", .methodLinkNest "BrokeLoop$Reader" 11 ⟨"BrokeLoop$Schedule", "<init>", "()V"⟩ "BrokeLoop", .methodLinkNest "BrokeLoop$Account" 31 ⟨"BrokeLoop", "copyNumbers", "([I[I)V"⟩ "BrokeLoop", .methodLinkNest "BrokeLoop$Controller" 22 ⟨"BrokeLoop", "copyNumbers", "([I[I)V"⟩ "BrokeLoop", .methodLinkNest "BrokeLoop$Schedule" 25 ⟨"BrokeLoop", "copyNumbers", "([I[I)V"⟩ "BrokeLoop"]
def pKN0 (U : State) : Prop := ∀ w ∈ nestW, va_Nw w U
theorem pKN0.warm {s U : State} (hW : s.WarmedH U.vm) (h : pKN0 s) : pKN0 U := by
  intro w hw
  have h0 := h w hw
  simp only [nestW, List.mem_cons, List.not_mem_nil, or_false] at hw
  rcases hw with rfl | rfl | rfl | rfl | rfl | rfl | rfl | rfl | rfl | rfl | rfl <;> first | exact h0.warmM hW | exact h0.warmF hW
theorem pKN0.same {s U : State} (hW : s.vm = U.vm) (h : pKN0 s) : pKN0 U := by
  intro w hw
  have h0 := h w hw
  simp only [nestW, List.mem_cons, List.not_mem_nil, or_false] at hw
  rcases hw with rfl | rfl | rfl | rfl | rfl | rfl | rfl | rfl | rfl | rfl | rfl <;> exact h0.same rfl hW
/-- .. and the rows of loops can be made -/
def pKN (U : State) : Prop := pKN0 U ∧ va_AO "BrokeLoop$Loop" U
theorem pKN.warm {s U : State} (hW : s.WarmedH U.vm) (h : pKN s) : pKN U := ⟨h.1.warm hW, va_AO.moved hW.alike h.2⟩
theorem pKN.same {s U : State} (hW : s.vm = U.vm) (h : pKN s) : pKN U := ⟨h.1.same hW, va_AO.moved (by rw [hW]; exact Vm.Alike.refl _) h.2⟩
def pStat : List (String × Nat × List Int32) := [("FIRST_VALUE", 1000000, [40, 960, 500, 300, 30, 3, 10, 500, 5]), ("LEAST_VALUE", 1000001, [0, 0, 0, 0, 1, 0, 0, 0, 0]), ("MOST_VALUE", 1000002, [200, 5000, 2000, 1000, 100, 8, 50, 2000, 20])]
def pKT (α : Nat → Nat) (A : Nat → Prop) (U : State) (H : Heap) : Prop := ∀ q ∈ pStat, va_Z "BrokeLoop" q.1 "[I" (.ref (α q.2.1)) A U H ∧ va_T .int (α q.2.1) 9 (fun j => .int (q.2.2.getD j 0)) A U H
def pKE (D : va_G) (κ : pKap) (α : Nat → Nat) (A : Nat → Prop) (U : State) : Prop := va_K D vwCl (pTys κ) U ∧ pKN U ∧ pKT α A U U.heap
theorem pKE.blind {D : va_G} {κ : pKap} {α : Nat → Nat} {A : Nat → Prop} {U : State} {g : JFrame} {mk : MethodId} {a : Array Value} (h : pKE D κ α A U) : pKE D κ α A (U.calling g mk a) :=
  ⟨va_K.moved (u := U) (U := U.calling g mk a) (Vm.Alike.refl U.vm) h.1, pKN.same (s := U) (U := U.calling g mk a) rfl h.2.1, fun q hq => ⟨va_Z.moved (u := U) (U := U.calling g mk a) (Vm.Alike.refl U.vm) (h.2.2 q hq).1, va_T.moved (u := U) (U := U.calling g mk a) (Vm.Alike.refl U.vm) (h.2.2 q hq).2⟩⟩
/-- a callee's: its free cells are the caller's; the caller's heap has moved -/
theorem pKE.down {D : va_G} {κ : pKap} {α α' : Nat → Nat} {A A' : Nat → Prop} {s U : State} {locs : List Loc} (h : pKE D κ α A s) (hS : va_S A s.heap U.heap locs) (hW : s.WarmedH U.vm) (hA : ∀ q, A' q → A q) (hα : ∀ q ∈ pStat, α' q.2.1 = α q.2.1) : pKE D κ α' A' U := by
  refine ⟨va_K.moved hW.alike h.1, h.2.1.warm hW, fun q hq => ?_⟩
  obtain ⟨h1, h2⟩ := h.2.2 q hq
  have hk : ∀ a : Nat, a < s.heap.size → ¬ A a → U.heap[a]? = s.heap[a]? := hS.2.1
  rw [hα q hq]
  exact ⟨((h1.kept hk).moved hW.alike).narrow hA, ((h2.kept hk).moved hW.alike).narrow hA⟩
section PM
variable {p : Program} {l : Launch} {e : Env} {R : Room} {s : State} {m : MethodId} {args : Array Value} {below : List Frame} {meth : Method} {c : Code}
/-- the walk at an index with a picture -/
def pWW (p : Program) (l : Launch) (e : Env) (R : Room) (s : State) (m : MethodId) (args : Array Value) (below : List Frame) (meth : Method) (c : Code) (D : va_G) (κ : pKap) (α : Nat → Nat) (A : Nat → Prop) (sz L0 Lm r nL : Nat) (Q : State → Prop) (pc : Nat) (ls : pLs) (st : pSt) (w : pWd) (rg : pRg) : Prop :=
  ∀ (H : Heap) (locs : List Loc) (lsA : Array Slot), HP D κ α (cellOf w rg) H → H.size = sz + (w.length - L0) → L0 ≤ w.length → w.length ≤ Lm → rg.1 = r → va_S A s.heap H locs → lv_has lsA nL (ls.map (fun q => (q.1, cv α q.2))) →
    W p l e R s m args below meth c H locs (w.length - L0) (1000 * (w.length - L0)) Q (F0 m pc lsA (st.map (cv α)))
/-- what stays through a method -/
def pCx (cc : ByteArray) (own : String) (nL : Nat) (ret : Option FieldType) (R : Room) (cap : Nat) (p : Program) (s : State) (m : MethodId) (args : Array Value) (meth : Method) (c : Code) (D : va_G) (κ : pKap) (α : Nat → Nat) (A : Nat → Prop) (sz L0 Lm r : Nat) : Prop :=
  p.tables.exec = Jvm.exec ∧ c.code = cc ∧ c.maxLocals = nL ∧ s.vm.findClass own = some m.cls ∧ (∀ w ∈ pWA, w.before args s = true) ∧ meth.sig.returnType = ret ∧ meth.locks = false ∧ pKE D κ α A s ∧ (∀ q, s.heap.size ≤ q → A q) ∧ pInj α Lm r ∧ (∀ k, pDm Lm r k → A (α k)) ∧ (∀ k, L0 ≤ k → k < Lm → α k = sz + (k - L0)) ∧ Lm ≤ 100000 ∧ Lm - L0 ≤ R.cells ∧ 1000 * (Lm - L0) ≤ R.slots ∧ cap ≤ Lm
def pRet (s : State) (args : Array Value) (D : va_G) (κ : pKap) (α : Nat → Nat) (A : Nat → Prop) (sz L0 : Nat) (Qc : Array Value → State → Outcome → State → Prop) (out : pOut) : Prop :=
  ∀ (H : Heap) (locs : List Loc) (t : State), HP D κ α (cellOf out.2.1 out.2.2) H → H.size = sz + (out.2.1.length - L0) → va_S A s.heap H locs → t.heap = H → s.WarmedH t.vm → Qc args s (.returned (out.1.map (cv α))) t
def pMQ (below : List Frame) (Qc : Array Value → State → Outcome → State → Prop) (args : Array Value) (s : State) (A : Nat → Prop) (L0 : Nat) (out : pOut) : State → Prop := MQ below Qc args s (out.2.1.length - L0) (1000 * (out.2.1.length - L0)) A
/-- a step is sound at the index i -/
def EOK (l : Launch) (cc : ByteArray) (own : String) (nL : Nat) (ret : Option FieldType) (R : Room) (cap : Nat) (pcOf : Nat → Nat) (i : Nat) (en : pEn) : Prop :=
  ∀ (p : Program) (e : Env) (s : State) (m : MethodId) (args : Array Value) (below : List Frame) (meth : Method) (c : Code) (D : va_G) (κ : pKap) (α : Nat → Nat) (A : Nat → Prop) (sz L0 Lm r : Nat) (Qc : Array Value → State → Outcome → State → Prop) (out : pOut),
    pCx cc own nL ret R cap p s m args meth c D κ α A sz L0 Lm r → pRet s args D κ α A sz L0 Qc out → ∀ (ls : pLs) (st : pSt) (w : pWd) (rg : pRg) (k : pK) (j : Nat → pK), en ls st w rg k j = some out →
    (∀ ls' st' w' rg', k ls' st' w' rg' = some out → pWW p l e R s m args below meth c D κ α A sz L0 Lm r nL (pMQ below Qc args s A L0 out) (pcOf (i + 1)) ls' st' w' rg') →
    (∀ i' ls' st' w' rg', j i' ls' st' w' rg' = some out → pWW p l e R s m args below meth c D κ α A sz L0 Lm r nL (pMQ below Qc args s A L0 out) (pcOf i') ls' st' w' rg') →
    pWW p l e R s m args below meth c D κ α A sz L0 Lm r nL (pMQ below Qc args s A L0 out) (pcOf i) ls st w rg
variable {cc : ByteArray} {own : String} {nL cap : Nat} {ret : Option FieldType} {pcOf : Nat → Nat}
theorem blk_sound {code : List pEn} (hc : ∀ (i : Nat) (en : pEn), code[i]? = some en → EOK l cc own nL ret R cap pcOf i en) {D : va_G} {κ : pKap} {α : Nat → Nat} {A : Nat → Prop} {sz L0 Lm r : Nat} {Qc : Array Value → State → Outcome → State → Prop} {out : pOut}
    (C : pCx cc own nL ret R cap p s m args meth c D κ α A sz L0 Lm r) (hR : pRet s args D κ α A sz L0 Qc out) {j : Nat → pK}
    (hj : ∀ i' ls' st' w' rg', j i' ls' st' w' rg' = some out → pWW p l e R s m args below meth c D κ α A sz L0 Lm r nL (pMQ below Qc args s A L0 out) (pcOf i') ls' st' w' rg') :
    ∀ (cd : List pEn) (i : Nat), cd = code.drop i → ∀ ls st w rg, blk j cd ls st w rg = some out → pWW p l e R s m args below meth c D κ α A sz L0 Lm r nL (pMQ below Qc args s A L0 out) (pcOf i) ls st w rg := by
  intro cd
  induction cd with
  | nil => intro i _ ls st w rg h; cases h
  | cons en cd ih =>
    intro i hcd ls st w rg h
    have h1 : code[i]? = some en := by
      have : (code.drop i)[0]? = some en := by rw [← hcd]; rfl
      rw [List.getElem?_drop] at this
      simpa using this
    have h2 : cd = code.drop (i + 1) := by
      have : (code.drop i).drop 1 = cd := by rw [← hcd]; rfl
      rw [List.drop_drop] at this
      exact this.symm
    exact hc i en h1 p e s m args below meth c D κ α A sz L0 Lm r Qc out C hR ls st w rg (blk j cd) j h (fun ls' st' w' rg' h' => ih (i + 1) h2 ls' st' w' rg' h') hj
theorem ex_sound {code : List pEn} (hc : ∀ (i : Nat) (en : pEn), code[i]? = some en → EOK l cc own nL ret R cap pcOf i en) {D : va_G} {κ : pKap} {α : Nat → Nat} {A : Nat → Prop} {sz L0 Lm r : Nat} {Qc : Array Value → State → Outcome → State → Prop} {out : pOut}
    (C : pCx cc own nL ret R cap p s m args meth c D κ α A sz L0 Lm r) (hR : pRet s args D κ α A sz L0 Qc out) :
    ∀ (n i : Nat) (ls : pLs) (st : pSt) (w : pWd) (rg : pRg), ex code n i ls st w rg = some out → pWW p l e R s m args below meth c D κ α A sz L0 Lm r nL (pMQ below Qc args s A L0 out) (pcOf i) ls st w rg := by
  intro n
  induction n with
  | zero => intro i ls st w rg h; cases h
  | succ n ih =>
    intro i ls st w rg h
    exact blk_sound hc C hR (fun i' ls' st' w' rg' h' => ih i' ls' st' w' rg' h') _ i rfl ls st w rg h
end PM
end
