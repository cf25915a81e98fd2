noncomputable section
/-! CONTRACTS OUT OF PURE RUNS, AND CALLS BY CONTRACT -/
def pA (α : Nat → Nat) (w : pWd) (rg : pRg) (sz : Nat) : Nat → Prop := fun q => (∃ k, pDm w.length rg.1 k ∧ q = α k) ∨ sz ≤ q
def pPre (D : va_G) (κ : pKap) (α : Nat → Nat) (args : List Value) (w : pWd) (rg : pRg) (sz : Nat) : Array Value → State → Prop :=
  va_Pc (args.map (cv α)) (fun U => U.heap.size = sz ∧ HP D κ α (cellOf w rg) U.heap ∧ pKE D κ α (pA α w rg sz) U)
def pPost (D : va_G) (κ : pKap) (α : Nat → Nat) (w : pWd) (rg : pRg) (sz : Nat) (out : pOut) : Array Value → State → Outcome → State → Prop := fun _ st o t =>
  o = .returned (out.1.map (cv α)) ∧ HP D κ α (cellOf out.2.1 out.2.2) t.heap ∧ t.heap.size = sz + (out.2.1.length - w.length) ∧ va_F (pA α w rg sz) st t
/-- a method's contract: from the arguments and the picture it returns out -/
def pCT (l : Launch) (y : MethodName) (ws : List Cond) (rm : Room) (args : List Value) (w : pWd) (rg : pRg) (out : pOut) : Prop :=
  out.2.2.1 = rg.1 ∧ w.length ≤ out.2.1.length ∧ out.2.1.length ≤ 100000 ∧ rm.cells = out.2.1.length - w.length ∧ rm.slots = 1000 * (out.2.1.length - w.length) ∧
  ∀ (D : va_G) (κ : pKap) (α : Nat → Nat) (sz : Nat), pInj α out.2.1.length rg.1 → (∀ k, w.length ≤ k → k < out.2.1.length → α k = sz + (k - w.length)) →
    Met l y ws rm (pPre D κ α args w rg sz) (pPost D κ α w rg sz out) (out.2.1.length - w.length) (1000 * (out.2.1.length - w.length)) (pA α w rg sz)
abbrev pWs (y : MethodName) (cc : ByteArray) (nL : Nat) (ret : Option FieldType) : List Cond := Cond.code y cc nL ret :: pWA
theorem args_conc (α : Nat → Nat) : ∀ (vs : List Value) (i : Nat), lv_args i (vs.map (cv α)) = (lv_args i vs).map (fun q => (q.1, cv α q.2))
  | [], _ => rfl
  | v :: vs, i => by
    show (i, cv α v) :: lv_args (if (cv α v).category = 2 then i + 2 else i + 1) (vs.map (cv α)) = _
    rw [cv_cat, args_conc α vs]
    rfl
theorem sl_len : ∀ (vs : List Value) (α : Nat → Nat), (lg_sl (vs.map (cv α))).length = (lg_sl vs).length
  | [], _ => rfl
  | v :: vs, α => by
    have ih := sl_len vs α
    unfold lg_sl at ih ⊢
    rw [List.map_cons, List.flatMap_cons, List.flatMap_cons, List.length_append, List.length_append, ih, cv_cat]
    by_cases h : v.category = 2 <;> simp [h]
/-- A METHOD'S CONTRACT OUT OF ITS PURE RUN -/
theorem met_of_ex {l : Launch} {y : MethodName} {cc : ByteArray} {nL cap : Nat} {ret : Option FieldType} {rm : Room} {pcOf : Nat → Nat} {code : List pEn} (hy : plainName y.cls = true)
    (hc : ∀ (i : Nat) (en : pEn), code[i]? = some en → EOK l cc y.cls nL ret rm cap pcOf i en) (hp0 : pcOf 0 = 0)
    {args : List Value} {w : pWd} {rg : pRg} {out : pOut} (hrun : ∃ n, ex code n 0 (lv_args 0 args) [] w rg = some out) (hsl : (lg_sl args).length ≤ nL)
    (ho : out.2.2.1 = rg.1) (hlen : w.length ≤ out.2.1.length) (hL : out.2.1.length ≤ 100000) (hcap : cap ≤ out.2.1.length) (hrc : rm.cells = out.2.1.length - w.length) (hrs : rm.slots = 1000 * (out.2.1.length - w.length)) :
    pCT l y (pWs y cc nL ret) rm args w rg out := by
  obtain ⟨n, h⟩ := hrun
  refine ⟨ho, hlen, hL, hrc, hrs, fun D κ α sz hin hfr => ?_⟩
  refine Met.ofW (cc := cc) (maxL := nL) (ret := ret) hy rfl ?_
  intro p e s m args' below meth c s₁ B hml hv
  obtain ⟨rfl, hsz, hP, hKE⟩ := hv
  have hts := atoms_spec (ws := pWs y cc nL ret) B.pre
  have hown : s.vm.findClass y.cls = some m.cls := findClass_of_methodNamed B.named
  have C : pCx cc y.cls nL ret (headSpec (pWs y cc nL ret) rm).room cap p s m (args.map (cv α)).toArray meth c D κ α (pA α w rg sz) sz w.length out.2.1.length rg.1 :=
    ⟨B.exec, B.bytes, hml, hown, fun w h => hts w (List.mem_cons_of_mem _ h), B.returns, B.notSynchronized, hKE, fun q h => Or.inr (by rw [← hsz]; exact h), hin, fun k hk => by
      by_cases hk0 : pDm w.length rg.1 k
      · exact Or.inl ⟨k, hk0, rfl⟩
      · rcases hk with h1 | h1
        · have h2 : w.length ≤ k := by
            rcases Nat.lt_or_ge k w.length with h3 | h3
            · exact absurd (Or.inl h3) hk0
            · exact h3
          exact Or.inr (by rw [hfr k h2 h1]; omega)
        · exact absurd (Or.inr h1) hk0, hfr, hL, by show _ ≤ rm.cells; omega, by show _ ≤ rm.slots; omega, hcap⟩
  have hR : pRet s (args.map (cv α)).toArray D κ α (pA α w rg sz) sz w.length (pPost D κ α w rg sz out) out := by
    intro H locs t h1 h2 h3 h4 _
    exact ⟨rfl, by rw [h4]; exact h1, by rw [h4]; exact h2, h3.F h4⟩
  have g := ex_sound (l := l) (e := e) (below := below) hc C hR n 0 (lv_args 0 args) [] w rg h
  have hl := lv_entry (args.map (cv α)) (n := nL) (by rw [sl_len]; exact hsl)
  rw [lg_entry_eq]
  rw [args_conc] at hl
  have g2 := g s.heap [] _ hP (by rw [Nat.sub_self]; exact hsz) (Nat.le_refl _) hlen rfl va_S.rf hl
  rw [hp0, Nat.sub_self] at g2
  exact g2
section CL
variable {p : Program} {l : Launch} {e : Env} {R : Room} {s : State} {m : MethodId} {args : Array Value} {below : List Frame} {meth : Method} {c : Code} {H : Heap} {locs : List Loc} {cells slots : Nat} {Q : State → Prop}
theorem fw_call {pc : Nat} {lsA : Array Slot} {st0 rest : List Value} {mc ms : Nat} {Qa : State → Outcome → State → Prop} {free : Addr → Prop} (hr : va_Run p l e R s m args below meth c H locs cells slots mc ms (F0 m pc lsA st0) rest Qa free)
    (kk : ∀ (v : Option Value) (st₀ t : State) (L : List Loc), st₀.heap = H → Qa st₀ (.returned v) t → (∀ q ∈ L, free q.base) → W p l e R s m args below meth c t.heap (locs ++ L) (cells + mc) (slots + ms) Q (F0 m (pc + 3) lsA (v.toList ++ rest))) : W p l e R s m args below meth c H locs cells slots Q (F0 m pc lsA st0) := by
  intro T hT X
  obtain ⟨v, st₀, t, T', L, h0, X', hL, e1, e2, hq, st⟩ := hr T hT X
  obtain ⟨t2, a1, b1⟩ := kk v st₀ t L h0 hq hL T' e1 X'
  exact ⟨t2, st t2 a1, b1⟩
end CL
theorem cv_cv (α ρ : Nat → Nat) (v : Value) : cv α (cv ρ v) = cv (fun j => α (ρ j)) v := by cases v <;> rfl
theorem ca_ca (α ρ : Nat → Nat) (x : vp_A) : ca α (ca ρ x) = ca (fun j => α (ρ j)) x := by
  obtain ⟨n, a⟩ := x
  rcases a with f | f | f | f | f <;> try rfl
  show (n, Sum.inr (Sum.inr (Sum.inr (Sum.inr (fun i => ((f i).map ρ).map α))))) = _
  simp only [Option.map_map]
  rfl
abbrev re (ρ : Nat → Nat) (e : va_E) : va_E := ce (fun c => c) ρ e
theorem ce_ce (κ : pKap) (α ρ : Nat → Nat) (e : va_E) : ce κ α (re ρ e) = ce κ (fun j => α (ρ j)) e := by
  rcases e with ⟨c, x⟩ | ⟨i, fs⟩
  · show Sum.inl (κ c, ca α (ca ρ x)) = Sum.inl (κ c, _)
    rw [ca_ca]
  · show Sum.inr (i, (fs.map (cv ρ)).map (cv α)) = Sum.inr (i, fs.map (cv _))
    rw [List.map_map]
    congr 2
    refine List.map_congr_left fun v _ => ?_
    exact cv_cv α ρ v
/-- a callee's picture stands in the caller's by the places ρ; the rest stays -/
def pFr (ρ : Nat → Nat) (w : pWd) (rg : pRg) (w0 : pWd) (rg0 : pRg) (w1 : pWd) (rg1 : pRg) (w' : pWd) (rg' : pRg) : Prop :=
  (∀ j e, cellOf w0 rg0 j = some e → cellOf w rg (ρ j) = some (re ρ e)) ∧
  (∀ j j', pDm w1.length rg0.1 j → pDm w1.length rg0.1 j' → ρ j = ρ j' → j = j') ∧
  (∀ j, pDm w0.length rg0.1 j → pDm w.length rg.1 (ρ j)) ∧
  (∀ j, w0.length ≤ j → j < w1.length → ρ j = w.length + (j - w0.length)) ∧
  (∀ k e, cellOf w' rg' k = some e → (∃ j e0, pDm w1.length rg0.1 j ∧ k = ρ j ∧ cellOf w1 rg1 j = some e0 ∧ e = re ρ e0) ∨ (cellOf w rg k = some e ∧ ∀ j, pDm w1.length rg0.1 j → ρ j ≠ k)) ∧
  (∀ q ∈ pStat, ρ q.2.1 = q.2.1) ∧ w'.length = w.length + (w1.length - w0.length) ∧ rg'.1 = rg.1
abbrev pF : Type := List Value → pWd → pRg → Option pOut
/-- what a call's pure answer rests on -/
def pFOK (l : Launch) (y : MethodName) (ws : List Cond) (rm : Room) (F : pF) : Prop :=
  ∀ (args : List Value) (w : pWd) (rg : pRg) (v : Option Value) (w' : pWd) (rg' : pRg), F args w rg = some (v, w', rg') →
    ∃ (ρ : Nat → Nat) (args0 : List Value) (w0 : pWd) (rg0 : pRg) (v0 : Option Value) (w1 : pWd) (rg1 : pRg), pCT l y ws rm args0 w0 rg0 (v0, w1, rg1) ∧ pFr ρ w rg w0 rg0 w1 rg1 w' rg' ∧ args0.map (cv ρ) = args ∧ v = v0.map (cv ρ)
def popK : Nat → pSt → List Value → (List Value → pSt → Option pOut) → Option pOut
  | 0, st, acc, c => c acc st
  | n + 1, v :: st, acc, c => popK n st (v :: acc) c
  | _ + 1, [], _, _ => none
theorem popK_some : ∀ {n : Nat} {st : pSt} {acc : List Value} {c : List Value → pSt → Option pOut} {o : pOut}, popK n st acc c = some o → ∃ as rest, st = as.reverse ++ rest ∧ as.length = n ∧ c (as ++ acc) rest = some o
  | 0, st, acc, c, o, h => ⟨[], st, rfl, rfl, h⟩
  | n + 1, [], acc, c, o, h => by cases h
  | n + 1, v :: st, acc, c, o, h => by
    obtain ⟨as, rest, h1, h2, h3⟩ := popK_some (n := n) (st := st) (acc := v :: acc) h
    exact ⟨as ++ [v], rest, by rw [h1]; simp, by simp [h2], by rw [List.append_assoc]; exact h3⟩
def callK (o : Option pOut) (len : Nat) (ls : pLs) (rest : pSt) (k : pK) : Option pOut := match o with
  | some (v, w', rg') => match Nat.beq w'.length len with
    | true => match v with
      | some u => k ls (u :: rest) w' rg'
      | none => k ls rest w' rg'
    | false => none
  | none => none
/-- .. and one that isn't opened by itself: it is chosen -/
theorem ex_callK : ∃ B : Option pOut → Nat → pLs → pSt → pK → Option pOut, ∀ o len ls rest k, B o len ls rest k = callK o len ls rest k := ⟨callK, fun _ _ _ _ _ => rfl⟩
def callZ : Option pOut → Nat → pLs → pSt → pK → Option pOut := Classical.choose ex_callK
theorem callZ_eq (o : Option pOut) (len : Nat) (ls : pLs) (rest : pSt) (k : pK) : callZ o len ls rest k = callK o len ls rest k := Classical.choose_spec ex_callK o len ls rest k
theorem callK_v {o : Option pOut} {len : Nat} {ls : pLs} {rest : pSt} {k : pK} {w' : pWd} {rg' : pRg} (h : o = some (none, w', rg')) (hl : Nat.beq w'.length len = true) : callZ o len ls rest k = k ls rest w' rg' := by
  rw [callZ_eq, h]; unfold callK; simp only [hl]
theorem callK_r {o : Option pOut} {len : Nat} {ls : pLs} {rest : pSt} {k : pK} {u : Value} {w' : pWd} {rg' : pRg} (h : o = some (some u, w', rg')) (hl : Nat.beq w'.length len = true) : callZ o len ls rest k = k ls (u :: rest) w' rg' := by
  rw [callZ_eq, h]; unfold callK; simp only [hl]
abbrev fz (F : pF) : pF := F
theorem fz_eq (F : pF) (args : List Value) (w : pWd) (rg : pRg) : fz F args w rg = F args w rg := rfl
def oCallZ (n : Nat) (F : pF) : pEn := fun ls st w rg k _ => popK n st [] (fun args rest => match Nat.blt rest.length 5 with
  | true => callZ (F args w rg) w.length ls rest k
  | false => none)
/-- a call of n arguments (the receiver counts) that makes nothing -/
def oCall (n : Nat) (F : pF) : pEn := fun ls st w rg k _ => popK n st [] (fun args rest => match Nat.blt rest.length 5 with
  | true => callK (F args w rg) w.length ls rest k
  | false => none)
/-- .. and one that may make objects, up to cap cells in all -/
def oCallA (n cap : Nat) (F : pF) : pEn := fun ls st w rg k _ => popK n st [] (fun args rest => match Nat.blt rest.length 5 with
  | true => match F args w rg with
    | some (v, w', rg') => match Nat.ble w'.length cap with
      | true => match v with
        | some u => k ls (u :: rest) w' rg'
        | none => k ls rest w' rg'
      | false => none
    | none => none
  | false => none)
section CC
variable {p : Program} {l : Launch} {e : Env} {R : Room} {s : State} {m : MethodId} {args : Array Value} {below : List Frame} {meth : Method} {c : Code} {H : Heap} {locs : List Loc} {Q : State → Prop}
variable {cc : ByteArray} {own : String} {nL cap : Nat} {ret : Option FieldType} {D : va_G} {κ : pKap} {α : Nat → Nat} {A : Nat → Prop} {sz L0 Lm r : Nat}
/-- THE CALL, whatever its instruction: hrun gives the run out of the callee's contract -/
theorem call_core (C : pCx cc own nL ret R cap p s m args meth c D κ α A sz L0 Lm r) {y : MethodName} {ws : List Cond} {rm : Room} {F : pF} (hF : pFOK l y ws rm F) {as : List Value} {w w' : pWd} {rg rg' : pRg} {v : Option Value} (hf : F as w rg = some (v, w', rg')) (hb : w'.length ≤ Lm) {rest : List Value} {pc : Nat} {lsA : Array Slot}
    (hP : HP D κ α (cellOf w rg) H) (hz : H.size = sz + (w.length - L0)) (h0 : L0 ≤ w.length) (h1 : w.length ≤ Lm) (hr : rg.1 = r) (hS : va_S A s.heap H locs)
    (hrun : ∀ (Pc : Array Value → State → Prop) (Qc : Array Value → State → Outcome → State → Prop) (mc ms : Nat) (free : Addr → Prop), Met l y ws rm Pc Qc mc ms free → rm.cells = mc → rm.slots = ms → (FrameBlind Pc ∧ ∀ U : State, U.heap = H → s.WarmedH U.vm → Pc (as.map (cv α)).toArray U) → (w.length - L0) + mc ≤ R.cells ∧ (1000 * (w.length - L0)) + ms ≤ R.slots →
      va_Run p l e R s m args below meth c H locs (w.length - L0) (1000 * (w.length - L0)) mc ms (F0 m pc lsA ((as.map (cv α)).reverse ++ rest)) rest (Qc (as.map (cv α)).toArray) free)
    (kk : ∀ (H1 : Heap) (locs1 : List Loc), HP D κ α (cellOf w' rg') H1 → H1.size = sz + (w'.length - L0) → L0 ≤ w'.length → rg'.1 = r → va_S A s.heap H1 locs1 → W p l e R s m args below meth c H1 locs1 (w'.length - L0) (1000 * (w'.length - L0)) Q (F0 m (pc + 3) lsA ((v.map (cv α)).toList ++ rest))) :
    W p l e R s m args below meth c H locs (w.length - L0) (1000 * (w.length - L0)) Q (F0 m pc lsA ((as.map (cv α)).reverse ++ rest)) := by
  obtain ⟨hx, hbb, hml, hown, hts, hret, hlk, hKE, hA, hin, hAk, hfr, hLm, hcc, hcs, hcap⟩ := id C
  obtain ⟨ρ, args0, w0, rg0, v0, w1, rg1, ⟨c1, c2, c3, c4, c5, c6⟩, ⟨f1, f2, f3, f4, f5, f6, f7, f8⟩, ha, hv⟩ := hF _ _ _ _ _ _ hf
  dsimp only at c1 c2 c3 c4 c5 c6
  have dm : ∀ j, pDm w1.length rg0.1 j → pDm Lm r (ρ j) := by
    intro j hj
    by_cases hj0 : pDm w0.length rg0.1 j
    · rcases f3 j hj0 with q | q
      · exact Or.inl (by omega)
      · exact Or.inr (by rw [hr] at q; exact q)
    · rcases hj with q | q
      · have : w0.length ≤ j := by
          rcases Nat.lt_or_ge j w0.length with z | z
          · exact absurd (Or.inl z) hj0
          · exact z
        exact Or.inl (by rw [f4 j this q]; omega)
      · exact absurd (Or.inr q) hj0
  have hM := c6 D κ (fun j => α (ρ j)) H.size (fun j j' hj hj' q => f2 j j' hj hj' (hin _ _ (dm j hj) (dm j' hj') q)) (fun k hk1 hk2 => by
    show α (ρ k) = _
    rw [f4 k hk1 hk2, hfr _ (by omega) (by omega), hz]
    omega)
  have hAsub : ∀ q, pA (fun j => α (ρ j)) w0 rg0 H.size q → A q := by
    intro q hq
    rcases hq with ⟨k, hk, rfl⟩ | hq
    · refine hAk _ (dm k ?_)
      rcases hk with z | z
      · exact Or.inl (by omega)
      · exact Or.inr z
    · exact hA q (Nat.le_trans hS.1 hq)
  have hargs : args0.map (cv (fun j => α (ρ j))) = as.map (cv α) := by
    rw [← ha, List.map_map]
    exact List.map_congr_left fun x _ => (cv_cv α ρ x).symm
  refine fw_call (hrun _ _ _ _ _ hM c4 c5 ⟨?_, ?_⟩ (by omega)) ?_
  · intro a U g mk hq
    obtain ⟨q1, q2, q3, q4⟩ := hq
    exact ⟨q1, q2, q3, q4.blind⟩
  · intro U hU hW
    refine ⟨by rw [hargs], by rw [hU], fun j e0 hj => ?_, hKE.down (by rw [hU]; exact hS) hW hAsub (fun q hq => by show α (ρ _) = _; rw [f6 q hq])⟩
    rw [hU]
    have := hP _ _ (f1 j e0 hj)
    rw [ce_ce] at this
    exact this
  · intro v' st₀ t L e0 hq hL
    obtain ⟨q1, q2, q3, q4, q5⟩ := hq
    dsimp only at q1 q2 q3
    have hv' : v' = v.map (cv α) := by
      have := Outcome.returned.inj q1
      rw [this, hv]
      cases v0 with
      | none => rfl
      | some x => exact congrArg some (cv_cv α ρ x).symm
    rw [e0] at q4 q5
    have hP1 : HP D κ α (cellOf w' rg') t.heap := by
      intro k x hk
      rcases f5 k x hk with ⟨j, x0, hj, rfl, hj2, rfl⟩ | ⟨hk1, hk2⟩
      · have := q2 j x0 hj2
        rw [ce_ce]
        exact this
      · have hlt := (hP k x hk1).lt
        refine (hP k x hk1).kept (q5 _ hlt fun hz2 => ?_)
        rcases hz2 with ⟨j, hj, e1⟩ | hz2
        · have hj1 : pDm w1.length rg0.1 j := by
            rcases hj with z | z
            · exact Or.inl (by omega)
            · exact Or.inr z
          refine hk2 j hj1 (hin _ _ (dm j hj1) ?_ e1.symm)
          rcases cellOf_dom hk1 with z | z
          · exact Or.inl (by omega)
          · exact Or.inr (by rw [hr] at z; exact z)
        · have : (α k, ce κ α x).1 < H.size := hlt
          exact absurd hz2 (Nat.not_le.mpr this)
    have hS1 : va_S A s.heap t.heap (locs ++ L) := ⟨Nat.le_trans hS.1 q4, fun q z1 z2 => by rw [q5 q (Nat.lt_of_lt_of_le z1 hS.1) (fun z => z2 (hAsub q z))]; exact hS.2.1 q z1 z2, fun q hq => by
      rcases List.mem_append.mp hq with z | z
      · exact hS.2.2 q z
      · exact hAsub _ (hL q z)⟩
    have g := kk t.heap (locs ++ L) hP1 (by rw [q3, f7, hz]; omega) (by omega) (by rw [f8, hr]) hS1
    rw [hv']
    have e1 : w.length - L0 + (w1.length - w0.length) = w'.length - L0 := by omega
    have e2 : 1000 * (w.length - L0) + 1000 * (w1.length - w0.length) = 1000 * (w'.length - L0) := by omega
    rw [e1, e2]
    exact g
end CC
theorem pFOK_fz {l : Launch} {y : MethodName} {ws : List Cond} {rm : Room} {F : pF} (h : pFOK l y ws rm F) : pFOK l y ws rm (fz F) := h
end
