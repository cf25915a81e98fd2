noncomputable section
/-! CONSTRUCTORS: steps that are made in them alone, contracts, and the frame of their calls -/
def EOKc (l : Launch) (cc : ByteArray) (own : String) (nL : Nat) (ret : Option FieldType) (R : Room) (cap : Nat) (pcOf : Nat → Nat) (i : Nat) (en : pEn) : Prop :=
  ∀ (p : Program) (e : Env) (s : State) (m : MethodId) (args : Array Value) (below : List Frame) (meth : Method) (c : Code) (D : va_G) (κ : pKap) (α : Nat → Nat) (A : Nat → Prop) (sz L0 Lm r : Nat) (Qc : Array Value → State → Outcome → State → Prop) (out : pOut),
    meth.name = "<init>" → pCx cc own nL ret R cap p s m args meth c D κ α A sz L0 Lm r → pRet s args D κ α A sz L0 Qc out → ∀ (ls : pLs) (st : pSt) (w : pWd) (rg : pRg) (k : pK) (j : Nat → pK), en ls st w rg k j = some out →
    (∀ ls' st' w' rg', k ls' st' w' rg' = some out → pWW p l e R s m args below meth c D κ α A sz L0 Lm r nL (pMQ below Qc args s A L0 out) (pcOf (i + 1)) ls' st' w' rg') →
    (∀ i' ls' st' w' rg', j i' ls' st' w' rg' = some out → pWW p l e R s m args below meth c D κ α A sz L0 Lm r nL (pMQ below Qc args s A L0 out) (pcOf i') ls' st' w' rg') →
    pWW p l e R s m args below meth c D κ α A sz L0 Lm r nL (pMQ below Qc args s A L0 out) (pcOf i) ls st w rg
theorem EOK.c {l : Launch} {cc : ByteArray} {own : String} {nL : Nat} {ret : Option FieldType} {R : Room} {cap : Nat} {pcOf : Nat → Nat} {i : Nat} {en : pEn} (h : EOK l cc own nL ret R cap pcOf i en) : EOKc l cc own nL ret R cap pcOf i en := fun p e s m args below meth c D κ α A sz L0 Lm r Qc out _ => h p e s m args below meth c D κ α A sz L0 Lm r Qc out
section PM
variable {p : Program} {l : Launch} {e : Env} {R : Room} {s : State} {m : MethodId} {args : Array Value} {below : List Frame} {meth : Method} {c : Code}
variable {cc : ByteArray} {own : String} {nL cap : Nat} {ret : Option FieldType} {pcOf : Nat → Nat}
theorem blk_soundc {code : List pEn} (hc : ∀ (i : Nat) (en : pEn), code[i]? = some en → EOKc l cc own nL ret R cap pcOf i en) (hnm : meth.name = "<init>") {D : va_G} {κ : pKap} {α : Nat → Nat} {A : Nat → Prop} {sz L0 Lm r : Nat} {Qc : Array Value → State → Outcome → State → Prop} {out : pOut}
    (C : pCx cc own nL ret R cap p s m args meth c D κ α A sz L0 Lm r) (hR : pRet s args D κ α A sz L0 Qc out) {j : Nat → pK}
    (hj : ∀ i' ls' st' w' rg', j i' ls' st' w' rg' = some out → pWW p l e R s m args below meth c D κ α A sz L0 Lm r nL (pMQ below Qc args s A L0 out) (pcOf i') ls' st' w' rg') :
    ∀ (cd : List pEn) (i : Nat), cd = code.drop i → ∀ ls st w rg, blk j cd ls st w rg = some out → pWW p l e R s m args below meth c D κ α A sz L0 Lm r nL (pMQ below Qc args s A L0 out) (pcOf i) ls st w rg := by
  intro cd
  induction cd with
  | nil => intro i _ ls st w rg h; cases h
  | cons en cd ih =>
    intro i hcd ls st w rg h
    have h1 : code[i]? = some en := by
      have : (code.drop i)[0]? = some en := by rw [← hcd]; rfl
      rw [List.getElem?_drop] at this
      simpa using this
    have h2 : cd = code.drop (i + 1) := by
      have : (code.drop i).drop 1 = cd := by rw [← hcd]; rfl
      rw [List.drop_drop] at this
      exact this.symm
    exact hc i en h1 p e s m args below meth c D κ α A sz L0 Lm r Qc out hnm C hR ls st w rg (blk j cd) j h (fun ls' st' w' rg' h' => ih (i + 1) h2 ls' st' w' rg' h') hj
theorem ex_soundc {code : List pEn} (hc : ∀ (i : Nat) (en : pEn), code[i]? = some en → EOKc l cc own nL ret R cap pcOf i en) (hnm : meth.name = "<init>") {D : va_G} {κ : pKap} {α : Nat → Nat} {A : Nat → Prop} {sz L0 Lm r : Nat} {Qc : Array Value → State → Outcome → State → Prop} {out : pOut}
    (C : pCx cc own nL ret R cap p s m args meth c D κ α A sz L0 Lm r) (hR : pRet s args D κ α A sz L0 Qc out) :
    ∀ (n i : Nat) (ls : pLs) (st : pSt) (w : pWd) (rg : pRg), ex code n i ls st w rg = some out → pWW p l e R s m args below meth c D κ α A sz L0 Lm r nL (pMQ below Qc args s A L0 out) (pcOf i) ls st w rg := by
  intro n
  induction n with
  | zero => intro i ls st w rg h; cases h
  | succ n ih =>
    intro i ls st w rg h
    exact blk_soundc hc hnm C hR (fun i' ls' st' w' rg' h' => ih i' ls' st' w' rg' h') _ i rfl ls st w rg h
end PM
/-- A CONSTRUCTOR'S CONTRACT OUT OF ITS PURE RUN -/
theorem met_of_exc {l : Launch} {y : MethodName} {cc : ByteArray} {nL cap : Nat} {ret : Option FieldType} {rm : Room} {pcOf : Nat → Nat} {code : List pEn} (hy : plainName y.cls = true) (hyn : y.name = "<init>")
    (hc : ∀ (i : Nat) (en : pEn), code[i]? = some en → EOKc l cc y.cls nL ret rm cap pcOf i en) (hp0 : pcOf 0 = 0)
    {args : List Value} {w : pWd} {rg : pRg} {out : pOut} (hrun : ∃ n, ex code n 0 (lv_args 0 args) [] w rg = some out) (hsl : (lg_sl args).length ≤ nL)
    (ho : out.2.2.1 = rg.1) (hlen : w.length ≤ out.2.1.length) (hL : out.2.1.length ≤ 100000) (hcap : cap ≤ out.2.1.length) (hrc : rm.cells = out.2.1.length - w.length) (hrs : rm.slots = 1000 * (out.2.1.length - w.length)) :
    pCT l y (pWs y cc nL ret) rm args w rg out := by
  obtain ⟨n, h⟩ := hrun
  refine ⟨ho, hlen, hL, hrc, hrs, fun D κ α sz hin hfr => ?_⟩
  refine Met.ofW (cc := cc) (maxL := nL) (ret := ret) hy rfl ?_
  intro p e s m args' below meth c s₁ B hml hv
  obtain ⟨rfl, hsz, hP, hKE⟩ := hv
  have hts := atoms_spec (ws := pWs y cc nL ret) B.pre
  have hown : s.vm.findClass y.cls = some m.cls := findClass_of_methodNamed B.named
  have hnm : meth.name = "<init>" := ((name_of_methodNamed B.named B.method).1).trans hyn
  have C : pCx cc y.cls nL ret (headSpec (pWs y cc nL ret) rm).room cap p s m (args.map (cv α)).toArray meth c D κ α (pA α w rg sz) sz w.length out.2.1.length rg.1 :=
    ⟨B.exec, B.bytes, hml, hown, fun w h => hts w (List.mem_cons_of_mem _ h), B.returns, B.notSynchronized, hKE, fun q h => Or.inr (by rw [← hsz]; exact h), hin, fun k hk => by
      by_cases hk0 : pDm w.length rg.1 k
      · exact Or.inl ⟨k, hk0, rfl⟩
      · rcases hk with h1 | h1
        · have h2 : w.length ≤ k := by
            rcases Nat.lt_or_ge k w.length with h3 | h3
            · exact absurd (Or.inl h3) hk0
            · exact h3
          exact Or.inr (by rw [hfr k h2 h1]; omega)
        · exact absurd (Or.inr h1) hk0, hfr, hL, by show _ ≤ rm.cells; omega, by show _ ≤ rm.slots; omega, hcap⟩
  have hR : pRet s (args.map (cv α)).toArray D κ α (pA α w rg sz) sz w.length (pPost D κ α w rg sz out) out := by
    intro H locs t h1 h2 h3 h4 _
    exact ⟨rfl, by rw [h4]; exact h1, by rw [h4]; exact h2, h3.F h4⟩
  have g := ex_soundc (l := l) (e := e) (below := below) hc hnm C hR n 0 (lv_args 0 args) [] w rg h
  have hl := lv_entry (args.map (cv α)) (n := nL) (by rw [sl_len]; exact hsl)
  rw [lg_entry_eq]
  rw [args_conc] at hl
  have g2 := g s.heap [] _ hP (by rw [Nat.sub_self]; exact hsz) (Nat.le_refl _) hlen rfl va_S.rf hl
  rw [hp0, Nat.sub_self] at g2
  exact g2
section ST
variable {l : Launch} {R : Room} {cc : ByteArray} {own : String} {nL cap : Nat} {ret : Option FieldType} {pcOf : Nat → Nat} {i : Nat}
theorem okPutF {C : String} {T : u_T} {N ci f idx : Nat} {ty0 : Nat → FieldType} (hd : decode cc (pcOf i) = .ok (.putfield idx, 3)) (hp : pcOf (i + 1) = pcOf i + 3) (hc : vwCl[ci]? = some (C, T, N)) (hf : f < N) (hlin : ∀ w ∈ u_ws C T N, w ∈ pWA) (hty : ∀ k, k < N → parseFieldDescriptor (T k).2.2.1 = some (ty0 k)) (hnm : ∀ a, a < N → ∀ b, b < N → a ≠ b → (T a).2.1 ≠ (T b).2.1) (ht : ty0 f = .int) (hfin : (T f).2.2.2 = true) (hdecl : (T f).1 = own) (hw : Cond.fieldLink own idx (T f).1 (T f).2.1 (T f).2.2.1 ∈ pWA) : EOKc l cc own nL ret R cap pcOf i (oPutF ci f) := by
  intro p e s m args below meth c D κ α A sz L0 Lm r Qc out hname C hR ls st w rg k j h hk hj H locs lsA hP hz h0 h1 hr hS hl
  obtain ⟨hx, hb, hml, hown, hts, hret, hlk, hKE, hA, hin, hAk, hfr, hLm⟩ := id C
  unfold oPutF oPut at h
  split at h
  next v a st' =>
    split at h
    next c0 fs hg =>
      split at h
      next hcb =>
        split at h
        next hlt =>
          have hce : c0 = ci := Nat.eq_of_beq_eq_true hcb
          subst hce
          rw [vsetK_eq, wsetK_eq] at h
          have hlen : f < fs.length := blt_lt hlt
          have had : pDm Lm r a := Or.inl (Nat.lt_of_lt_of_le (wget_lt hg) h1)
          refine fw_putF (D := D) (tys := pTys κ) hx hb hts hlin ty0 hty hnm hown hKE.1 (fs := fs.map (cv α)) (hP a _ (cellOf_get hg)) hS (hAk a had) hc f hf (hts _ hw) (fun _ h => h) hfin hname hdecl (ty := .int) (v := .int v) ((hty f hf).trans (by rw [ht])) rfl rfl (by simpa using hlen) hd (fun H1 locs1 k1 k2 k3 k4 => ?_)
          have hP1 := HP.put (e1 := .inr (c0, fs.set f (.int v))) hP h1 (by rw [hr]; exact hin) hg (by
            show va_at D vwCl (α a, .inr (c0, (fs.set f (.int v)).map (cv α))) H1
            rw [List.map_set]; exact k1) k3
          have g := hk _ _ _ _ h H1 locs1 lsA hP1 (by rw [wset_len, k2]; exact hz) (by rw [wset_len]; exact h0) (by rw [wset_len]; exact h1) hr k4 hl
          rw [hp, wset_len] at g
          exact g
        next => cases h
      next => cases h
    next => cases h
  next => cases h
theorem okPutFR {C : String} {T : u_T} {N ci f idx : Nat} {ty0 : Nat → FieldType} {ty1 : FieldType} (hd : decode cc (pcOf i) = .ok (.putfield idx, 3)) (hp : pcOf (i + 1) = pcOf i + 3) (hc : vwCl[ci]? = some (C, T, N)) (hf : f < N) (hlin : ∀ w ∈ u_ws C T N, w ∈ pWA) (hty : ∀ k, k < N → parseFieldDescriptor (T k).2.2.1 = some (ty0 k)) (hnm : ∀ a, a < N → ∀ b, b < N → a ≠ b → (T a).2.1 ≠ (T b).2.1) (ht : ty0 f = ty1) (hnar : ∀ a, narrow ty1 (.ref a) = .ref a) (hfit : ∀ a, fits ty1 (.ref a) = true) (hfin : (T f).2.2.2 = true) (hdecl : (T f).1 = own) (hw : Cond.fieldLink own idx (T f).1 (T f).2.1 (T f).2.2.1 ∈ pWA) : EOKc l cc own nL ret R cap pcOf i (oPutFR ci f) := by
  intro p e s m args below meth c D κ α A sz L0 Lm r Qc out hname C hR ls st w rg k j h hk hj H locs lsA hP hz h0 h1 hr hS hl
  obtain ⟨hx, hb, hml, hown, hts, hret, hlk, hKE, hA, hin, hAk, hfr, hLm⟩ := id C
  unfold oPutFR at h
  split at h
  next v a st' =>
    split at h
    next c0 fs hg =>
      split at h
      next hcb =>
        split at h
        next hlt =>
          have hce : c0 = ci := Nat.eq_of_beq_eq_true hcb
          subst hce
          rw [vsetK_eq, wsetK_eq] at h
          have hlen : f < fs.length := blt_lt hlt
          have had : pDm Lm r a := Or.inl (Nat.lt_of_lt_of_le (wget_lt hg) h1)
          refine fw_putF (D := D) (tys := pTys κ) hx hb hts hlin ty0 hty hnm hown hKE.1 (fs := fs.map (cv α)) (hP a _ (cellOf_get hg)) hS (hAk a had) hc f hf (hts _ hw) (fun _ h => h) hfin hname hdecl (ty := ty1) (v := .ref (α v)) ((hty f hf).trans (by rw [ht])) (hnar _) (hfit _) (by simpa using hlen) hd (fun H1 locs1 k1 k2 k3 k4 => ?_)
          have hP1 := HP.put (e1 := .inr (c0, fs.set f (.ref v))) hP h1 (by rw [hr]; exact hin) hg (by
            show va_at D vwCl (α a, .inr (c0, (fs.set f (.ref v)).map (cv α))) H1
            rw [List.map_set]; exact k1) k3
          have g := hk _ _ _ _ h H1 locs1 lsA hP1 (by rw [wset_len, k2]; exact hz) (by rw [wset_len]; exact h0) (by rw [wset_len]; exact h1) hr k4 hl
          rw [hp, wset_len] at g
          exact g
        next => cases h
      next => cases h
    next => cases h
  next => cases h
theorem okObjInit {idx : Nat} (hd : decode cc (pcOf i) = .ok (.invokespecial idx, 3)) (hp : pcOf (i + 1) = pcOf i + 3) (w1 : Cond.methodLink own idx Lib.objectInit ∈ pWA) (w2 : Cond.instanceMethod Lib.objectInit ∈ pWA) (w3 : Cond.code Lib.objectInit ⟨#[0xb1]⟩ 1 none ∈ pWA) (hf : 1 ≤ R.frames) (hlo : 21 ≤ R.locals) : EOK l cc own nL ret R cap pcOf i oObjInit := by
  intro p e s m args below meth c D κ α A sz L0 Lm r Qc out C hR ls st w rg k j h hk hj H locs lsA hP hz h0 h1 hr hS hl
  obtain ⟨hx, hb, hml, hown, hts, hret, hlk, hKE, hA, hin, hAk, hfr, hLm, hcc, hcs, hcap⟩ := id C
  unfold oObjInit at h
  split at h
  next a st' =>
    split at h
    next hst =>
      have g := hk _ _ _ _ h H locs lsA hP hz h0 h1 hr hS hl
      rw [hp] at g
      have hsum : ((st'.map (cv α)).map fun v => v.category).sum ≤ 8 := st_sum (blt_lt hst)
      exact W.objInit hx hb hown (hts _ w1) (hts _ w2) (hts _ w3) rfl (by rw [hml]; exact hl.1) rfl hd hf (by show 2 * 0 + _ + 12 ≤ _; omega) g
    next => cases h
  next => cases h
end ST
/-- a new object at a place that isn't written down -/
def oNewD (ci : Nat) (fs : List Value) (cap : Nat) : pEn := fun ls st w rg k _ => match Nat.blt w.length cap with
  | true => wappK w (.inr (ci, fs)) (fun w' => k ls (.ref w.length :: st) w' rg)
  | false => none
section ST
variable {l : Launch} {R : Room} {cc : ByteArray} {own : String} {nL cap : Nat} {ret : Option FieldType} {pcOf : Nat → Nat} {i : Nat}
theorem okNewD {C : String} {T : u_T} {N ci idx : Nat} {fs : List Value} {ty0 : Nat → FieldType} (hd : decode cc (pcOf i) = .ok (.new idx, 3)) (hp : pcOf (i + 1) = pcOf i + 3) (hc : vwCl[ci]? = some (C, T, N)) (hlin : ∀ w ∈ u_ws C T N, w ∈ pWA) (hty : ∀ k, k < N → parseFieldDescriptor (T k).2.2.1 = some (ty0 k)) (w1 : Cond.classLink own idx C ∈ pWA) (w2 : Cond.instantiable C N ∈ pWA) (w3 : Cond.initialized C ∈ pWA) (hfs : ∀ j, j < N → defaultValue (ty0 j) = vp_V fs j) (hfm : ∀ α, fs.map (cv α) = fs) (hN : N ≤ 1000) : EOK l cc own nL ret R cap pcOf i (oNewD ci fs cap) := by
  intro p e s m args below meth c D κ α A sz L0 Lm r Qc out C0 hR ls st w rg k j h hk hj H locs lsA hP hz h0 h1 hr hS hl
  obtain ⟨hx, hb, hml, hown, hts, hret, hlk, hKE, hA, hin, hAk, hfr, hLm, hcc, hcs, hcap⟩ := id C0
  unfold oNewD at h
  split at h
  next hbq =>
    have hq : w.length < cap := blt_lt hbq
    rw [wappK_eq] at h
    have hfr1 : α w.length = H.size := by rw [hfr _ h0 (by omega), hz]
    refine fw_new (D := D) (tys := pTys κ) hx hb hts hlin ty0 hty hown (hts _ w1) (hts _ w2) (hts _ w3) hKE.1 hS hc hfs (by omega) (by omega) hd (fun H1 k1 k2 k3 k4 => ?_)
    have hP1 := HP.app (e := .inr (ci, fs)) hP (by
      show va_at D vwCl (α w.length, .inr (ci, fs.map (cv α))) H1
      rw [hfm, hfr1]; exact k1) k3
    have hlen : (w ++ [(.inr (ci, fs) : va_E)]).length = w.length + 1 := by simp
    have g := hk _ _ _ _ h H1 locs lsA hP1 (by rw [hlen, k2]; omega) (by rw [hlen]; omega) (by rw [hlen]; omega) hr k4 hl
    rw [hp, hlen] at g
    refine W.widen (k := w.length + 1 - L0) (n := 1000 * (w.length + 1 - L0)) (by omega) (by omega) ?_
    rw [← hfr1]
    exact g
  next => cases h
end ST
/-- the length of a row of loops -/
def oAlenR : pEn := fun ls st w rg k _ => match st with
  | .ref a :: st' => match wget w a with
    | some (.inl (1, n, .inr (.inr (.inr (.inr _))))) => k ls (.int (Int32.ofNat n) :: st') w rg
    | _ => none
  | _ => none
section ST
variable {l : Launch} {R : Room} {cc : ByteArray} {own : String} {nL cap : Nat} {ret : Option FieldType} {pcOf : Nat → Nat} {i : Nat}
theorem okAlenR (hd : decode cc (pcOf i) = .ok (.arraylength, 1)) (hp : pcOf (i + 1) = pcOf i + 1) : EOK l cc own nL ret R cap pcOf i oAlenR := by
  intro p e s m args below meth c D κ α A sz L0 Lm r Qc out C hR ls st w rg k j h hk hj H locs lsA hP hz h0 h1 hr hS hl
  obtain ⟨hx, hb, hml, hown, hts, hret, hlk, hKE, hA, hin, hAk, hfr, hLm⟩ := id C
  unfold oAlenR at h
  split at h
  next a st' =>
    split at h
    next n f hg =>
      have g := hk _ _ _ _ h H locs lsA hP hz h0 h1 hr hS hl
      rw [hp] at g
      exact va_alen (D := D) (cl := vwCl) (tys := pTys κ) (ws := [(α a, ce κ α (.inl (1, n, .inr (.inr (.inr (.inr f))))))]) hx hb hKE.1 (va_one (hP a _ (cellOf_get hg))) 0 1 (cA := κ 1) (x := (n, .inr (.inr (.inr (.inr (fun i => (f i).map α)))))) rfl (ty := .object "BrokeLoop$Loop") rfl rfl hd g
    next => cases h
  next => cases h
end ST
/-- a constant array's reference -/
def oGets (a : Nat) : pEn := fun ls st w rg k _ => k ls (.ref a :: st) w rg
section ST
variable {l : Launch} {R : Room} {cc : ByteArray} {own : String} {nL cap : Nat} {ret : Option FieldType} {pcOf : Nat → Nat} {i : Nat}
theorem okGets {n : String} {idx a : Nat} (hd : decode cc (pcOf i) = .ok (.getstatic idx, 3)) (hp : pcOf (i + 1) = pcOf i + 3) (hq : ∃ q ∈ pStat, q.1 = n ∧ q.2.1 = a) (hw : Cond.fieldLink own idx "BrokeLoop" n "[I" ∈ pWA) : EOK l cc own nL ret R cap pcOf i (oGets a) := by
  intro p e s m args below meth c D κ α A sz L0 Lm r Qc out C hR ls st w rg k j h hk hj H locs lsA hP hz h0 h1 hr hS hl
  obtain ⟨hx, hb, hml, hown, hts, hret, hlk, hKE, hA, hin, hAk, hfr, hLm⟩ := id C
  unfold oGets at h
  obtain ⟨q, hq, rfl, rfl⟩ := hq
  have g := hk _ _ _ _ h H locs lsA hP hz h0 h1 hr hS hl
  rw [hp] at g
  exact va_gets hx hb (hKE.2.2 q hq).1 hS hown (hts _ hw) (fun _ h => h) hd g
theorem okGetsN {n : String} {idx a : Nat} (hd : decode cc (pcOf i) = .ok (.getstatic idx, 3)) (hp : pcOf (i + 1) = pcOf i + 3) (hq : ∃ q ∈ pStat, q.1 = n ∧ q.2.1 = a) (hw : Cond.fieldLinkNest own idx "BrokeLoop" n "[I" "BrokeLoop" ∈ nestW) : EOK l cc own nL ret R cap pcOf i (oGets a) := by
  intro p e s m args below meth c D κ α A sz L0 Lm r Qc out C hR ls st w rg k j h hk hj H locs lsA hP hz h0 h1 hr hS hl
  obtain ⟨hx, hb, hml, hown, hts, hret, hlk, hKE, hA, hin, hAk, hfr, hLm⟩ := id C
  unfold oGets at h
  obtain ⟨q, hq, rfl, rfl⟩ := hq
  have g := hk _ _ _ _ h H locs lsA hP hz h0 h1 hr hS hl
  rw [hp] at g
  exact va_getsN hx hb (hKE.2.2 q hq).1 hS hown (va_Nw.use rfl (hKE.2.1.1 _ hw)) (fun _ h => h) hd g
end ST
/-! the frame of a constructor's call: the object is the newest cell, bare; what is made comes behind it -/
def shVq {X : Type} (q : Nat) (v : Value) (c : Value → Option X) : Option X := match v with
  | .ref p => match Nat.blt p 100000 with
    | true => c (.ref (q + p))
    | false => c (.ref p)
  | .int x => c (.int x)
  | .null => c .null
  | _ => none
def shLs {X : Type} (q : Nat) : List Value → (List Value → Option X) → Option X
  | [], c => c []
  | v :: l, c => shVq q v (fun v' => shLs q l (fun l' => c (v' :: l')))
def shQ (q : Nat) (p : Nat) : Nat := if p < 100000 then q + p else p
def shEq {X : Type} (q : Nat) (e : va_E) (c : va_E → Option X) : Option X := match e with
  | .inr (i, fs) => shLs q fs (fun fs' => c (.inr (i, fs')))
  | .inl (k, n, .inl f) => c (.inl (k, n, .inl f))
  | .inl (k, n, .inr (.inr (.inr (.inr f)))) => c (.inl (k, n, .inr (.inr (.inr (.inr (fun i => (f i).map (shQ q)))))))
  | _ => none
def shW' {X : Type} (q : Nat) : pWd → (pWd → Option X) → Option X
  | [], c => c []
  | e :: w, c => shEq q e (fun e' => shW' q w (fun w' => c (e' :: w')))
def nrB : List Value → Bool
  | [] => true
  | .ref _ :: _ => false
  | _ :: l => nrB l
def lastK {X : Type} : pWd → (pWd → va_E → Option X) → Option X
  | [], _ => none
  | [e], c => c [] e
  | x :: y :: w, c => lastK (y :: w) (fun b e => c (x :: b) e)
def cat2K {X : Type} : pWd → pWd → (pWd → X) → X
  | [], m, c => c m
  | a :: l, m, c => cat2K l m (fun r => c (a :: r))
def intsB : List Value → Bool
  | [] => true
  | .int _ :: l => intsB l
  | _ :: _ => false
def frC (G : pG) : pF := fun args w rg => match args with
  | .ref q :: as => match intsB as with
    | false => none
    | true => lastK w (fun b e => match Nat.beq b.length q with
      | false => none
      | true => match e with
        | .inr (ci, fs) => match nrB fs with
          | false => none
          | true => match G (.ref 0 :: as) [.inr (ci, fs)] with
            | some (none, w1) => shW' q w1 (fun w1' => cat2K b w1' (fun w' => match Nat.ble w'.length 100000 with
              | true => some (none, w', rg)
              | false => none))
            | _ => none
        | _ => none)
  | _ => none
theorem shQ_0 (q p : Nat) : shQ q p = if p < 100000 then q + p else p := rfl
theorem shV_some {X : Type} {q : Nat} {v : Value} {c : Value → Option X} {o : X} (h : shVq q v c = some o) : c (cv (shQ q) v) = some o := by
  unfold shVq at h
  split at h
  next p =>
    split at h
    next hb =>
      show c (.ref (shQ q p)) = _
      rw [shQ_0, if_pos (blt_lt hb)]; exact h
    next hb =>
      show c (.ref (shQ q p)) = _
      have : ¬ p < 100000 := fun z => by
        have h2 : Nat.blt p 100000 = true := Nat.ble_eq_true_of_le z
        rw [h2] at hb; cases hb
      rw [shQ_0, if_neg this]; exact h
  next => exact h
  next => exact h
  next => cases h
theorem shLs_some {X : Type} {q : Nat} : ∀ {l : List Value} {c : List Value → Option X} {o : X}, shLs q l c = some o → c (l.map (cv (shQ q))) = some o
  | [], c, o, h => h
  | v :: l, c, o, h => shLs_some (l := l) (c := fun l' => c (cv (shQ q) v :: l')) (shV_some h)
theorem shE_some {X : Type} {q : Nat} {x : va_E} {c : va_E → Option X} {o : X} (h : shEq q x c = some o) : c (re (shQ q) x) = some o := by
  unfold shEq at h
  split at h
  next i fs => exact shLs_some h
  next => exact h
  next => exact h
  next => cases h
theorem shW'_some {X : Type} {q : Nat} : ∀ {l : pWd} {c : pWd → Option X} {o : X}, shW' q l c = some o → c (l.map (re (shQ q))) = some o
  | [], c, o, h => h
  | v :: l, c, o, h => shW'_some (l := l) (c := fun l' => c (re (shQ q) v :: l')) (shE_some h)
theorem lastK_some {X : Type} : ∀ {w : pWd} {c : pWd → va_E → Option X} {o : X}, lastK w c = some o → ∃ b e, w = b ++ [e] ∧ c b e = some o
  | [], c, o, h => by cases h
  | [e], c, o, h => ⟨[], e, rfl, h⟩
  | x :: y :: w, c, o, h => by
    obtain ⟨b, e, h1, h2⟩ := lastK_some (w := y :: w) (c := fun b e => c (x :: b) e) h
    exact ⟨x :: b, e, by rw [h1]; rfl, h2⟩
theorem cat2K_eq {X : Type} : ∀ (l m : pWd) (c : pWd → X), cat2K l m c = c (l ++ m)
  | [], _, _ => rfl
  | a :: l, m, c => by
    show cat2K l m (fun r => c (a :: r)) = _
    rw [cat2K_eq l m]; rfl
theorem nrB_map (ρ : Nat → Nat) : ∀ {l : List Value}, nrB l = true → l.map (cv ρ) = l
  | [], _ => rfl
  | v :: l, h => by
    cases v with
    | ref p => cases h
    | _ => exact congrArg (List.cons _) (nrB_map ρ (l := l) h)
theorem intsB_map (ρ : Nat → Nat) : ∀ {l : List Value}, intsB l = true → l.map (cv ρ) = l
  | [], _ => rfl
  | v :: l, h => by
    cases v with
    | int p => exact congrArg (List.cons _) (intsB_map ρ (l := l) h)
    | _ => cases h
theorem wget_cat : ∀ {b m : pWd} {k : Nat}, wget (b ++ m) k = if k < b.length then wget b k else wget m (k - b.length)
  | [], m, k => by simp
  | x :: b, m, 0 => by simp [wget]
  | x :: b, m, k + 1 => by
    show wget (b ++ m) k = _
    rw [wget_cat (b := b)]
    by_cases h : k < b.length
    · rw [if_pos h, if_pos (by simp; omega)]; rfl
    · rw [if_neg h, if_neg (by simp; omega)]
      congr 1
      simp
theorem frC_args {G : pG} {args : List Value} {w : pWd} {rg : pRg} {o : pOut} (h : frC G args w rg = some o) : ∃ a as', args = .ref a :: as' := by
  unfold frC at h
  split at h
  next q as => exact ⟨q, as, rfl⟩
  next => cases h
theorem pFOK_frC {l : Launch} {y : MethodName} {ws : List Cond} {rm : Room} {G : pG} (hG : ∀ args0 w0 v0 w1, G args0 w0 = some (v0, w1) → pCT l y ws rm args0 w0 rg00 (v0, w1, rg00)) : pFOK l y ws rm (frC G) := by
  intro args w rg v w' rg' h
  unfold frC at h
  split at h
  next q0 as =>
    split at h
    next => cases h
    next hin =>
      obtain ⟨b, e, hw, h2⟩ := lastK_some h
      clear h
      subst hw
      have h := h2
      clear h2
      split at h
      next => cases h
      next hbl =>
        have hbl0 : b.length = q0 := Nat.eq_of_beq_eq_true hbl
        clear hbl
        obtain ⟨q, hbl⟩ : ∃ q : Nat, b.length = q := ⟨_, rfl⟩
        have e : q = q0 := hbl.symm.trans hbl0
        subst e
        split at h
        next ci fs =>
          split at h
          next => cases h
          next hnr =>
            split at h
            next w1 hg =>
              have h := shW'_some h
              rw [cat2K_eq] at h
              split at h
              next hle =>
                cases h
                have hle := Nat.le_of_ble_eq_true hle
                have hc := hG _ _ _ _ hg
                obtain ⟨c1, c2, c3, -⟩ := id hc
                dsimp only at c1 c2 c3
                have c2 : 1 ≤ w1.length := c2
                have hlen : (b ++ w1.map (re (shQ q))).length = q + w1.length := by rw [List.length_append, List.length_map, hbl]
                rw [hlen] at hle
                have hdm : ∀ {n j}, pDm n rg00.1 j → j < n := fun {n j} hj => by
                  rcases hj with z | z
                  · exact z
                  · have : rg00.1 = 0 := rfl
                    omega
                have hs : ∀ j, j < w1.length → shQ q j = q + j := fun j hj => by rw [shQ_0, if_pos (by omega)]
                refine ⟨shQ q, .ref 0 :: as, [.inr (ci, fs)], rg00, none, w1, rg00, hc, ⟨fun j x hj => ?_, fun j j' hj hj' e => ?_, fun j hj => ?_, fun j h1 h2 => ?_, fun k x hk => ?_, fun z hz => ?_, ?_, rfl⟩, ?_, rfl⟩
                · have h1 := cellOf_00 hj
                  obtain ⟨rfl, rfl⟩ := wget1 h1
                  rw [hs 0 (by omega)]
                  refine cellOf_get ?_
                  show wget (b ++ [.inr (ci, fs)]) (q + 0) = some (.inr (ci, fs.map (cv (shQ q))))
                  rw [nrB_map _ hnr, wget_app, if_pos (by omega)]
                · rw [hs j (hdm hj), hs j' (hdm hj')] at e
                  omega
                · have := hdm hj
                  have hj0 : j < 1 := this
                  rw [hs j (by omega)]
                  refine Or.inl ?_
                  rw [List.length_append, hbl]
                  show q + j < q + 1
                  omega
                · have h1 : 1 ≤ j := h1
                  rw [hs j h2, List.length_append, hbl]
                  show q + j = q + 1 + (j - 1)
                  omega
                · by_cases hk1 : k < q
                  · refine Or.inr ⟨?_, fun j hj => ?_⟩
                    · unfold cellOf at hk ⊢
                      rw [wget_cat, if_pos (by omega)] at hk ⊢
                      exact hk
                    · rw [hs j (hdm hj)]; omega
                  · by_cases hk2 : k < q + w1.length
                    · obtain ⟨x0, hx0⟩ := wget_ex (w := w1) (k := k - q) (by omega)
                      have h1 : wget (b ++ w1.map (re (shQ q))) k = some (re (shQ q) x0) := by
                        rw [wget_cat, if_neg (by omega), hbl, wget_map, hx0]; rfl
                      rw [cellOf_get h1] at hk
                      cases hk
                      exact Or.inl ⟨k - q, x0, Or.inl (by omega), by rw [hs _ (by omega)]; omega, cellOf_get hx0, rfl⟩
                    · refine Or.inr ⟨?_, fun j hj => ?_⟩
                      · unfold cellOf at hk ⊢
                        rw [wget_none (by omega)] at hk
                        have hn : wget (b ++ [(Sum.inr (ci, fs) : va_E)]) k = none := wget_none (by rw [List.length_append, hbl]; show q + 1 ≤ k; omega)
                        rw [hn]
                        exact hk
                      · have := hdm hj
                        rw [hs j this]; omega
                · simp only [pStat, List.mem_cons, List.not_mem_nil, or_false] at hz
                  rcases hz with rfl | rfl | rfl <;> rfl
                · rw [hlen, List.length_append, hbl]
                  show q + w1.length = q + 1 + (w1.length - 1)
                  omega
                · show Value.ref (shQ q 0) :: as.map (cv (shQ q)) = _
                  rw [intsB_map _ hin, hs 0 (by omega)]; rfl
              next => cases h
            next => cases h
        next => cases h
  next => cases h
end
