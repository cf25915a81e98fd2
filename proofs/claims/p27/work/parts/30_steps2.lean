noncomputable section
/-! FURTHER STEPS: rows of loops, new objects and arrays, final fields -/
def wappK {R : Type} : pWd → va_E → (pWd → R) → R
  | [], e, c => c [e]
  | x :: w, e, c => wappK w e (fun w' => c (x :: w'))
theorem wappK_eq {R : Type} : ∀ (w : pWd) (e : va_E) (c : pWd → R), wappK w e c = c (w ++ [e])
  | [], _, _ => rfl
  | x :: w, e, c => by
    show wappK w e (fun w' => c (x :: w')) = _
    rw [wappK_eq w e]; rfl
theorem wget_app : ∀ {w : pWd} {e : va_E} {k : Nat}, wget (w ++ [e]) k = if k = w.length then some e else wget w k
  | [], e, 0 => rfl
  | [], e, k + 1 => by
    rw [if_neg (by simp)]; rfl
  | x :: w, e, 0 => by
    rw [if_neg (by simp)]; rfl
  | x :: w, e, k + 1 => by
    show wget (w ++ [e]) k = _
    rw [wget_app (w := w)]
    show _ = if k + 1 = w.length + 1 then some e else wget w k
    by_cases h : k = w.length
    · rw [if_pos h, if_pos (by omega)]
    · rw [if_neg h, if_neg (by omega)]
theorem cellOf_app {w : pWd} {rg : pRg} {e : va_E} {k : Nat} (h : k ≠ w.length) : cellOf (w ++ [e]) rg k = cellOf w rg k := by
  unfold cellOf
  rw [wget_app, if_neg h]
theorem HP.app {D : va_G} {κ : pKap} {α : Nat → Nat} {w : pWd} {rg : pRg} {H H1 : Heap} {e : va_E} (hP : HP D κ α (cellOf w rg) H) (h1 : va_at D vwCl (α w.length, ce κ α e) H1) (ho : ∀ q : Nat, q < H.size → H1[q]? = H[q]?) : HP D κ α (cellOf (w ++ [e]) rg) H1 := by
  intro k x hk
  by_cases hkw : k = w.length
  · subst hkw
    rw [cellOf_get (show wget (w ++ [e]) w.length = some e by rw [wget_app, if_pos rfl])] at hk
    cases hk
    exact h1
  · rw [cellOf_app hkw] at hk
    exact (hP k x hk).kept (ho _ (hP k x hk).lt)
/-- a row of loops, read -/
def oAald : pEn := fun ls st w rg k _ => match st with
  | .int i :: .ref a :: st' => match wget w a with
    | some (.inl (1, n, .inr (.inr (.inr (.inr f))))) => pif (i < 0 ∨ n ≤ i.toNatClampNeg) none (match f i.toNatClampNeg with
      | some q => k ls (.ref q :: st') w rg
      | none => none)
    | _ => none
  | _ => none
/-- .. and written with a loop -/
def oAast : pEn := fun ls st w rg k _ => match st with
  | .ref v :: .int i :: .ref a :: st' => match wget w a with
    | some (.inl (1, n, .inr (.inr (.inr (.inr f))))) => match wget w v with
      | some (.inr (5, _)) => pif (i < 0 ∨ n ≤ i.toNatClampNeg) none (wsetK w a (.inl (1, n, .inr (.inr (.inr (.inr (va_up f i.toNatClampNeg (some v))))))) (fun w' => k ls st' w' rg))
      | _ => none
    | _ => none
  | _ => none
/-- a new object of the class ci with the fields fs, at the place q -/
def oNew (ci : Nat) (fs : List Value) (q : Nat) : pEn := fun ls st w rg k _ => match Nat.beq w.length q with
  | true => wappK w (.inr (ci, fs)) (fun w' => k ls (.ref q :: st) w' rg)
  | false => none
/-- a new row of n ints -/
def oNewa (n q : Nat) : pEn := fun ls st w rg k _ => match st with
  | .int i :: st' => match decide (i.toInt = (n : Int)) with
    | true => match Nat.beq w.length q with
      | true => wappK w (.inl (0, n, .inl (fun _ => 0))) (fun w' => k ls (.ref q :: st') w' rg)
      | false => none
    | false => none
  | _ => none
/-- .. of n loops -/
def oAnewa (n q : Nat) : pEn := fun ls st w rg k _ => match st with
  | .int i :: st' => match decide (i.toInt = (n : Int)) with
    | true => match Nat.beq w.length q with
      | true => wappK w (.inl (1, n, .inr (.inr (.inr (.inr (fun _ => none)))))) (fun w' => k ls (.ref q :: st') w' rg)
      | false => none
    | false => none
  | _ => none
/-- a reference is put into a final field -/
def oPutFR (ci f : Nat) : pEn := fun ls st w rg k _ => match st with
  | .ref v :: .ref a :: st' => match wget w a with
    | some (.inr (c, fs)) => match Nat.beq c ci with
      | true => match Nat.blt f fs.length with
        | true => vsetK fs f (.ref v) (fun fs' => wsetK w a (.inr (ci, fs')) (fun w' => k ls st' w' rg))
        | false => none
      | false => none
    | _ => none
  | _ => none
def oPutF (ci f : Nat) : pEn := oPut ci f
def oObjInit : pEn := fun ls st w rg k _ => match st with
  | .ref _ :: st' => match Nat.blt st'.length 5 with
    | true => k ls st' w rg
    | false => none
  | _ => none
section FW
variable {p : Program} {l : Launch} {e : Env} {R : Room} {s : State} {m : MethodId} {args : Array Value} {below : List Frame} {meth : Method} {c : Code} {H : Heap} {locs : List Loc} {cells slots : Nat} {Q : State → Prop}
variable {cc : ByteArray} {pc : Nat} {ls : Array Slot} {rest : List Value} {D : va_G} {A : Nat → Prop} {a : Nat} {tys : List (ClassId × FieldType)} {H0 : Heap}
theorem va_S.grow {H1 : Heap} (hS : va_S A H0 H locs) (z1 : H1.size = H.size + 1) (o1 : ∀ q : Nat, q < H.size → H1[q]? = H[q]?) : va_S A H0 H1 locs := ⟨Nat.le_trans hS.1 (by omega), fun x h1 h2 => (o1 x (Nat.lt_of_lt_of_le h1 hS.1)).trans (hS.2.1 x h1 h2), hS.2.2⟩
theorem fw_new (hexec : p.tables.exec = Jvm.exec) (hb : c.code = cc) {own C : String} {T : u_T} {N ci index : Nat} {Ts : List Cond} (hts : ∀ w ∈ Ts, w.before args s = true) (hin : ∀ w ∈ u_ws C T N, w ∈ Ts) (ty : Nat → FieldType) (hty : ∀ k, k < N → parseFieldDescriptor (T k).2.2.1 = some (ty k)) (hown : s.vm.findClass own = some m.cls) (hcl : (Cond.classLink own index C).before args s = true) (hinst : (Cond.instantiable C N).before args s = true) (hini : (Cond.initialized C).before args s = true)
    (hK : va_K D vwCl tys s) (hS : va_S A H0 H locs) (hc : vwCl[ci]? = some (C, T, N)) {fs : List Value} (hfs : ∀ j, j < N → defaultValue (ty j) = vp_V fs j) (hcells : cells + 1 ≤ R.cells) (hslots : slots + N ≤ R.slots) (hdg : decode cc pc = .ok (.new index, 3))
    (kk : ∀ (H1 : Heap), va_at D vwCl (H.size, .inr (ci, fs)) H1 → H1.size = H.size + 1 → (∀ q : Nat, q < H.size → H1[q]? = H[q]?) → va_S A H0 H1 locs →
      W p l e R s m args below meth c H1 locs (cells + 1) (slots + N) Q (F0 m (pc + 3) ls (.ref H.size :: rest))) : W p l e R s m args below meth c H locs cells slots Q (F0 m pc ls rest) := by
  have hKn := hK.1 ci _ hc
  refine W.newcK hexec hb hown hcl hinst hini rfl hdg hcells hslots hKn.2.1 rfl fun H1 kC hkC e1 z1 o1 => ?_
  exact kk H1 ⟨_, hc, (u_born ty hts hin hKn hkC e1 hty).to hfs⟩ z1 o1 (hS.grow z1 o1)
theorem fw_newa (hexec : p.tables.exec = Jvm.exec) (hb : c.code = cc) (harr : (Cond.arrayClass .int).before args s = true) {cA : ClassId} (hK : va_K D vwCl tys s) (t0 : Nat) (ht : tys[t0]? = some (cA, .int)) (hS : va_S A H0 H locs)
    {n : Int32} {N : Nat} (hn : ¬ n < 0) (hN : n.toNatClampNeg = N) (hbytes : N * 4 ≤ 536870912) (hcells : cells + 1 ≤ R.cells) (hslots : slots + N ≤ R.slots) (hdg : decode cc pc = .ok (.newarray .int, 2))
    (kk : ∀ (H1 : Heap), va_at D vwCl (H.size, .inl (cA, N, .inl (fun _ => 0))) H1 → H1.size = H.size + 1 → (∀ q : Nat, q < H.size → H1[q]? = H[q]?) → va_S A H0 H1 locs →
      W p l e R s m args below meth c H1 locs (cells + 1) (slots + N) Q (F0 m (pc + 2) ls (.ref H.size :: rest))) : W p l e R s m args below meth c H locs cells slots Q (F0 m pc ls (.int n :: rest)) := by
  refine va_newaK (atype := .int) hexec hb harr rfl hdg rfl hn hN hbytes hcells hslots rfl fun H1 cB e1 z1 o1 hAr hNm => ?_
  have h0 := (hK.2 t0 _ ht).2
  have e : cB = cA := Option.some.inj (hNm.symm.trans h0)
  subst e
  refine kk H1 ?_ z1 o1 (hS.grow z1 o1)
  show H1[H.size]? = some (vp_cell cB (N, .inl (fun _ => 0)))
  rw [vp_cell_i]
  exact e1
theorem fw_anewa (hexec : p.tables.exec = Jvm.exec) (hb : c.code = cc) {own C : String} {index : Nat} (hown : s.vm.findClass own = some m.cls) (hclink : (Cond.classLink own index C).before args s = true) (hover : (Cond.arrayOver (.object C)).before args s = true) {cA : ClassId} (hK : va_K D vwCl tys s) (t0 : Nat) (ht : tys[t0]? = some (cA, .object C)) (hS : va_S A H0 H locs)
    {n : Int32} {N : Nat} (hn : ¬ n < 0) (hN : n.toNatClampNeg = N) (hbytes : N * 4 ≤ 536870912) (hcells : cells + 1 ≤ R.cells) (hslots : slots + N ≤ R.slots) (hdg : decode cc pc = .ok (.anewarray index, 3))
    (kk : ∀ (H1 : Heap), va_at D vwCl (H.size, .inl (cA, N, .inr (.inr (.inr (.inr (fun _ => none)))))) H1 → H1.size = H.size + 1 → (∀ q : Nat, q < H.size → H1[q]? = H[q]?) → va_S A H0 H1 locs →
      W p l e R s m args below meth c H1 locs (cells + 1) (slots + N) Q (F0 m (pc + 3) ls (.ref H.size :: rest))) : W p l e R s m args below meth c H locs cells slots Q (F0 m pc ls (.int n :: rest)) := by
  subst hN
  refine W.anew hexec hb hown hclink hover rfl hdg rfl hn hbytes hcells hslots fun cB kA comp f1 f2 f3 f4 => ?_
  generalize hH1 : H.push ({ cls := cB, slots := Array.replicate n.toNatClampNeg .null, vm := .none } : Cell) = H1
  have z1 : H1.size = H.size + 1 := by rw [← hH1, Array.size_push]
  have e1 : H1[H.size]? = some (arrV cB n.toNatClampNeg (fun _ => .null)) := by rw [← hH1, Array.getElem?_push_size, ← arrV_new]
  have o1 : ∀ q : Nat, q < H.size → H1[q]? = H[q]? := fun q hq => by rw [← hH1, Array.getElem?_push, if_neg (Nat.ne_of_lt hq)]
  obtain ⟨kA', comp', -, -, -, g4⟩ := (hK.2 t0 _ ht).2
  have e : cB = cA := Option.some.inj (f1.symm.trans g4)
  subst e
  refine kk H1 ?_ z1 o1 (hS.grow z1 o1)
  show H1[H.size]? = some (vp_cell cB (n.toNatClampNeg, .inr (.inr (.inr (.inr (fun _ => none))))))
  rw [vp_cell_q]
  exact e1
theorem fw_aast (hexec : p.tables.exec = Jvm.exec) (hb : c.code = cc) (hK : va_K D vwCl tys s) (hS : va_S A H0 H locs) (t0 : Nat) {cA : ClassId} {r : vw_C} {ci n v : Nat} {vs : List Value} {f : Nat → Option Nat} (hat : va_at D vwCl (a, .inl (cA, n, .inr (.inr (.inr (.inr f))))) H) (hAa : A a) (ht : tys[t0]? = some (cA, .object r.1)) (hv : va_at D vwCl (v, .inr (ci, vs)) H) (hc : vwCl[ci]? = some r) {i : Int32} (hin : vp_in i n) (hdg : decode cc pc = .ok (.aastore, 1))
    (kk : ∀ (H1 : Heap) (locs1 : List Loc), va_at D vwCl (a, .inl (cA, n, .inr (.inr (.inr (.inr (va_up f i.toNatClampNeg (some v))))))) H1 → H1.size = H.size → (∀ q : Nat, q ≠ a → H1[q]? = H[q]?) → va_S A H0 H1 locs1 → W p l e R s m args below meth c H1 locs1 cells slots Q (F0 m (pc + 1) ls rest)) : W p l e R s m args below meth c H locs cells slots Q (F0 m pc ls (.ref v :: .int i :: .ref a :: rest)) := by
  have hlt : i.toNatClampNeg < n := Nat.not_le.mp fun q => hin (Or.inr q)
  have h0 : ¬ i < 0 := fun q => hin (Or.inl q)
  obtain ⟨r', hr', cellV, g1, g2, g3, -⟩ := hv
  have hcls := (hK.1 ci r hc).2
  obtain ⟨kA, comp, k1, k2, k3, -⟩ := (hK.2 t0 _ ht).2
  have hcomp : comp = D.1 ci := Option.some.inj (k3.symm.trans hcls.1)
  subst hcomp
  obtain ⟨kC, hkC, -⟩ := hcls.2
  refine W.aast hexec hb hat (fun q h => by cases h) (fun h => by cases h) k1 k2 rfl hkC ⟨h0, by show _ < (arrV _ _ _).slots.size; rw [arrV_size]; exact hlt⟩ g1 (fun q h => by rw [g3] at h; cases h) (by rw [g2]; exact hkC) (by rw [g2]; exact va_assign hcls) rfl rfl hdg fun H1 e z oq => ?_
  refine kk H1 _ ?_ z oq (hS.put z oq hAa)
  show H1[a]? = some (vp_cell _ _)
  rw [e]
  rw [vp_cell_q, vp_cell_q, arrV_store]
  congr 2
  funext q
  by_cases hq : q = i.toNatClampNeg
  · subst hq
    simp [updV, va_up, va_rf]
  · simp [updV, va_up, hq]
end FW
section ST
variable {l : Launch} {R : Room} {cc : ByteArray} {own : String} {nL cap : Nat} {ret : Option FieldType} {pcOf : Nat → Nat} {i : Nat}
theorem okAald (hd : decode cc (pcOf i) = .ok (.aaload, 1)) (hp : pcOf (i + 1) = pcOf i + 1) : EOK l cc own nL ret R cap pcOf i oAald := by
  intro p e s m args below meth c D κ α A sz L0 Lm r Qc out C hR ls st w rg k j h hk hj H locs lsA hP hz h0 h1 hr hS hl
  obtain ⟨hx, hb, hml, hown, hts, hret, hlk, hKE, hA, hin, hAk, hfr, hLm⟩ := id C
  unfold oAald at h
  split at h
  next x a st' =>
    split at h
    next n f hg =>
      by_cases hv : x < 0 ∨ n ≤ x.toNatClampNeg
      · have h := (pif_t hv).symm.trans h; cases h
      · have h := (pif_f hv).symm.trans h
        split at h
        next q hq =>
          have g := hk _ _ _ _ h H locs lsA hP hz h0 h1 hr hS hl
          rw [hp] at g
          refine va_aldq (D := D) (cl := vwCl) (tys := pTys κ) (ws := [(α a, ce κ α (.inl (1, n, .inr (.inr (.inr (.inr f))))))]) hx hb hKE.1 (va_one (hP a _ (cellOf_get hg))) 0 1 (cA := κ 1) (C := "BrokeLoop$Loop") (f := fun i => (f i).map α) rfl rfl hv hd ?_
          rw [hq]
          exact g
        next => cases h
    next => cases h
  next => cases h
theorem ca_up (α : Nat → Nat) (f : Nat → Option Nat) (i v n : Nat) : ca α (n, .inr (.inr (.inr (.inr (va_up f i (some v)))))) = (n, .inr (.inr (.inr (.inr (va_up (fun i => (f i).map α) i (some (α v))))))) := by
  show (n, Sum.inr (Sum.inr (Sum.inr (Sum.inr (fun j => (va_up f i (some v) j).map α))))) = _
  congr 5
  funext j
  unfold va_up
  by_cases h : j = i
  · rw [if_pos h, if_pos h]; rfl
  · rw [if_neg h, if_neg h]
theorem okAast (hd : decode cc (pcOf i) = .ok (.aastore, 1)) (hp : pcOf (i + 1) = pcOf i + 1) : EOK l cc own nL ret R cap pcOf i oAast := by
  intro p e s m args below meth c D κ α A sz L0 Lm r Qc out C hR ls st w rg k j h hk hj H locs lsA hP hz h0 h1 hr hS hl
  obtain ⟨hx, hb, hml, hown, hts, hret, hlk, hKE, hA, hin, hAk, hfr, hLm⟩ := id C
  unfold oAast at h
  split at h
  next v x a st' =>
    split at h
    next n f hg =>
      split at h
      next vs hg2 =>
        by_cases hv : x < 0 ∨ n ≤ x.toNatClampNeg
        · have h := (pif_t hv).symm.trans h; cases h
        · have h := (pif_f hv).symm.trans h
          rw [wsetK_eq] at h
          have had : pDm Lm r a := Or.inl (Nat.lt_of_lt_of_le (wget_lt hg) h1)
          refine fw_aast (D := D) (tys := pTys κ) hx hb hKE.1 hS 1 (cA := κ 1) (r := ("BrokeLoop$Loop", _, _)) (ci := 5) (vs := vs.map (cv α)) (f := fun i => (f i).map α) (hP a _ (cellOf_get hg)) (hAk a had) rfl (hP v _ (cellOf_get hg2)) rfl hv hd (fun H1 locs1 k1 k2 k3 k4 => ?_)
          have hP1 := HP.put (e1 := .inl (1, n, .inr (.inr (.inr (.inr (va_up f x.toNatClampNeg (some v))))))) hP h1 (by rw [hr]; exact hin) hg (by
            show va_at D vwCl (α a, .inl (κ 1, ca α (n, .inr (.inr (.inr (.inr (va_up f x.toNatClampNeg (some v)))))))) H1
            rw [ca_up]; exact k1) k3
          have g := hk _ _ _ _ h H1 locs1 lsA hP1 (by rw [wset_len, k2]; exact hz) (by rw [wset_len]; exact h0) (by rw [wset_len]; exact h1) hr k4 hl
          rw [hp, wset_len] at g
          exact g
      next => cases h
    next => cases h
  next => cases h
theorem okNew {C : String} {T : u_T} {N ci idx q : Nat} {fs : List Value} {ty0 : Nat → FieldType} (hd : decode cc (pcOf i) = .ok (.new idx, 3)) (hp : pcOf (i + 1) = pcOf i + 3) (hc : vwCl[ci]? = some (C, T, N)) (hlin : ∀ w ∈ u_ws C T N, w ∈ pWA) (hty : ∀ k, k < N → parseFieldDescriptor (T k).2.2.1 = some (ty0 k)) (w1 : Cond.classLink own idx C ∈ pWA) (w2 : Cond.instantiable C N ∈ pWA) (w3 : Cond.initialized C ∈ pWA) (hfs : ∀ j, j < N → defaultValue (ty0 j) = vp_V fs j) (hfm : ∀ α, fs.map (cv α) = fs) (hN : N ≤ 1000) (hq : q + 1 ≤ cap) : EOK l cc own nL ret R cap pcOf i (oNew ci fs q) := by
  intro p e s m args below meth c D κ α A sz L0 Lm r Qc out C0 hR ls st w rg k j h hk hj H locs lsA hP hz h0 h1 hr hS hl
  obtain ⟨hx, hb, hml, hown, hts, hret, hlk, hKE, hA, hin, hAk, hfr, hLm, hcc, hcs, hcap⟩ := id C0
  unfold oNew at h
  split at h
  next hbq =>
    have hwq : w.length = q := Nat.eq_of_beq_eq_true hbq
    subst hwq
    rw [wappK_eq] at h
    have hfr1 : α w.length = H.size := by rw [hfr _ h0 (by omega), hz]
    refine fw_new (D := D) (tys := pTys κ) hx hb hts hlin ty0 hty hown (hts _ w1) (hts _ w2) (hts _ w3) hKE.1 hS hc hfs (by omega) (by omega) hd (fun H1 k1 k2 k3 k4 => ?_)
    have hP1 := HP.app (e := .inr (ci, fs)) hP (by
      show va_at D vwCl (α w.length, .inr (ci, fs.map (cv α))) H1
      rw [hfm, hfr1]; exact k1) k3
    have hlen : (w ++ [(.inr (ci, fs) : va_E)]).length = w.length + 1 := by simp
    have g := hk _ _ _ _ h H1 locs lsA hP1 (by rw [hlen, k2]; omega) (by rw [hlen]; omega) (by rw [hlen]; omega) hr k4 hl
    rw [hp, hlen] at g
    refine W.widen (k := w.length + 1 - L0) (n := 1000 * (w.length + 1 - L0)) (by omega) (by omega) ?_
    rw [← hfr1]
    exact g
  next => cases h
theorem i_natN {x : Int32} {n : Nat} (h : x.toInt = (n : Int)) : ¬ x < 0 ∧ x.toNatClampNeg = n := by
  refine ⟨fun q => ?_, ?_⟩
  · have := Int32.lt_iff_toInt_lt.mp q
    rw [h] at this
    simp at this
    omega
  · show x.toInt.toNat = n
    rw [h]; simp
theorem okNewa {n q : Nat} (hd : decode cc (pcOf i) = .ok (.newarray .int, 2)) (hp : pcOf (i + 1) = pcOf i + 2) (w1 : Cond.arrayClass .int ∈ pWA) (hn : n ≤ 1000) (hq : q + 1 ≤ cap) : EOK l cc own nL ret R cap pcOf i (oNewa n q) := by
  intro p e s m args below meth c D κ α A sz L0 Lm r Qc out C0 hR ls st w rg k j h hk hj H locs lsA hP hz h0 h1 hr hS hl
  obtain ⟨hx, hb, hml, hown, hts, hret, hlk, hKE, hA, hin, hAk, hfr, hLm, hcc, hcs, hcap⟩ := id C0
  unfold oNewa at h
  split at h
  next x st' =>
    split at h
    next hdec =>
      obtain ⟨q1, q2⟩ := i_natN (of_decide_eq_true hdec)
      split at h
      next hbq =>
        have hwq : w.length = q := Nat.eq_of_beq_eq_true hbq
        subst hwq
        rw [wappK_eq] at h
        have hfr1 : α w.length = H.size := by rw [hfr _ h0 (by omega), hz]
        refine fw_newa (D := D) (tys := pTys κ) hx hb (hts _ w1) (cA := κ 0) hKE.1 0 rfl hS q1 q2 (by omega) (by omega) (by omega) hd (fun H1 k1 k2 k3 k4 => ?_)
        have hP1 := HP.app (e := .inl (0, n, .inl (fun _ => 0))) hP (by
          show va_at D vwCl (α w.length, .inl (κ 0, n, .inl (fun _ => 0))) H1
          rw [hfr1]; exact k1) k3
        have hlen : (w ++ [(.inl (0, n, .inl (fun _ => 0)) : va_E)]).length = w.length + 1 := by simp
        have g := hk _ _ _ _ h H1 locs lsA hP1 (by rw [hlen, k2]; omega) (by rw [hlen]; omega) (by rw [hlen]; omega) hr k4 hl
        rw [hp, hlen] at g
        refine W.widen (k := w.length + 1 - L0) (n := 1000 * (w.length + 1 - L0)) (by omega) (by omega) ?_
        rw [← hfr1]
        exact g
      next => cases h
    next => cases h
  next => cases h
theorem okAnewa {n q idx : Nat} (hd : decode cc (pcOf i) = .ok (.anewarray idx, 3)) (hp : pcOf (i + 1) = pcOf i + 3) (w1 : Cond.classLink own idx "BrokeLoop$Loop" ∈ pWA) (hn : n ≤ 1000) (hq : q + 1 ≤ cap) : EOK l cc own nL ret R cap pcOf i (oAnewa n q) := by
  intro p e s m args below meth c D κ α A sz L0 Lm r Qc out C0 hR ls st w rg k j h hk hj H locs lsA hP hz h0 h1 hr hS hl
  obtain ⟨hx, hb, hml, hown, hts, hret, hlk, hKE, hA, hin, hAk, hfr, hLm, hcc, hcs, hcap⟩ := id C0
  unfold oAnewa at h
  split at h
  next x st' =>
    split at h
    next hdec =>
      obtain ⟨q1, q2⟩ := i_natN (of_decide_eq_true hdec)
      split at h
      next hbq =>
        have hwq : w.length = q := Nat.eq_of_beq_eq_true hbq
        subst hwq
        rw [wappK_eq] at h
        have hfr1 : α w.length = H.size := by rw [hfr _ h0 (by omega), hz]
        refine fw_anewa (D := D) (tys := pTys κ) hx hb hown (hts _ w1) (va_AO.use hKE.2.1.2) (cA := κ 1) hKE.1 1 rfl hS q1 q2 (by omega) (by omega) (by omega) hd (fun H1 k1 k2 k3 k4 => ?_)
        have hP1 := HP.app (e := .inl (1, n, .inr (.inr (.inr (.inr (fun _ => none)))))) hP (by
          show va_at D vwCl (α w.length, .inl (κ 1, n, .inr (.inr (.inr (.inr (fun _ => none)))))) H1
          rw [hfr1]; exact k1) k3
        have hlen : (w ++ [(.inl (1, n, .inr (.inr (.inr (.inr (fun _ => none))))) : va_E)]).length = w.length + 1 := by simp
        have g := hk _ _ _ _ h H1 locs lsA hP1 (by rw [hlen, k2]; omega) (by rw [hlen]; omega) (by rw [hlen]; omega) hr k4 hl
        rw [hp, hlen] at g
        refine W.widen (k := w.length + 1 - L0) (n := 1000 * (w.length + 1 - L0)) (by omega) (by omega) ?_
        rw [← hfr1]
        exact g
      next => cases h
    next => cases h
  next => cases h
/-- a step that is made in a constructor alone -/
def EOKi (l : Launch) (cc : ByteArray) (own : String) (nL : Nat) (ret : Option FieldType) (R : Room) (cap : Nat) (pcOf : Nat → Nat) (i : Nat) (en : pEn) : Prop := own = own ∧ EOK l cc own nL ret R cap pcOf i en
end ST
end
