noncomputable section
/-! THE STEPS THAT TOUCH THE HEAP, AND THE ENDS -/
section FW
variable {p : Program} {l : Launch} {e : Env} {R : Room} {s : State} {m : MethodId} {args : Array Value} {below : List Frame} {meth : Method} {c : Code} {H : Heap} {locs : List Loc} {cells slots : Nat} {Q : State → Prop}
variable {cc : ByteArray} {pc : Nat} {ls : Array Slot} {rest : List Value} {D : va_G} {A : Nat → Prop} {a : Nat} {tys : List (ClassId × FieldType)} {H0 : Heap}
/-- a field is put: the cell, and that all other cells stay -/
theorem fw_put (hexec : p.tables.exec = Jvm.exec) (hb : c.code = cc) {own ref C : String} {T : u_T} {N ci index : Nat} {Ts : List Cond} (hts : ∀ w ∈ Ts, w.before args s = true) (hin : ∀ w ∈ u_ws C T N, w ∈ Ts) (ty0 : Nat → FieldType) (hty : ∀ k, k < N → parseFieldDescriptor (T k).2.2.1 = some (ty0 k)) (hnm : ∀ a, a < N → ∀ b, b < N → a ≠ b → (T a).2.1 ≠ (T b).2.1) (hown : s.vm.findClass own = some m.cls) (hK : va_K D vwCl tys s) {fs : List Value} (hat : va_at D vwCl (a, .inr (ci, fs)) H) (hS0 : va_S A H0 H locs) (hAa : A a) (hc : vwCl[ci]? = some (C, T, N)) (k : Nat) (hk : k < N) (hlink : (Cond.fieldLink own index ref (T k).2.1 (T k).2.2.1).before args s = true) (hsame : ∀ x, s.fieldFound? (T k).1 (T k).2.1 (T k).2.2.1 = some x → s.fieldFound? ref (T k).2.1 (T k).2.2.1 = some x) (hfin : (T k).2.2.2 = false) {ty : FieldType} {v : Value} (hd : parseFieldDescriptor (T k).2.2.1 = some ty) (hn : narrow ty v = v) (hfit : fits ty v = true) (hl : k < fs.length)
    (hdg : decode cc pc = .ok (.putfield index, 3)) (kk : ∀ (H1 : Heap) (locs1 : List Loc), va_at D vwCl (a, .inr (ci, fs.set k v)) H1 → H1.size = H.size → (∀ q : Nat, q ≠ a → H1[q]? = H[q]?) → va_S A H0 H1 locs1 → W p l e R s m args below meth c H1 locs1 cells slots Q (F0 m (pc + 3) ls rest)) : W p l e R s m args below meth c H locs cells slots Q (F0 m pc ls (v :: .ref a :: rest)) := by
  have hap := va_apart (own := own) hts hin ty0 hty hnm hK hc
  obtain ⟨r, h1, cell, q1, q2, q3, q4⟩ := hat
  have hr : r = (C, T, N) := Option.some.inj (h1.symm.trans hc)
  subst hr
  obtain ⟨hS, hfc, kC, hkC, hkind⟩ := hK.1 ci _ hc
  obtain ⟨cf, kf, fi, f, hi, hsl⟩ := hS k hk
  have hlay := hts _ (hin _ (u_in_lay hk))
  unfold u_lay at hlay
  rw [if_neg (by rw [hfin]; decide)] at hlay
  have hst := (u_facts hfc hkC (u_lays hts hin hk) hi).1
  have h6 := u_store hfc hkC hkind hlay hi hd hn hfit
  refine W.putK hexec hb (f := f) ⟨hown, hlink, ⟨_, _, _, hsame _ hi⟩, hst⟩ (by rw [q2]; exact h6) q1 q3 (by rw [hsl]; exact k2_hasslot (q4 k hk)) rfl rfl hdg fun H' e1 e2 e3 => ?_
  rw [hsl] at e1 ⊢
  exact kk H' _ ⟨_, hc, t_OB.to (V := updV (vp_V fs) k v) ⟨_, e1, q2, q3, t_set q4 hap hk v⟩ (fun j _ => vp_updV_set hl v j)⟩ e2 e3 (hS0.put e2 e3 hAa)
/-- .. a final one, in its class's constructor -/
theorem fw_putF (hexec : p.tables.exec = Jvm.exec) (hb : c.code = cc) {own ref C : String} {T : u_T} {N ci index : Nat} {Ts : List Cond} (hts : ∀ w ∈ Ts, w.before args s = true) (hin : ∀ w ∈ u_ws C T N, w ∈ Ts) (ty0 : Nat → FieldType) (hty : ∀ k, k < N → parseFieldDescriptor (T k).2.2.1 = some (ty0 k)) (hnm : ∀ a, a < N → ∀ b, b < N → a ≠ b → (T a).2.1 ≠ (T b).2.1) (hown : s.vm.findClass own = some m.cls) (hK : va_K D vwCl tys s) {fs : List Value} (hat : va_at D vwCl (a, .inr (ci, fs)) H) (hS0 : va_S A H0 H locs) (hAa : A a) (hc : vwCl[ci]? = some (C, T, N)) (k : Nat) (hk : k < N) (hlink : (Cond.fieldLink own index ref (T k).2.1 (T k).2.2.1).before args s = true) (hsame : ∀ x, s.fieldFound? (T k).1 (T k).2.1 (T k).2.2.1 = some x → s.fieldFound? ref (T k).2.1 (T k).2.2.1 = some x) (hfin : (T k).2.2.2 = true) (hin2 : meth.name = "<init>") (hdecl : (T k).1 = own) {ty : FieldType} {v : Value} (hd : parseFieldDescriptor (T k).2.2.1 = some ty) (hn : narrow ty v = v) (hfit : fits ty v = true) (hl : k < fs.length)
    (hdg : decode cc pc = .ok (.putfield index, 3)) (kk : ∀ (H1 : Heap) (locs1 : List Loc), va_at D vwCl (a, .inr (ci, fs.set k v)) H1 → H1.size = H.size → (∀ q : Nat, q ≠ a → H1[q]? = H[q]?) → va_S A H0 H1 locs1 → W p l e R s m args below meth c H1 locs1 cells slots Q (F0 m (pc + 3) ls rest)) : W p l e R s m args below meth c H locs cells slots Q (F0 m pc ls (v :: .ref a :: rest)) := by
  have hap := va_apart (own := own) hts hin ty0 hty hnm hK hc
  obtain ⟨r, h1, cell, q1, q2, q3, q4⟩ := hat
  have hr : r = (C, T, N) := Option.some.inj (h1.symm.trans hc)
  subst hr
  obtain ⟨hS, hfc, kC, hkC, hkind⟩ := hK.1 ci _ hc
  obtain ⟨cf, kf, fi, f, hi, hsl⟩ := hS k hk
  have hlay := hts _ (hin _ (u_in_lay hk))
  unfold u_lay at hlay
  rw [if_pos hfin] at hlay
  have hst := (u_facts hfc hkC (u_lays hts hin hk) hi).1
  have hcf : m.cls = cf := by
    obtain ⟨_, _, c', _, _, _, -, -, hf', -, -, -, hown2, -⟩ := Cond.laysFinal_spec hlay
    have e1 : c' = cf := by have := hi.symm.trans hf'; simp at this; exact this.1.symm
    rw [hdecl] at hown2
    rw [← e1]; exact Option.some.inj (hown.symm.trans hown2)
  have h6 := u_fits hfc hkC hkind (Or.inr hlay) hi hd hn hfit
  refine W.putFinK hexec hb hown hlink (hsame _ hi) hst hcf hin2 (by rw [q2]; exact h6) q1 q3 (by rw [hsl]; exact k2_hasslot (q4 k hk)) rfl rfl hdg fun H' e1 e2 e3 => ?_
  rw [hsl] at e1 ⊢
  exact kk H' _ ⟨_, hc, t_OB.to (V := updV (vp_V fs) k v) ⟨_, e1, q2, q3, t_set q4 hap hk v⟩ (fun j _ => vp_updV_set hl v j)⟩ e2 e3 (hS0.put e2 e3 hAa)
theorem fw_iast (hexec : p.tables.exec = Jvm.exec) (hb : c.code = cc) (hK : va_K D vwCl tys s) (hS : va_S A H0 H locs) (t0 : Nat) {cA : ClassId} {n : Nat} {f : Nat → Int32} (hat : va_at D vwCl (a, .inl (cA, n, .inl f)) H) (hAa : A a) (ht : tys[t0]? = some (cA, .int)) {i x : Int32} (hin : vp_in i n) (hdg : decode cc pc = .ok (.iastore, 1))
    (kk : ∀ (H1 : Heap) (locs1 : List Loc), va_at D vwCl (a, .inl (cA, n, .inl (upd f i.toNatClampNeg x))) H1 → H1.size = H.size → (∀ q : Nat, q ≠ a → H1[q]? = H[q]?) → va_S A H0 H1 locs1 → W p l e R s m args below meth c H1 locs1 cells slots Q (F0 m (pc + 1) ls rest)) : W p l e R s m args below meth c H locs cells slots Q (F0 m pc ls (.int x :: .int i :: .ref a :: rest)) := by
  refine W.iast hexec hb hat ((hK.2 t0 _ ht).1 n (fun j => .int (f j))) (fun q => by cases q) (by show ¬ (i < 0 ∨ (arrV _ _ _).slots.size ≤ _); rw [arrV_size]; exact hin) rfl rfl hdg fun H1 e z oq => ?_
  refine kk H1 _ ?_ z oq (hS.put z oq hAa)
  show H1[a]? = some (vp_cell _ _)
  rw [e, vp_cell_i, vp_cell_i, arrV_store]
  congr 2
  funext q
  by_cases hq : q = i.toNatClampNeg
  · subst hq
    simp [updV, upd]
  · simp [updV, upd, hq]
end FW
section ST
variable {l : Launch} {R : Room} {cc : ByteArray} {own : String} {nL cap : Nat} {ret : Option FieldType} {pcOf : Nat → Nat} {i : Nat}
theorem blt_lt {a b : Nat} (h : Nat.blt a b = true) : a < b := Nat.le_of_ble_eq_true h
theorem va_one {D : va_G} {q : Nat × va_E} {H : Heap} (h : va_at D vwCl q H) : va_P D vwCl [q] H := fun k x hk => by
  cases k with
  | zero => cases hk; exact h
  | succ k => simp at hk
theorem okGet {C : String} {T : u_T} {N ci f idx : Nat} (hd : decode cc (pcOf i) = .ok (.getfield idx, 3)) (hp : pcOf (i + 1) = pcOf i + 3) (hc : vwCl[ci]? = some (C, T, N)) (hf : f < N) (hlin : ∀ w ∈ u_ws C T N, w ∈ pWA) (hw : Cond.fieldLink own idx (T f).1 (T f).2.1 (T f).2.2.1 ∈ pWA) : EOK l cc own nL ret R cap pcOf i (oGet ci f) := by
  intro p e s m args below meth c D κ α A sz L0 Lm r Qc out C hR ls st w rg k j h hk hj H locs lsA hP hz h0 h1 hr hS hl
  obtain ⟨hx, hb, hml, hown, hts, hret, hlk, hKE, hA, hin, hAk, hfr, hLm⟩ := id C
  unfold oGet at h
  split at h
  next a st' =>
    split at h
    next c0 fs hg =>
      split at h
      next hcb =>
        split at h
        next v hv =>
          have hce : c0 = ci := Nat.eq_of_beq_eq_true hcb
          subst hce
          have g := hk _ _ _ _ h H locs lsA hP hz h0 h1 hr hS hl
          rw [hp] at g
          rw [vget_eq] at hv
          exact va_get (D := D) (cl := vwCl) (tys := pTys κ) (ws := [(α a, ce κ α (.inr (c0, fs)))]) hx hb hts hlin hown hKE.1 (va_one (hP a _ (cellOf_get hg))) 0 (fs := fs.map (cv α)) rfl hc f hf (hts _ hw) (fun _ h => h) (v := cv α v) (by simp [List.getElem?_map, hv]) hd g
        next => cases h
      next => cases h
    next => cases h
  next => cases h
theorem okPut {C : String} {T : u_T} {N ci f idx : Nat} {ty0 : Nat → FieldType} (hd : decode cc (pcOf i) = .ok (.putfield idx, 3)) (hp : pcOf (i + 1) = pcOf i + 3) (hc : vwCl[ci]? = some (C, T, N)) (hf : f < N) (hlin : ∀ w ∈ u_ws C T N, w ∈ pWA) (hty : ∀ k, k < N → parseFieldDescriptor (T k).2.2.1 = some (ty0 k)) (hnm : ∀ a, a < N → ∀ b, b < N → a ≠ b → (T a).2.1 ≠ (T b).2.1) (ht : ty0 f = .int) (hfin : (T f).2.2.2 = false) (hw : Cond.fieldLink own idx (T f).1 (T f).2.1 (T f).2.2.1 ∈ pWA) : EOK l cc own nL ret R cap pcOf i (oPut ci f) := by
  intro p e s m args below meth c D κ α A sz L0 Lm r Qc out C hR ls st w rg k j h hk hj H locs lsA hP hz h0 h1 hr hS hl
  obtain ⟨hx, hb, hml, hown, hts, hret, hlk, hKE, hA, hin, hAk, hfr, hLm⟩ := id C
  unfold oPut at h
  split at h
  next v a st' =>
    split at h
    next c0 fs hg =>
      split at h
      next hcb =>
        split at h
        next hlt =>
          have hce : c0 = ci := Nat.eq_of_beq_eq_true hcb
          subst hce
          rw [vsetK_eq, wsetK_eq] at h
          have hlen : f < fs.length := blt_lt hlt
          have had : pDm Lm r a := Or.inl (Nat.lt_of_lt_of_le (wget_lt hg) h1)
          refine fw_put (D := D) (tys := pTys κ) hx hb hts hlin ty0 hty hnm hown hKE.1 (fs := fs.map (cv α)) (hP a _ (cellOf_get hg)) hS (hAk a had) hc f hf (hts _ hw) (fun _ h => h) hfin (ty := .int) (v := .int v) ((hty f hf).trans (by rw [ht])) rfl rfl (by simpa using hlen) hd (fun H1 locs1 k1 k2 k3 k4 => ?_)
          have hP1 := HP.put (e1 := .inr (c0, fs.set f (.int v))) hP h1 (by rw [hr]; exact hin) hg (by
            show va_at D vwCl (α a, .inr (c0, (fs.set f (.int v)).map (cv α))) H1
            rw [List.map_set]; exact k1) k3
          have g := hk _ _ _ _ h H1 locs1 lsA hP1 (by rw [wset_len, k2]; exact hz) (by rw [wset_len]; exact h0) (by rw [wset_len]; exact h1) hr k4 hl
          rw [hp, wset_len] at g
          exact g
        next => cases h
      next => cases h
    next => cases h
  next => cases h
theorem okPutB {C : String} {T : u_T} {N ci f idx : Nat} {ty0 : Nat → FieldType} (hd : decode cc (pcOf i) = .ok (.putfield idx, 3)) (hp : pcOf (i + 1) = pcOf i + 3) (hc : vwCl[ci]? = some (C, T, N)) (hf : f < N) (hlin : ∀ w ∈ u_ws C T N, w ∈ pWA) (hty : ∀ k, k < N → parseFieldDescriptor (T k).2.2.1 = some (ty0 k)) (hnm : ∀ a, a < N → ∀ b, b < N → a ≠ b → (T a).2.1 ≠ (T b).2.1) (ht : ty0 f = .boolean) (hfin : (T f).2.2.2 = false) (hw : Cond.fieldLink own idx (T f).1 (T f).2.1 (T f).2.2.1 ∈ pWA) : EOK l cc own nL ret R cap pcOf i (oPutB ci f) := by
  intro p e s m args below meth c D κ α A sz L0 Lm r Qc out C hR ls st w rg k j h hk hj H locs lsA hP hz h0 h1 hr hS hl
  obtain ⟨hx, hb, hml, hown, hts, hret, hlk, hKE, hA, hin, hAk, hfr, hLm⟩ := id C
  unfold oPutB at h
  split at h
  next v a st' =>
    split at h
    next c0 fs hg =>
      split at h
      next hcb =>
        split at h
        next hlt =>
          by_cases hv : v = 0 ∨ v = 1
          · have h := (pif_t hv).symm.trans h
            have hce : c0 = ci := Nat.eq_of_beq_eq_true hcb
            subst hce
            rw [vsetK_eq, wsetK_eq] at h
            have hlen : f < fs.length := blt_lt hlt
            have had : pDm Lm r a := Or.inl (Nat.lt_of_lt_of_le (wget_lt hg) h1)
            refine fw_put (D := D) (tys := pTys κ) hx hb hts hlin ty0 hty hnm hown hKE.1 (fs := fs.map (cv α)) (hP a _ (cellOf_get hg)) hS (hAk a had) hc f hf (hts _ hw) (fun _ h => h) hfin (ty := .boolean) (v := .int v) ((hty f hf).trans (by rw [ht])) (by rcases hv with rfl | rfl <;> rfl) (by rcases hv with rfl | rfl <;> rfl) (by simpa using hlen) hd (fun H1 locs1 k1 k2 k3 k4 => ?_)
            have hP1 := HP.put (e1 := .inr (c0, fs.set f (.int v))) hP h1 (by rw [hr]; exact hin) hg (by
              show va_at D vwCl (α a, .inr (c0, (fs.set f (.int v)).map (cv α))) H1
              rw [List.map_set]; exact k1) k3
            have g := hk _ _ _ _ h H1 locs1 lsA hP1 (by rw [wset_len, k2]; exact hz) (by rw [wset_len]; exact h0) (by rw [wset_len]; exact h1) hr k4 hl
            rw [hp, wset_len] at g
            exact g
          · have h := (pif_f hv).symm.trans h; cases h
        next => cases h
      next => cases h
    next => cases h
  next => cases h
theorem cget_in {a : Nat} {li : List Int32} (h : cget a = some li) : ∃ q ∈ pStat, q.2.1 = a ∧ q.2.2 = li := by
  unfold cget at h
  split at h
  next hb => cases h; exact ⟨_, List.mem_cons_self, (Nat.eq_of_beq_eq_true hb).symm, rfl⟩
  next =>
    split at h
    next hb => cases h; exact ⟨_, List.mem_cons_of_mem _ List.mem_cons_self, (Nat.eq_of_beq_eq_true hb).symm, rfl⟩
    next =>
      split at h
      next hb => cases h; exact ⟨_, List.mem_cons_of_mem _ (List.mem_cons_of_mem _ List.mem_cons_self), (Nat.eq_of_beq_eq_true hb).symm, rfl⟩
      next => cases h
theorem okAlen (hd : decode cc (pcOf i) = .ok (.arraylength, 1)) (hp : pcOf (i + 1) = pcOf i + 1) : EOK l cc own nL ret R cap pcOf i oAlen := by
  intro p e s m args below meth c D κ α A sz L0 Lm r Qc out C hR ls st w rg k j h hk hj H locs lsA hP hz h0 h1 hr hS hl
  obtain ⟨hx, hb, hml, hown, hts, hret, hlk, hKE, hA, hin, hAk, hfr, hLm⟩ := id C
  unfold oAlen at h
  split at h
  next a st' =>
    split at h
    next n f hg =>
      have g := hk _ _ _ _ h H locs lsA hP hz h0 h1 hr hS hl
      rw [hp] at g
      exact va_alen (D := D) (cl := vwCl) (tys := pTys κ) (ws := [(α a, ce κ α (.inl (0, n, .inl f)))]) hx hb hKE.1 (va_one (hP a _ (cellOf_get hg))) 0 0 (cA := κ 0) (x := (n, .inl f)) rfl (ty := .int) rfl rfl hd g
    next hg =>
      split at h
      next li hli =>
        obtain ⟨q, hq, e1, e2⟩ := cget_in hli
        have g := hk _ _ _ _ h H locs lsA hP hz h0 h1 hr hS hl
        rw [hp] at g
        have hT := (hKE.2.2 q hq).2
        rw [e1] at hT
        exact va_tlen hx hb hT hS rfl hd g
      next => cases h
    next => cases h
  next => cases h
theorem okIald (hd : decode cc (pcOf i) = .ok (.iaload, 1)) (hp : pcOf (i + 1) = pcOf i + 1) : EOK l cc own nL ret R cap pcOf i oIald := by
  intro p e s m args below meth c D κ α A sz L0 Lm r Qc out C hR ls st w rg k j h hk hj H locs lsA hP hz h0 h1 hr hS hl
  obtain ⟨hx, hb, hml, hown, hts, hret, hlk, hKE, hA, hin, hAk, hfr, hLm⟩ := id C
  unfold oIald at h
  split at h
  next x a st' =>
    split at h
    next n f hg =>
      by_cases hv : x < 0 ∨ n ≤ x.toNatClampNeg
      · have h := (pif_t hv).symm.trans h; cases h
      · have h := (pif_f hv).symm.trans h
        have g := hk _ _ _ _ h H locs lsA hP hz h0 h1 hr hS hl
        rw [hp] at g
        exact va_iald (D := D) (cl := vwCl) (tys := pTys κ) (ws := [(α a, ce κ α (.inl (0, n, .inl f)))]) hx hb hKE.1 (va_one (hP a _ (cellOf_get hg))) 0 0 (cA := κ 0) rfl rfl hv hd g
    next hg =>
      split at h
      next li hli =>
        by_cases hv : x < 0 ∨ 9 ≤ x.toNatClampNeg
        · have h := (pif_t hv).symm.trans h; cases h
        · have h := (pif_f hv).symm.trans h
          obtain ⟨q, hq, e1, e2⟩ := cget_in hli
          have g := hk _ _ _ _ h H locs lsA hP hz h0 h1 hr hS hl
          rw [hp] at g
          have hT := (hKE.2.2 q hq).2
          rw [e1, e2] at hT
          exact va_ti hx hb hT hS hv rfl hd g
      next => cases h
    next => cases h
  next => cases h
theorem i_nat {x : Int32} {n0 n : Nat} (h : x.toInt = (n0 : Int)) (hn : n0 < n) : x.toNatClampNeg = n0 ∧ vp_in x n := by
  have h1 : x.toNatClampNeg = n0 := by
    show x.toInt.toNat = n0
    rw [h]; simp
  refine ⟨h1, fun q => ?_⟩
  rcases q with q | q
  · have := Int32.lt_iff_toInt_lt.mp q
    rw [h] at this
    simp at this
    omega
  · rw [h1] at q; omega
theorem okIaldN {n0 : Nat} (hd : decode cc (pcOf i) = .ok (.iaload, 1)) (hp : pcOf (i + 1) = pcOf i + 1) : EOK l cc own nL ret R cap pcOf i (oIaldN n0) := by
  intro p e s m args below meth c D κ α A sz L0 Lm r Qc out C hR ls st w rg k j h hk hj H locs lsA hP hz h0 h1 hr hS hl
  obtain ⟨hx, hb, hml, hown, hts, hret, hlk, hKE, hA, hin, hAk, hfr, hLm⟩ := id C
  unfold oIaldN at h
  split at h
  next x a st' =>
    split at h
    next hdec =>
      split at h
      next n f hg =>
        split at h
        next hlt =>
          obtain ⟨e1, e2⟩ := i_nat (of_decide_eq_true hdec) (n := n) (blt_lt hlt)
          have g := hk _ _ _ _ h H locs lsA hP hz h0 h1 hr hS hl
          rw [hp] at g
          refine va_iald (D := D) (cl := vwCl) (tys := pTys κ) (ws := [(α a, ce κ α (.inl (0, n, .inl f)))]) hx hb hKE.1 (va_one (hP a _ (cellOf_get hg))) 0 0 (cA := κ 0) rfl rfl e2 hd ?_
          rw [e1]
          exact g
        next => cases h
      next => cases h
    next => cases h
  next => cases h
theorem okIast (hd : decode cc (pcOf i) = .ok (.iastore, 1)) (hp : pcOf (i + 1) = pcOf i + 1) : EOK l cc own nL ret R cap pcOf i oIast := by
  intro p e s m args below meth c D κ α A sz L0 Lm r Qc out C hR ls st w rg k j h hk hj H locs lsA hP hz h0 h1 hr hS hl
  obtain ⟨hx, hb, hml, hown, hts, hret, hlk, hKE, hA, hin, hAk, hfr, hLm⟩ := id C
  unfold oIast at h
  split at h
  next v x a st' =>
    split at h
    next n f hg =>
      by_cases hv : x < 0 ∨ n ≤ x.toNatClampNeg
      · have h := (pif_t hv).symm.trans h; cases h
      · have h := (pif_f hv).symm.trans h
        rw [wsetK_eq] at h
        have had : pDm Lm r a := Or.inl (Nat.lt_of_lt_of_le (wget_lt hg) h1)
        refine fw_iast (D := D) (tys := pTys κ) hx hb hKE.1 hS 0 (cA := κ 0) (hP a _ (cellOf_get hg)) (hAk a had) rfl hv hd (fun H1 locs1 k1 k2 k3 k4 => ?_)
        have hP1 := HP.put (e1 := .inl (0, n, .inl (upd f x.toNatClampNeg v))) hP h1 (by rw [hr]; exact hin) hg k1 k3
        have g := hk _ _ _ _ h H1 locs1 lsA hP1 (by rw [wset_len, k2]; exact hz) (by rw [wset_len]; exact h0) (by rw [wset_len]; exact h1) hr k4 hl
        rw [hp, wset_len] at g
        exact g
    next => cases h
  next => cases h
theorem okIastN {n0 : Nat} (hd : decode cc (pcOf i) = .ok (.iastore, 1)) (hp : pcOf (i + 1) = pcOf i + 1) : EOK l cc own nL ret R cap pcOf i (oIastN n0) := by
  intro p e s m args below meth c D κ α A sz L0 Lm r Qc out C hR ls st w rg k j h hk hj H locs lsA hP hz h0 h1 hr hS hl
  obtain ⟨hx, hb, hml, hown, hts, hret, hlk, hKE, hA, hin, hAk, hfr, hLm⟩ := id C
  unfold oIastN at h
  split at h
  next v x a st' =>
    split at h
    next hdec =>
      split at h
      next n f hg =>
        split at h
        next hlt =>
          obtain ⟨e1, e2⟩ := i_nat (of_decide_eq_true hdec) (n := n) (blt_lt hlt)
          rw [wsetK_eq] at h
          have had : pDm Lm r a := Or.inl (Nat.lt_of_lt_of_le (wget_lt hg) h1)
          refine fw_iast (D := D) (tys := pTys κ) hx hb hKE.1 hS 0 (cA := κ 0) (hP a _ (cellOf_get hg)) (hAk a had) rfl e2 hd (fun H1 locs1 k1 k2 k3 k4 => ?_)
          rw [e1] at k1
          have hP1 := HP.put (e1 := .inl (0, n, .inl (upd f n0 v))) hP h1 (by rw [hr]; exact hin) hg k1 k3
          have g := hk _ _ _ _ h H1 locs1 lsA hP1 (by rw [wset_len, k2]; exact hz) (by rw [wset_len]; exact h0) (by rw [wset_len]; exact h1) hr k4 hl
          rw [hp, wset_len] at g
          exact g
        next => cases h
      next => cases h
    next => cases h
  next => cases h
theorem pickK_some {R : Type} {x : Int32} : ∀ {ps : List Nat} {cn : Nat → Option R} {o : R}, pickK x ps cn = some o → ∃ n0 : Nat, x.toInt = (n0 : Int) ∧ cn n0 = some o
  | [], _, _, h => by cases h
  | n :: l, cn, o, h => by
    unfold pickK at h
    split at h
    next hd => exact ⟨n, of_decide_eq_true hd, h⟩
    next => exact pickK_some h
theorem okIaldP {ps : List Nat} (hd : decode cc (pcOf i) = .ok (.iaload, 1)) (hp : pcOf (i + 1) = pcOf i + 1) : EOK l cc own nL ret R cap pcOf i (oIaldP ps) := by
  intro p e s m args below meth c D κ α A sz L0 Lm r Qc out C hR ls st w rg k j h hk hj H locs lsA hP hz h0 h1 hr hS hl
  obtain ⟨hx, hb, hml, hown, hts, hret, hlk, hKE, hA, hin, hAk, hfr, hLm⟩ := id C
  unfold oIaldP at h
  split at h
  next x a st' =>
    obtain ⟨n0, hn0, h⟩ := pickK_some h
    split at h
    next n f hg =>
      split at h
      next hlt =>
        obtain ⟨e1, e2⟩ := i_nat hn0 (n := n) (blt_lt hlt)
        have g := hk _ _ _ _ h H locs lsA hP hz h0 h1 hr hS hl
        rw [hp] at g
        refine va_iald (D := D) (cl := vwCl) (tys := pTys κ) (ws := [(α a, ce κ α (.inl (0, n, .inl f)))]) hx hb hKE.1 (va_one (hP a _ (cellOf_get hg))) 0 0 (cA := κ 0) rfl rfl e2 hd ?_
        rw [e1]
        exact g
      next => cases h
    next => cases h
  next => cases h
theorem okIastP {ps : List Nat} (hd : decode cc (pcOf i) = .ok (.iastore, 1)) (hp : pcOf (i + 1) = pcOf i + 1) : EOK l cc own nL ret R cap pcOf i (oIastP ps) := by
  intro p e s m args below meth c D κ α A sz L0 Lm r Qc out C hR ls st w rg k j h hk hj H locs lsA hP hz h0 h1 hr hS hl
  obtain ⟨hx, hb, hml, hown, hts, hret, hlk, hKE, hA, hin, hAk, hfr, hLm⟩ := id C
  unfold oIastP at h
  split at h
  next v x a st' =>
    obtain ⟨n0, hn0, h⟩ := pickK_some h
    split at h
    next n f hg =>
      split at h
      next hlt =>
        obtain ⟨e1, e2⟩ := i_nat hn0 (n := n) (blt_lt hlt)
        rw [wsetK_eq] at h
        have had : pDm Lm r a := Or.inl (Nat.lt_of_lt_of_le (wget_lt hg) h1)
        refine fw_iast (D := D) (tys := pTys κ) hx hb hKE.1 hS 0 (cA := κ 0) (hP a _ (cellOf_get hg)) (hAk a had) rfl e2 hd (fun H1 locs1 k1 k2 k3 k4 => ?_)
        rw [e1] at k1
        have hP1 := HP.put (e1 := .inl (0, n, .inl (upd f n0 v))) hP h1 (by rw [hr]; exact hin) hg k1 k3
        have g := hk _ _ _ _ h H1 locs1 lsA hP1 (by rw [wset_len, k2]; exact hz) (by rw [wset_len]; exact h0) (by rw [wset_len]; exact h1) hr k4 hl
        rw [hp, wset_len] at g
        exact g
      next => cases h
    next => cases h
  next => cases h
theorem st_sum : ∀ {st : pSt} {α : Nat → Nat}, st.length < 5 → ((st.map (cv α)).map fun v => v.category).sum ≤ 8 := by
  intro st α h
  have key : ∀ (l : pSt), ((l.map (cv α)).map fun v => v.category).sum ≤ 2 * l.length := by
    intro l
    induction l with
    | nil => simp
    | cons v l ih =>
      have : (cv α v).category ≤ 2 := by rcases lv_cat (cv α v) with q | q <;> omega
      simp only [List.map_cons, List.sum_cons, List.length_cons]
      omega
  have := key st
  omega
theorem okMin {idx : Nat} (hd : decode cc (pcOf i) = .ok (.invokestatic idx, 3)) (hp : pcOf (i + 1) = pcOf i + 3) (hw : Cond.methodLink own idx Lib.Math.min.name ∈ pWA) (hw2 : Cond.static Lib.Math.min.name ∈ pWA) (hw3 : Cond.initialized "java/lang/Math" ∈ pWA) (hw4 : Cond.code Lib.Math.min.name Lib.Math.min.code 2 (some .int) ∈ pWA) (hf : 1 ≤ R.frames) (hlo : 21 ≤ R.locals) : EOK l cc own nL ret R cap pcOf i oMin := by
  intro p e s m args below meth c D κ α A sz L0 Lm r Qc out C hR ls st w rg k j h hk hj H locs lsA hP hz h0 h1 hr hS hl
  obtain ⟨hx, hb, hml, hown, hts, hret, hlk, hKE, hA, hin, hAk, hfr, hLm, hcc, hcs, hcap⟩ := id C
  unfold oMin at h
  split at h
  next y x st' =>
    split at h
    next hst =>
      have g := hk _ _ _ _ h H locs lsA hP hz h0 h1 hr hS hl
      rw [hp] at g
      have hsum : ((st'.map (cv α)).map fun v => v.category).sum ≤ 8 := st_sum (blt_lt hst)
      exact va_mmin hx hb (by rw [hml]; exact hl.1.symm) hown (hts _ hw) (hts _ hw2) (hts _ hw3) (hts _ hw4) hf (by omega) (by omega) (by omega) hd g
    next => cases h
  next => cases h
theorem okMax {idx : Nat} (hd : decode cc (pcOf i) = .ok (.invokestatic idx, 3)) (hp : pcOf (i + 1) = pcOf i + 3) (hw : Cond.methodLink own idx Lib.Math.max.name ∈ pWA) (hw2 : Cond.static Lib.Math.max.name ∈ pWA) (hw3 : Cond.initialized "java/lang/Math" ∈ pWA) (hw4 : Cond.code Lib.Math.max.name Lib.Math.max.code 2 (some .int) ∈ pWA) (hf : 1 ≤ R.frames) (hlo : 21 ≤ R.locals) : EOK l cc own nL ret R cap pcOf i oMax := by
  intro p e s m args below meth c D κ α A sz L0 Lm r Qc out C hR ls st w rg k j h hk hj H locs lsA hP hz h0 h1 hr hS hl
  obtain ⟨hx, hb, hml, hown, hts, hret, hlk, hKE, hA, hin, hAk, hfr, hLm, hcc, hcs, hcap⟩ := id C
  unfold oMax at h
  split at h
  next y x st' =>
    split at h
    next hst =>
      have g := hk _ _ _ _ h H locs lsA hP hz h0 h1 hr hS hl
      rw [hp] at g
      have hsum : ((st'.map (cv α)).map fun v => v.category).sum ≤ 8 := st_sum (blt_lt hst)
      exact va_mmax hx hb (by rw [hml]; exact hl.1.symm) hown (hts _ hw) (hts _ hw2) (hts _ hw3) (hts _ hw4) hf (by omega) (by omega) (by omega) hd g
    next => cases h
  next => cases h
theorem okIret (hd : decode cc (pcOf i) = .ok (.ireturn, 1)) (hrt : ret = some .int) : EOK l cc own nL ret R cap pcOf i oIret := by
  intro p e s m args below meth c D κ α A sz L0 Lm r Qc out C hR ls st w rg k j h hk hj H locs lsA hP hz h0 h1 hr hS hl
  obtain ⟨hx, hb, hml, hown, hts, hret, hlk, hKE, hA, hin, hAk, hfr, hLm⟩ := id C
  unfold oIret at h
  split at h
  next v =>
    cases h
    exact W.iret (v := v) hx hb (hret.trans hrt) (fun t ht hW => hR H locs t hP hz hS ht hW) hS.2.2 hd hlk
  next => cases h
theorem okZret (hd : decode cc (pcOf i) = .ok (.ireturn, 1)) (hrt : ret = some .boolean) : EOK l cc own nL ret R cap pcOf i oZret := by
  intro p e s m args below meth c D κ α A sz L0 Lm r Qc out C hR ls st w rg k j h hk hj H locs lsA hP hz h0 h1 hr hS hl
  obtain ⟨hx, hb, hml, hown, hts, hret, hlk, hKE, hA, hin, hAk, hfr, hLm⟩ := id C
  unfold oZret at h
  split at h
  next v =>
    by_cases hv : v = 0 ∨ v = 1
    · have h := (pif_t hv).symm.trans h
      cases h
      exact W.zret (v := v) hx hb (hret.trans hrt) (by rcases hv with rfl | rfl <;> rfl) (fun t ht hW => hR H locs t hP hz hS ht hW) hS.2.2 hd hlk
    · have h := (pif_f hv).symm.trans h; cases h
  next => cases h
theorem okVret (hd : decode cc (pcOf i) = .ok (.return_, 1)) (hrt : ret = none) : EOK l cc own nL ret R cap pcOf i oVret := by
  intro p e s m args below meth c D κ α A sz L0 Lm r Qc out C hR ls st w rg k j h hk hj H locs lsA hP hz h0 h1 hr hS hl
  obtain ⟨hx, hb, hml, hown, hts, hret, hlk, hKE, hA, hin, hAk, hfr, hLm⟩ := id C
  unfold oVret at h
  split at h
  next =>
    cases h
    exact W.vret hx hb (hret.trans hrt) (fun t ht hW => hR H locs t hP hz hS ht hW) hS.2.2 hd hlk
  next => cases h
theorem okAret {C : String} (hd : decode cc (pcOf i) = .ok (.areturn, 1)) (hrt : ret = some (.object C)) : EOK l cc own nL ret R cap pcOf i oAret := by
  intro p e s m args below meth c D κ α A sz L0 Lm r Qc out C hR ls st w rg k j h hk hj H locs lsA hP hz h0 h1 hr hS hl
  obtain ⟨hx, hb, hml, hown, hts, hret, hlk, hKE, hA, hin, hAk, hfr, hLm⟩ := id C
  unfold oAret at h
  split at h
  next v =>
    cases h
    exact W.aret (v := .ref (α v)) hx hb (hret.trans hrt) (Or.inl ⟨_, rfl⟩) (Or.inr ⟨_, rfl⟩) (fun t ht hW => hR H locs t hP hz hS ht hW) hS.2.2 hd hlk
  next => cases h
end ST
end
