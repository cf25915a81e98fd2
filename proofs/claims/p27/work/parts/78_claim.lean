/-! THE CLAIM OUT OF ONE WALK OF THE LAW'S BODY. Your part is whole_start (and what it stands on); all else here is the same for every law, but numbers. -/
def R_law : String := "BrokeLoopLaw"
def lw_P (b : Addr) (xs : List Int32) (args : Array Value) (s : State) : Prop := args = #[.ref b] ∧ s.IntsAt b xs ∧ xs.length ≤ 260 ∧ (Jvm.Cond.and given_1 narrow_1).before args s = true
/-- what a walk over the start with the record d0 says of its end, said of the start itself -/
theorem lw_closed {s t : State} {o : Outcome} {d0 : Drawn} {L : List Loc} {k n : Nat} (hd0 : s.drawn.sameBut d0 lw_cs) (hv : ∃ v, o = .returned v) (hW : (s.setDrawn d0).WarmedH t.vm) (hs : (s.setDrawn d0).sameButNew ({ t with vm := s.vm } : State) L k n) : State.butDraws s t lw_cs (fun t1 => Framed s o t1 L k n) := by
  have h2 : t.drawn = d0 := congrArg State.drawn hs.1
  refine ⟨⟨hv, hW, State.sameButNew.setDrawn hs s.drawn⟩, ?_, by decide⟩
  rw [h2]
  exact hd0
def lw_Q (_ : Array Value) (s : State) (o : Outcome) (t : State) : Prop := o = .returned (some (.int 1)) ∧ State.butDraws s t lw_cs (fun t1 => Framed s o t1 [] 600000 7302250)
def lw_Z (below : List Frame) (a : Array Value) (s : State) : State → Prop := fun t => ∃ o, t.status = .running ∧ Ended t below o ∧ lw_Q a s o t
/-- the law's own end, with 1 on the stack, nothing written that was there before, its room as the claim has it; d0: the record of draws at this point (at the entry s.drawn: begin with 'refine W.base ?_' and 'have hd0 := Drawn.sameBut.refl s.drawn lw_cs') -/
theorem lw_ret {p : Program} {l : Launch} {e : Env} {s : State} {m : MethodId} {below : List Frame} {meth : Method} {c : Code} {b : Nat} {d0 : Drawn} (hd0 : s.drawn.sameBut d0 lw_cs) (hx : p.tables.exec = Jvm.exec) (hb : c.code = code) (hr : meth.sig.returnType = ret) (hlocks : meth.locks = false) {pc : Nat} {H : Heap} {ls : Array Slot} (hdg : decode code pc = .ok (.ireturn, 1)) : W p l e room_1 (s.setDrawn d0) m #[Value.ref b] below meth c H [] 600000 7302250 (lw_Z below #[Value.ref b] s) (F0 m pc ls [.int 1]) := by
  intro T hT X
  obtain ⟨fs, hret, hrun, hended, hW, hframe⟩ := X.leave (v := some (.int 1)) (hlocks := hlocks) (fun h => by rw [hr] at h; cases h)
  have hmeth' : T.vm.method? m = some meth := X.method'
  refine ⟨T.setFrames fs, ?_, .returned (some (.int 1)), hrun, hended, rfl, lw_closed hd0 ⟨_, rfl⟩ hW hframe⟩
  jvm_step X.here [X.here.top, hx, hb, hdg, hmeth', hr, ret, narrow_b1]
  (try refine ⟨rfl, ?_⟩); (try refine ⟨rfl, ?_⟩)
  first | (intro acts; rw [hret _ acts rfl rfl rfl]) | rw [hret _ _ rfl rfl rfl]
  exact Steps.refl _
/-- what holds at the law's entry: the machine, the code, the tables' words (any of lw_tbl by 'hts w (by decide +kernel)'), the script of L ints xs at the cell b, what the Statement gives of the start (any of its parts by flat_of_before) -/
def lw_At (p : Program) (s : State) (m : MethodId) (meth : Method) (c : Code) (b L : Nat) (xs : Nat → Int32) : Prop :=
  p.tables.exec = Jvm.exec ∧ c.code = code ∧ meth.sig.returnType = ret ∧ c.maxLocals = 6 ∧ s.vm.findClass R_law = some m.cls ∧ (∀ w ∈ lw_tbl, w.before #[Value.ref b] s = true) ∧ va_X b L xs s s.heap ∧ b < s.heap.size ∧ meth.locks = false ∧ (Jvm.Cond.and given_1 narrow_1).before #[Value.ref b] s = true
theorem sbn_forget {s s' : State} {L : List Loc} {k n k' n' : Nat} (h : s.sameButNew s' L k n) (hf : ∀ q ∈ L, s.heap.size ≤ q.base) (hk : k ≤ k') (hn : n ≤ n') : s.sameButNew s' [] k' n' := by
  obtain ⟨h1, h2, h3, h4, h5, h6⟩ := h
  refine ⟨h1, h2, by omega, h4, by omega, fun a c hc => ?_⟩
  obtain ⟨c', g1, g2, g3, g4⟩ := h6 a c hc
  refine ⟨c', g1, g2, g3, fun i _ => g4 i fun hm => ?_⟩
  have h7 : s.heap.size ≤ a := hf _ hm
  exact absurd (Array.getElem?_eq_some_iff.mp hc).1 (Nat.not_lt.mpr h7)
def lw_Qc : Array Value → State → Outcome → State → Prop := fun _ _ o _ => o = .returned (some (.int 1))
theorem lw_Z_of {below : List Frame} {a : Array Value} {s t : State} {mc ms : Nat} (hmc : mc ≤ 600000) (hms : ms ≤ 7302250) (h : MQ below lw_Qc a s mc ms (fun q => s.heap.size ≤ q) t) : lw_Z below a s t := by
  obtain ⟨o, h1, h2, h3, L, ⟨h4, h5, h6⟩, h7⟩ := h
  have h3 : o = .returned (some (.int 1)) := h3
  exact ⟨o, h1, h2, h3, lw_closed (d0 := s.drawn) (Drawn.sameBut.refl s.drawn lw_cs) h4 h5 (sbn_forget h6 h7 hmc hms)⟩
theorem lw_stat_0 {s : State} {b : Nat} (hts : ∀ w ∈ lw_tbl, w.before #[Value.ref b] s = true) (hgv : (Jvm.Cond.and given_1 narrow_1).before #[Value.ref b] s = true) : ∃ t : Nat, va_Z "BrokeLoop" "FIRST_VALUE" "[I" (.ref t) (fun q => s.heap.size ≤ q) s s.heap ∧ va_T .int t 9 (fun j => .int (([40, 960, 500, 300, 30, 3, 10, 500, 5] : List Int32).getD j 0)) (fun q => s.heap.size ≤ q) s s.heap := by
  have hs := flat_of_before _ hgv
  have hA0 : ∀ a : Nat, a < s.heap.size → ¬ (fun q : Nat => s.heap.size ≤ q) a := fun a h => Nat.not_le.mpr h
  have hel : ∀ j : Nat, j < 9 → (Term.elem (Term.static "BrokeLoop" "FIRST_VALUE" "[I") (.int (Int32.ofNat j))).eval #[Value.ref b] s none [] s = some ((fun j => Value.int (([40, 960, 500, 300, 30, 3, 10, 500, 5] : List Int32).getD j 0)) j) := by
    intro j hj
    match j, hj with
    | 0, _ => exact va_eqt (hs (Cond.eq (Term.elem (Term.static "BrokeLoop" "FIRST_VALUE" "[I") (.int 0)) (.int 40)) (by decide +kernel))
    | 1, _ => exact va_eqt (hs (Cond.eq (Term.elem (Term.static "BrokeLoop" "FIRST_VALUE" "[I") (.int 1)) (.int 960)) (by decide +kernel))
    | 2, _ => exact va_eqt (hs (Cond.eq (Term.elem (Term.static "BrokeLoop" "FIRST_VALUE" "[I") (.int 2)) (.int 500)) (by decide +kernel))
    | 3, _ => exact va_eqt (hs (Cond.eq (Term.elem (Term.static "BrokeLoop" "FIRST_VALUE" "[I") (.int 3)) (.int 300)) (by decide +kernel))
    | 4, _ => exact va_eqt (hs (Cond.eq (Term.elem (Term.static "BrokeLoop" "FIRST_VALUE" "[I") (.int 4)) (.int 30)) (by decide +kernel))
    | 5, _ => exact va_eqt (hs (Cond.eq (Term.elem (Term.static "BrokeLoop" "FIRST_VALUE" "[I") (.int 5)) (.int 3)) (by decide +kernel))
    | 6, _ => exact va_eqt (hs (Cond.eq (Term.elem (Term.static "BrokeLoop" "FIRST_VALUE" "[I") (.int 6)) (.int 10)) (by decide +kernel))
    | 7, _ => exact va_eqt (hs (Cond.eq (Term.elem (Term.static "BrokeLoop" "FIRST_VALUE" "[I") (.int 7)) (.int 500)) (by decide +kernel))
    | 8, _ => exact va_eqt (hs (Cond.eq (Term.elem (Term.static "BrokeLoop" "FIRST_VALUE" "[I") (.int 8)) (.int 5)) (by decide +kernel))
    | j + 9, hj => exact absurd hj (by omega)
  obtain ⟨t, h1, h2⟩ := va_Tof (tm := (Term.static "BrokeLoop" "FIRST_VALUE" "[I")) (ty := .int) (N := 9) (f := fun j => .int (([40, 960, 500, 300, 30, 3, 10, 500, 5] : List Int32).getD j 0)) (A := fun q => s.heap.size ≤ q) (by decide) (hs (Cond.arrayOf (Term.static "BrokeLoop" "FIRST_VALUE" "[I") .int) (by decide +kernel)) (va_eqt (hs (Cond.eq (Term.length (Term.static "BrokeLoop" "FIRST_VALUE" "[I")) (.int 9)) (by decide +kernel))) hel hA0
  exact ⟨t, va_Zref (hts _ wm_1_132) (hts _ (pWA_tbl wm_1_1)) h1 hA0, h2⟩
theorem lw_stat_1 {s : State} {b : Nat} (hts : ∀ w ∈ lw_tbl, w.before #[Value.ref b] s = true) (hgv : (Jvm.Cond.and given_1 narrow_1).before #[Value.ref b] s = true) : ∃ t : Nat, va_Z "BrokeLoop" "LEAST_VALUE" "[I" (.ref t) (fun q => s.heap.size ≤ q) s s.heap ∧ va_T .int t 9 (fun j => .int (([0, 0, 0, 0, 1, 0, 0, 0, 0] : List Int32).getD j 0)) (fun q => s.heap.size ≤ q) s s.heap := by
  have hs := flat_of_before _ hgv
  have hA0 : ∀ a : Nat, a < s.heap.size → ¬ (fun q : Nat => s.heap.size ≤ q) a := fun a h => Nat.not_le.mpr h
  have hel : ∀ j : Nat, j < 9 → (Term.elem (Term.static "BrokeLoop" "LEAST_VALUE" "[I") (.int (Int32.ofNat j))).eval #[Value.ref b] s none [] s = some ((fun j => Value.int (([0, 0, 0, 0, 1, 0, 0, 0, 0] : List Int32).getD j 0)) j) := by
    intro j hj
    match j, hj with
    | 0, _ => exact va_eqt (hs (Cond.eq (Term.elem (Term.static "BrokeLoop" "LEAST_VALUE" "[I") (.int 0)) (.int 0)) (by decide +kernel))
    | 1, _ => exact va_eqt (hs (Cond.eq (Term.elem (Term.static "BrokeLoop" "LEAST_VALUE" "[I") (.int 1)) (.int 0)) (by decide +kernel))
    | 2, _ => exact va_eqt (hs (Cond.eq (Term.elem (Term.static "BrokeLoop" "LEAST_VALUE" "[I") (.int 2)) (.int 0)) (by decide +kernel))
    | 3, _ => exact va_eqt (hs (Cond.eq (Term.elem (Term.static "BrokeLoop" "LEAST_VALUE" "[I") (.int 3)) (.int 0)) (by decide +kernel))
    | 4, _ => exact va_eqt (hs (Cond.eq (Term.elem (Term.static "BrokeLoop" "LEAST_VALUE" "[I") (.int 4)) (.int 1)) (by decide +kernel))
    | 5, _ => exact va_eqt (hs (Cond.eq (Term.elem (Term.static "BrokeLoop" "LEAST_VALUE" "[I") (.int 5)) (.int 0)) (by decide +kernel))
    | 6, _ => exact va_eqt (hs (Cond.eq (Term.elem (Term.static "BrokeLoop" "LEAST_VALUE" "[I") (.int 6)) (.int 0)) (by decide +kernel))
    | 7, _ => exact va_eqt (hs (Cond.eq (Term.elem (Term.static "BrokeLoop" "LEAST_VALUE" "[I") (.int 7)) (.int 0)) (by decide +kernel))
    | 8, _ => exact va_eqt (hs (Cond.eq (Term.elem (Term.static "BrokeLoop" "LEAST_VALUE" "[I") (.int 8)) (.int 0)) (by decide +kernel))
    | j + 9, hj => exact absurd hj (by omega)
  obtain ⟨t, h1, h2⟩ := va_Tof (tm := (Term.static "BrokeLoop" "LEAST_VALUE" "[I")) (ty := .int) (N := 9) (f := fun j => .int (([0, 0, 0, 0, 1, 0, 0, 0, 0] : List Int32).getD j 0)) (A := fun q => s.heap.size ≤ q) (by decide) (hs (Cond.arrayOf (Term.static "BrokeLoop" "LEAST_VALUE" "[I") .int) (by decide +kernel)) (va_eqt (hs (Cond.eq (Term.length (Term.static "BrokeLoop" "LEAST_VALUE" "[I")) (.int 9)) (by decide +kernel))) hel hA0
  exact ⟨t, va_Zref (hts _ wm_2_103) (hts _ (pWA_tbl wm_1_1)) h1 hA0, h2⟩
theorem lw_stat_2 {s : State} {b : Nat} (hts : ∀ w ∈ lw_tbl, w.before #[Value.ref b] s = true) (hgv : (Jvm.Cond.and given_1 narrow_1).before #[Value.ref b] s = true) : ∃ t : Nat, va_Z "BrokeLoop" "MOST_VALUE" "[I" (.ref t) (fun q => s.heap.size ≤ q) s s.heap ∧ va_T .int t 9 (fun j => .int (([200, 5000, 2000, 1000, 100, 8, 50, 2000, 20] : List Int32).getD j 0)) (fun q => s.heap.size ≤ q) s s.heap := by
  have hs := flat_of_before _ hgv
  have hA0 : ∀ a : Nat, a < s.heap.size → ¬ (fun q : Nat => s.heap.size ≤ q) a := fun a h => Nat.not_le.mpr h
  have hel : ∀ j : Nat, j < 9 → (Term.elem (Term.static "BrokeLoop" "MOST_VALUE" "[I") (.int (Int32.ofNat j))).eval #[Value.ref b] s none [] s = some ((fun j => Value.int (([200, 5000, 2000, 1000, 100, 8, 50, 2000, 20] : List Int32).getD j 0)) j) := by
    intro j hj
    match j, hj with
    | 0, _ => exact va_eqt (hs (Cond.eq (Term.elem (Term.static "BrokeLoop" "MOST_VALUE" "[I") (.int 0)) (.int 200)) (by decide +kernel))
    | 1, _ => exact va_eqt (hs (Cond.eq (Term.elem (Term.static "BrokeLoop" "MOST_VALUE" "[I") (.int 1)) (.int 5000)) (by decide +kernel))
    | 2, _ => exact va_eqt (hs (Cond.eq (Term.elem (Term.static "BrokeLoop" "MOST_VALUE" "[I") (.int 2)) (.int 2000)) (by decide +kernel))
    | 3, _ => exact va_eqt (hs (Cond.eq (Term.elem (Term.static "BrokeLoop" "MOST_VALUE" "[I") (.int 3)) (.int 1000)) (by decide +kernel))
    | 4, _ => exact va_eqt (hs (Cond.eq (Term.elem (Term.static "BrokeLoop" "MOST_VALUE" "[I") (.int 4)) (.int 100)) (by decide +kernel))
    | 5, _ => exact va_eqt (hs (Cond.eq (Term.elem (Term.static "BrokeLoop" "MOST_VALUE" "[I") (.int 5)) (.int 8)) (by decide +kernel))
    | 6, _ => exact va_eqt (hs (Cond.eq (Term.elem (Term.static "BrokeLoop" "MOST_VALUE" "[I") (.int 6)) (.int 50)) (by decide +kernel))
    | 7, _ => exact va_eqt (hs (Cond.eq (Term.elem (Term.static "BrokeLoop" "MOST_VALUE" "[I") (.int 7)) (.int 2000)) (by decide +kernel))
    | 8, _ => exact va_eqt (hs (Cond.eq (Term.elem (Term.static "BrokeLoop" "MOST_VALUE" "[I") (.int 8)) (.int 20)) (by decide +kernel))
    | j + 9, hj => exact absurd hj (by omega)
  obtain ⟨t, h1, h2⟩ := va_Tof (tm := (Term.static "BrokeLoop" "MOST_VALUE" "[I")) (ty := .int) (N := 9) (f := fun j => .int (([200, 5000, 2000, 1000, 100, 8, 50, 2000, 20] : List Int32).getD j 0)) (A := fun q => s.heap.size ≤ q) (by decide) (hs (Cond.arrayOf (Term.static "BrokeLoop" "MOST_VALUE" "[I") .int) (by decide +kernel)) (va_eqt (hs (Cond.eq (Term.length (Term.static "BrokeLoop" "MOST_VALUE" "[I")) (.int 9)) (by decide +kernel))) hel hA0
  exact ⟨t, va_Zref (hts _ wm_2_105) (hts _ (pWA_tbl wm_1_1)) h1 hA0, h2⟩
theorem lw_K {s : State} {b : Nat} (hts : ∀ w ∈ lw_tbl, w.before #[Value.ref b] s = true) : ∃ (D : va_G) (κ : pKap), va_K D vwCl (pTys κ) s := by
  have hw : ∀ w ∈ pWA, w.before #[Value.ref b] s = true := fun w h => hts w (pWA_tbl h)
  obtain ⟨c0, i0, k0⟩ := u_known (C := RX0) (T := TX0) (N := 6) (n := 6) hw inX0 (hw _ wm_1_50)
  obtain ⟨c1, i1, k1⟩ := u_known (C := RX1) (T := TX1) (N := 4) (n := 4) hw inX1 (hw _ wm_1_27)
  obtain ⟨c2, i2, k2⟩ := u_known (C := RX2) (T := TX2) (N := 3) (n := 3) hw inX2 (hw _ wm_1_86)
  obtain ⟨c3, i3, k3⟩ := u_known (C := RX3) (T := TX3) (N := 3) (n := 3) hw inX3 (hw _ wm_1_212)
  obtain ⟨c4, i4, k4⟩ := u_known (C := RX4) (T := TX4) (N := 2) (n := 2) hw inX4 (hw _ wm_1_232)
  obtain ⟨c5, i5, k5⟩ := u_known (C := RX5) (T := TX5) (N := 15) (n := 15) hw inX5 (hw _ wm_1_21)
  obtain ⟨c6, i6, k6⟩ := u_known (C := RX6) (T := TX6) (N := 4) (n := 4) hw inX6 (hw _ wm_2_9)
  obtain ⟨c7, i7, k7⟩ := u_known (C := RX7) (T := TX7) (N := 4) (n := 4) hw inX7 (hw _ wm_1_104)
  obtain ⟨c8, i8, k8⟩ := u_known (C := RX8) (T := TX8) (N := 10) (n := 10) hw inX8 (hw _ wm_1_13)
  obtain ⟨cI, kI, oI, f1, f2, f3⟩ := Cond.arrayClass_spec (hw _ wm_1_84)
  obtain ⟨oL, cL, kL, g1, g2, g3, g4, g5⟩ := Cond.arrayOver_spec (hts _ wm_1_218)
  refine ⟨(fun k => match k with | 0 => c0 | 1 => c1 | 2 => c2 | 3 => c3 | 4 => c4 | 5 => c5 | 6 => c6 | 7 => c7 | _ => c8, fun k => match k with | 0 => i0 | 1 => i1 | 2 => i2 | 3 => i3 | 4 => i4 | 5 => i5 | 6 => i6 | 7 => i7 | _ => i8), fun k => match k with | 0 => cI | _ => cL, ?_, ?_⟩
  · intro k q hq
    match k, hq with
    | 0, hq => cases hq; exact k0
    | 1, hq => cases hq; exact k1
    | 2, hq => cases hq; exact k2
    | 3, hq => cases hq; exact k3
    | 4, hq => cases hq; exact k4
    | 5, hq => cases hq; exact k5
    | 6, hq => cases hq; exact k6
    | 7, hq => cases hq; exact k7
    | 8, hq => cases hq; exact k8
    | k + 9, hq => cases hq
  · intro k q hq
    match k, hq with
    | 0, hq => cases hq; exact ⟨fun n z => ⟨fun k h => (by cases h), kI, f2, oI, f3⟩, f1⟩
    | 1, hq => cases hq; exact ⟨fun n z => ⟨fun k h => (by cases h), kL, g3, oL, g4⟩, kL, oL, g3, g4, g1, g5⟩
    | k + 2, hq => cases hq
theorem lw_N {s : State} {b : Nat} (hts : ∀ w ∈ lw_tbl, w.before #[Value.ref b] s = true) : pKN s := by
  refine ⟨fun w hw => ?_, va_AO.of (hts _ wm_1_218)⟩
  simp only [nestW, List.mem_cons, List.not_mem_nil, or_false] at hw
  rcases hw with rfl | rfl | rfl | rfl | rfl | rfl | rfl | rfl | rfl | rfl | rfl
  · exact va_Nw.of rfl (hts _ wm_1_51)
  · exact va_Nw.of rfl (hts _ wm_1_87)
  · exact va_Nw.of rfl (hts _ wm_1_105)
  · exact va_Nw.of rfl (hts _ wm_1_131)
  · exact va_Nw.of rfl (hts _ wm_1_133)
  · exact va_Nw.of rfl (hts _ wm_1_233)
  · exact va_Nw.of rfl (hts _ wm_2_10)
  · exact va_Nw.of rfl (hts _ wm_2_15)
  · exact va_Nw.of rfl (hts _ wm_2_83)
  · exact va_Nw.of rfl (hts _ wm_2_88)
  · exact va_Nw.of rfl (hts _ wm_2_93)
theorem lw_al (z t1 t2 t3 b : Nat) : ∃ α : Nat → Nat, α 1000000 = t1 ∧ α 1000001 = t2 ∧ α 1000002 = t3 ∧ α 2000000 = b ∧ ∀ k, k < 358 → α k = z + k := by
  refine ⟨fun k => if k = 1000000 then t1 else if k = 1000001 then t2 else if k = 1000002 then t3 else if k = 2000000 then b else z + k, by simp, by simp, by simp, by simp, fun k hk => ?_⟩
  show (if k = 1000000 then t1 else if k = 1000001 then t2 else if k = 1000002 then t3 else if k = 2000000 then b else z + k) = z + k
  rw [if_neg (by omega), if_neg (by omega), if_neg (by omega), if_neg (by omega)]
/-- YOUR PART: from the entry, for every script of at most 260 ints, the law comes to its end with true ('hflags': the launch's flags, for a law that throws: no stack traces) -/
theorem whole_start {p : Program} {e : Env} {s : State} {m : MethodId} {below : List Frame} {meth : Method} {c : Code} (l : Launch) (hflags : l.flags = flags0) {b L : Nat} {xs : Nat → Int32} (hL : L ≤ 260) (C0 : lw_At p s m meth c b L xs) : W p l e room_1 s m #[Value.ref b] below meth c s.heap [] 0 0 (lw_Z below #[Value.ref b] s) (entryFrame m ([Value.ref b] : List Value).toArray 6) := by
  obtain ⟨hx, hb, hr, hml, hown, hts, hX, hbl, hlocks, hgv⟩ := id C0
  obtain ⟨t1, z1, y1⟩ := lw_stat_0 hts hgv
  obtain ⟨t2, z2, y2⟩ := lw_stat_1 hts hgv
  obtain ⟨t3, z3, y3⟩ := lw_stat_2 hts hgv
  obtain ⟨D, κ, hK⟩ := lw_K hts
  have hN := lw_N hts
  obtain ⟨α, e1, e2, e3, e4, e5⟩ := lw_al s.heap.size t1 t2 t3 b
  have hT : pKT α (fun q => s.heap.size ≤ q) s s.heap := by
    intro q hq
    simp only [pStat, List.mem_cons, List.not_mem_nil, or_false] at hq
    rcases hq with rfl | rfl | rfl
    · show va_Z _ _ _ (.ref (α 1000000)) _ _ _ ∧ va_T _ (α 1000000) _ _ _ _ _
      rw [e1]; exact ⟨z1, y1⟩
    · show va_Z _ _ _ (.ref (α 1000001)) _ _ _ ∧ va_T _ (α 1000001) _ _ _ _ _
      rw [e2]; exact ⟨z2, y2⟩
    · show va_Z _ _ _ (.ref (α 1000002)) _ _ _ ∧ va_T _ (α 1000002) _ _ _ _ _
      rw [e3]; exact ⟨z3, y3⟩
  have hd : ∀ k, pDm 358 0 k → k < 358 := by
    intro k hk
    rcases hk with q | ⟨q1, q2⟩
    · exact q
    · omega
  have hSX : pSX s α (fun q => s.heap.size ≤ q) L xs := by
    refine ⟨?_, ?_, ?_⟩
    · rw [e4]; exact hX
    · rw [e4]; exact hbl
    · show ¬ s.heap.size ≤ α 2000000
      rw [e4]; exact Nat.not_le.mpr hbl
  have C : pCx cL_law yL_law.cls 6 (some FieldType.boolean) rm_L_law 358 p s m #[Value.ref b] meth c D κ α (fun q => s.heap.size ≤ q) s.heap.size 0 358 0 := by
    refine ⟨hx, hb, hml, hown, fun w hw => hts w (pWA_tbl hw), hr, hlocks, ⟨hK, hN, hT⟩, fun q h => h, ?_, ?_, ?_, Nat.le_of_ble_eq_true rfl, Nat.le_of_ble_eq_true rfl, Nat.le_of_ble_eq_true rfl, Nat.le_refl _⟩
    · intro k k' hk hk' e
      have a1 := e5 k (hd k hk)
      have a2 := e5 k' (hd k' hk')
      omega
    · intro k hk
      show s.heap.size ≤ α k
      have a1 := e5 k (hd k hk)
      omega
    · intro k _ hk
      rw [e5 k hk]
      omega
  obtain ⟨x, v, u, h, x2, v2, u2, h2, n, hrun⟩ := law_run (L := L) (xs := xs) rg00 hL
  have hR : pRet s #[Value.ref b] D κ α (fun q => s.heap.size ≤ q) s.heap.size 0 lw_Qc (some (.int 1), lawW x v u h x2 v2 u2 h2, rg00) := fun _ _ _ _ _ _ _ _ => rfl
  have g := ex_soundl (l := l) (e := e) (below := below) (ok_k_L_law L xs l) hSX C hR n 0 [(0, .ref 2000000)] [] [] rg00 hrun
  have hl := lv_entry ([.ref b]) (n := 6) (Nat.le_of_ble_eq_true rfl)
  rw [lg_entry_eq]
  generalize (lg_sl ([.ref b]) ++ List.replicate (6 - (lg_sl ([.ref b])).length) Slot.unset).toArray = ls at hl ⊢
  have hl : lv_has ls 6 [(0, .ref (α 2000000))] := by rw [e4]; exact hl
  have hP : HP D κ α (cellOf [] rg00) s.heap := by
    intro k e0 hk
    have h0 := cellOf_dom hk
    rcases h0 with q | ⟨q1, q2⟩
    · exact absurd q (Nat.not_lt_zero k)
    · have q2 : k < 100000 + 14 * 0 := q2
      omega
  have g2 := g s.heap [] ls hP rfl (Nat.zero_le _) (Nat.zero_le _) rfl va_S.rf hl
  intro T hT0 X
  obtain ⟨t, a1, b1⟩ := g2 T hT0 X
  refine ⟨t, a1, ?_⟩
  have hlen : (lawW x v u h x2 v2 u2 h2).length = 358 := lawW_len x v u h x2 v2 u2 h2
  have b2 : MQ below lw_Qc #[Value.ref b] s ((lawW x v u h x2 v2 u2 h2).length - 0) (1000 * ((lawW x v u h x2 v2 u2 h2).length - 0)) (fun q => s.heap.size ≤ q) t := b1
  rw [hlen] at b2
  exact lw_Z_of (by decide) (by decide) b2
set_option maxHeartbeats 4000000 in
theorem lw_walk (l : Launch) (hflags : l.flags = flags0) (b : Addr) (xs : List Int32) : MetFree l x (headSpec (Jvm.Cond.code x code maxLocals ret :: tables_1) room_1) (lw_P b xs) (fun _ _ _ _ _ => True) lw_Q := by
  refine MetFree.of_bodyS (code := code) (maxLocals := maxLocals) (ret := ret) (by decide) ?_ ?_
  · intro args s m h hn
    obtain ⟨meth, c, h1, h2, h3, h4, h5, h6, -, -⟩ := Cond.code_spec hn (atoms_spec (ws := Jvm.Cond.code x code maxLocals ret :: tables_1) h _ List.mem_cons_self)
    exact ⟨meth, c, h1, h2, h3, h4, h5, h6⟩
  · intro p e s m args below meth c s₁ B hml0 hP _
    obtain ⟨rfl, hx, hbd, hgv⟩ := hP
    obtain ⟨scr, harrAt, hlist, hof, hsmall⟩ := hx
    obtain ⟨hcb, hkn, -, -⟩ := State.arrayAt?_spec harrAt
    have hown : s.vm.findClass R_law = some m.cls := findClass_of_methodNamed B.named
    have hts0 : ∀ c ∈ (Jvm.Cond.code x code maxLocals ret :: tables_1), c.before #[Value.ref b] s = true := atoms_spec (ws := Jvm.Cond.code x code maxLocals ret :: tables_1) B.pre
    have hts : ∀ w ∈ lw_tbl, w.before #[Value.ref b] s = true := k2_hts_sels lw_privs (fun w hw => hts0 w (List.mem_cons_of_mem _ hw)) lw_privs_ok
    have hml : c.maxLocals = 6 := B.maxLocals_eq (hts0 _ List.mem_cons_self)
    have X₀ : Stand p l e room_1 s m #[Value.ref b] below meth c s₁ [] 0 0 := Stand.of_body B
    have hh0 : s₁.heap = s.heap := by rw [B.state]; rfl
    have hsz : scr.slots.size = xs.length := by rw [← Array.length_toList, hlist, List.length_map]
    have hval : ∀ j : Nat, j < xs.length → scr.slots[j]? = some (.int (xs.getD j 0)) := fun j hj => by
      rw [← Array.getElem?_toList, hlist]
      simp [hj]
    have hbl : b < s.heap.size := (Array.getElem?_eq_some_iff.mp hcb).1
    have hX : va_X b xs.length (fun j => xs.getD j 0) s s.heap := ⟨scr, hcb, hof, hkn, hsz, hval⟩
    have K : W p l e room_1 s m #[Value.ref b] below meth c s₁.heap [] 0 0 (lw_Z below #[Value.ref b] s) (entryFrame m ([Value.ref b] : List Value).toArray 6) := by
      rw [hh0]
      exact whole_start l hflags hbd ⟨B.exec, B.bytes, B.returns, hml, hown, hts, hX, hbl, B.notSynchronized, hgv⟩
    obtain ⟨t, a1, o, b1, b2, b3⟩ := K s₁ rfl X₀
    exact ⟨t, o, a1, b1, b2, b3⟩
theorem lw_pre_spec {args : Array Value} {s : State} (h : (Jvm.Cond.and given_1 narrow_1).before args s = true) (hr : rest_1_c.before args s = true) : ∃ (b : Addr) (xs : List Int32), lw_P b xs args s := by
  have hs := flat_of_before _ h
  have hq := flat_of_before _ hr
  have hc : (Cond.count 1).before args s = true := hs _ (by decide +kernel)
  have harr : (Cond.arrayOf (.arg 0) .int).before args s = true := hs _ (by decide +kernel)
  have hle : (Cond.le (.length (.arg 0)) (.int 260)).before args s = true := hs _ (by decide +kernel)
  have hlen : (Cond.isInt (.length (.arg 0))).before args s = true := hq _ (by decide +kernel)
  have hall : (Cond.all (.arg 0) (.isInt (.elem (.arg 0) (.index 0)))).before args s = true := hq _ (by decide +kernel)
  obtain ⟨b, xs, hb, hx⟩ := State.ints_of_pre rfl harr hlen hall
  have hsm : xs.length < 2 ^ 31 := hx.choose_spec.2.2.2
  have hev : (Term.length (.arg 0)).eval args s none [] s = some (.int xs.length.toInt32) := hx.length_eval hb
  have hv := Cond.le_ints hev (show (Term.int 260).eval args s none [] s = some (.int 260) from rfl)
  have hd : xs.length.toInt32 ≤ 260 := by
    simpa [Cond.before, Cond.holds, hv] using hle
  have hN : xs.length ≤ 260 := (Int32.ofNat_le_ofNat hsm (by decide)).mp (show Int32.ofNat xs.length ≤ Int32.ofNat 260 from hd)
  exact ⟨b, xs, Cond.one_arg hc (show args[0]? = some (.ref b) from hb), hx, hN, h⟩
theorem lw_comes (l : Launch) (hflags : l.flags = flags0) : Comes l x (Jvm.Cond.code x code maxLocals ret :: tables_1) room_1 (fun tb e args s => Calls_1 tb e args s ∧ rest_1 tb e args s ∧ Pre_1 tb e args s)
    (fun _ _ args s o t => lw_Q args s o t) := by
  intro p e ha hc hk s m args below hf hfit hheap happ hpre
  obtain ⟨b, xs, hP⟩ := lw_pre_spec hpre.2.2 hpre.2.1
  obtain ⟨k, o, h1, h2, h3, hQ⟩ := lw_walk l hflags b xs p e ha hc hk s m args below hf ((Spec.applies_iff_loose hf).mp happ).1 hP trivial
  exact ⟨k, o, h1, h2, h3, hQ⟩
theorem lw_frame {s t : State} {o : Outcome} {args : Array Value} (h : State.butDraws s t lw_cs (fun t1 => Framed s o t1 [] 600000 7302250)) :
    State.butDraws s t [Jvm.Choice.named "NaN.bits"] (fun t1 => Framed s o t1 (fieldLocs frame_1_writes args s ++ arrayLocs frame_1_arrays args s ++ staticLocs frame_1_statics s) 600000 7302250) := h
theorem lw_limb (L : Cond) (hL : ∀ (args : Array Value) (s t : State), L.after args s (.returned (some (.int 1))) t = true) :
    ArmFor flags0 classFile x code maxLocals ret World_1 tables_1 room_1 Calls_1 rest_1 Pre_1
      (fun tb e a s o t => postC L tb e a s o t ∧ State.butDraws s t [Jvm.Choice.named "NaN.bits"] (fun t1 => Framed s o t1 (fieldLocs frame_1_writes a s ++ arrayLocs frame_1_arrays a s ++ staticLocs frame_1_statics s) 600000 7302250)) := by
  intro l hflags _ _ p e ha hc hk s m args below hf hfit hheap happ hpre
  obtain ⟨k, o, h1, h2, h3, rfl, hF⟩ := lw_comes l hflags p e ha hc hk s m args below hf hfit hheap happ hpre
  exact ⟨k, _, h1, h2, h3, hL args s _, lw_frame hF⟩
theorem i_vc : Claimed_1_1 ∧ Claimed_1_2 := ⟨lw_limb limb_1_1 (fun args s t => by simp [limb_1_1, Cond.after, Cond.holds, Cond.value]), lw_limb limb_1_2 (fun args s t => Cond.after_iff.mpr (by
  first | (rw [show limb_1_2 = Cond.eq .result (.int 1) from rfl, Cond.eq_ints (x := 1) (y := 1) rfl rfl]; simp; done) | (simp [limb_1_2, Cond.value, Term.eval]; done)))⟩
