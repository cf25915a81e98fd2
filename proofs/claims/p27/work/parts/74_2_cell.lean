noncomputable section
/-! A PLACE OF THE SCRIPT, AS THE LAW'S cell TELLS IT -/
def pPreS (D : va_G) (κ : pKap) (α : Nat → Nat) (args : List Value) (sz L : Nat) (xs : Nat → Int32) : Array Value → State → Prop :=
  va_Pc (args.map (cv α)) (fun U => (U.heap.size = sz ∧ HP D κ α (cellOf [] rg00) U.heap ∧ pKE D κ α (pA α [] rg00 sz) U) ∧ pSX U α (pA α [] rg00 sz) L xs)
theorem dm_00 {j : Nat} (h : pDm 0 0 j) : False := by
  unfold pDm at h
  omega
/-- a contract out of a pure run that reads the script and has no cells of its own -/
theorem met_of_exS {l : Launch} {y : MethodName} {cc : ByteArray} {nL : Nat} {ret : Option FieldType} {rm : Room} {pcOf : Nat → Nat} {code : List pEn} {L : Nat} {xs : Nat → Int32} (hy : plainName y.cls = true)
    (hc : ∀ (i : Nat) (en : pEn), code[i]? = some en → EOKl L xs l cc y.cls nL ret rm 0 pcOf i en) (hp0 : pcOf 0 = 0)
    {args : List Value} {v : Option Value} (hrun : ∃ n, ex code n 0 (lv_args 0 args) [] [] rg00 = some (v, [], rg00)) (hsl : (lg_sl args).length ≤ nL) (D : va_G) (κ : pKap) (α : Nat → Nat) (sz : Nat) :
    Met l y (pWs y cc nL ret) rm (pPreS D κ α args sz L xs) (pPost D κ α [] rg00 sz (v, [], rg00)) 0 0 (pA α [] rg00 sz) := by
  obtain ⟨n, h⟩ := hrun
  refine Met.ofW (cc := cc) (maxL := nL) (ret := ret) hy rfl ?_
  intro p e s m args' below meth c s₁ B hml hv
  obtain ⟨rfl, ⟨hsz, hP, hKE⟩, hSX⟩ := hv
  have hts := atoms_spec (ws := pWs y cc nL ret) B.pre
  have hown : s.vm.findClass y.cls = some m.cls := findClass_of_methodNamed B.named
  have C : pCx cc y.cls nL ret (headSpec (pWs y cc nL ret) rm).room 0 p s m (args.map (cv α)).toArray meth c D κ α (pA α [] rg00 sz) sz 0 0 0 :=
    ⟨B.exec, B.bytes, hml, hown, fun w h => hts w (List.mem_cons_of_mem _ h), B.returns, B.notSynchronized, hKE, fun q h => Or.inr (by rw [← hsz]; exact h), fun k k' hk _ _ => (dm_00 hk).elim, fun k hk => (dm_00 hk).elim, fun k _ hk => absurd hk (Nat.not_lt_zero k), by omega, by omega, by omega, Nat.le_refl _⟩
  have hR : pRet s (args.map (cv α)).toArray D κ α (pA α [] rg00 sz) sz 0 (pPost D κ α [] rg00 sz (v, [], rg00)) (v, [], rg00) := by
    intro H locs t h1 h2 h3 h4 _
    exact ⟨rfl, by rw [h4]; exact h1, by rw [h4]; exact h2, h3.F h4⟩
  have g := ex_soundl (l := l) (e := e) (below := below) hc hSX C hR n 0 (lv_args 0 args) [] [] rg00 h
  have hl := lv_entry (args.map (cv α)) (n := nL) (by rw [sl_len]; exact hsl)
  rw [lg_entry_eq]
  rw [args_conc] at hl
  have g2 := g s.heap [] _ hP (by exact hsz) (Nat.le_refl _) (Nat.le_refl _) rfl va_S.rf hl
  rw [hp0] at g2
  exact g2
def cellI (L : Nat) (xs : Nat → Int32) (i : Int32) : Int32 := if Int32.ofNat L ≤ i then 747796405 * (i + 1) else xs i.toNatClampNeg
def oCellS (L : Nat) (xs : Nat → Int32) : pEn := fun ls st w rg k _ => match st with
  | .int i :: .ref x :: st' => (match Nat.beq x 2000000 with
    | true => (match Nat.blt st'.length 5 with
      | true => pif (¬ i < 0 ∧ L ≤ 260) (k ls (.int (cellI L xs i) :: st') w rg) none
      | false => none)
    | false => none)
  | _ => none
theorem dL_cell_0 : decode cL_cell 0 = .ok (.iload_n 1, 1) := by decide +kernel
theorem dL_cell_1 : decode cL_cell 1 = .ok (.aload_n 0, 1) := by decide +kernel
theorem dL_cell_2 : decode cL_cell 2 = .ok (.arraylength, 1) := by decide +kernel
theorem dL_cell_3 : decode cL_cell 3 = .ok (.if_icmp .ge 9, 3) := by decide +kernel
theorem dL_cell_6 : decode cL_cell 6 = .ok (.aload_n 0, 1) := by decide +kernel
theorem dL_cell_7 : decode cL_cell 7 = .ok (.iload_n 1, 1) := by decide +kernel
theorem dL_cell_8 : decode cL_cell 8 = .ok (.iaload, 1) := by decide +kernel
theorem dL_cell_9 : decode cL_cell 9 = .ok (.goto 9, 3) := by decide +kernel
theorem dL_cell_12 : decode cL_cell 12 = .ok (.ldc 7, 2) := by decide +kernel
theorem dL_cell_14 : decode cL_cell 14 = .ok (.iload_n 1, 1) := by decide +kernel
theorem dL_cell_15 : decode cL_cell 15 = .ok (.iconst 1, 1) := by decide +kernel
theorem dL_cell_16 : decode cL_cell 16 = .ok (.iadd, 1) := by decide +kernel
theorem dL_cell_17 : decode cL_cell 17 = .ok (.imul, 1) := by decide +kernel
theorem dL_cell_18 : decode cL_cell 18 = .ok (.ireturn, 1) := by decide +kernel
def k_L_cell (L : Nat) (xs : Nat → Int32) : List pEn := [oIload 1, oAload 0, oSlen L, oCge 8, oAload 0, oIload 1, oSld L xs, oGoto 13, oConst (747796405), oIload 1, oConst (1), oAdd, oMul, oIret]
def pc_L_cell (i : Nat) : Nat := ([0, 1, 2, 3, 6, 7, 8, 9, 12, 14, 15, 16, 17, 18] : List Nat).getD i 0
abbrev rm_L_cell : Room := { frames := 0, cells := 0, slots := 0, locals := 0 }
theorem pl_L_cell : pPlain yL_cell 2 := by decide +kernel
set_option maxRecDepth 100000 in
set_option maxHeartbeats 4000000 in
theorem ok_k_L_cell (L : Nat) (xs : Nat → Int32) (l : Launch) : ∀ (i : Nat) (en : pEn), (k_L_cell L xs)[i]? = some en → EOKl L xs l cL_cell yL_cell.cls 2 ((some FieldType.int)) rm_L_cell 0 pc_L_cell i en := by
  refine allOK_at ?_
  refine And.intro (EOK.l (okIload_n dL_cell_0 rfl rfl)) ?_
  refine And.intro (EOK.l (okAload_n dL_cell_1 rfl rfl)) ?_
  refine And.intro (okSlen dL_cell_2 rfl) ?_
  refine And.intro (EOK.l (okCge dL_cell_3 rfl (by rfl))) ?_
  refine And.intro (EOK.l (okAload_n dL_cell_6 rfl rfl)) ?_
  refine And.intro (EOK.l (okIload_n dL_cell_7 rfl rfl)) ?_
  refine And.intro (okSld dL_cell_8 rfl) ?_
  refine And.intro (EOK.l (okGoto dL_cell_9 (by rfl))) ?_
  refine And.intro (EOK.l (okLdc dL_cell_12 rfl wn_2_65)) ?_
  refine And.intro (EOK.l (okIload_n dL_cell_14 rfl rfl)) ?_
  refine And.intro (EOK.l (okIconst dL_cell_15 rfl (by first | rfl | decide))) ?_
  refine And.intro (EOK.l (okAdd dL_cell_16 rfl)) ?_
  refine And.intro (EOK.l (okMul dL_cell_17 rfl)) ?_
  refine And.intro (EOK.l (okIret dL_cell_18 rfl)) ?_
  exact trivial
set_option maxHeartbeats 400000 in
theorem run_L_cell (L : Nat) (xs : Nat → Int32) (i : Int32) (hc : ¬ i < 0 ∧ L ≤ 260) : ∃ fu, ex (k_L_cell L xs) fu 0 [(0, .ref 2000000), (1, .int i)] [] [] rg00 = some (some (.int (cellI L xs i)), [], rg00) := by
  refine ⟨4, ?_⟩
  conv => lhs; whnf
  refine pif_c (fun h => ?_) (fun h => ?_)
  · rw [show cellI L xs i = _ from if_pos h]
    rfl
  · rw [show cellI L xs i = _ from if_neg h]
    have hv : vp_in i L := by
      unfold vp_in
      rintro (q | q)
      · exact hc.1 q
      · refine h ?_
        have e := nI_ofN (Int32.not_lt.mp hc.1)
        rw [e]
        have : i.toNatClampNeg < 2 ^ 31 := by
          have h1 : i.toNatClampNeg = i.toInt.toNat := rfl
          have h2 : i.toInt < 2 ^ 31 := Int32.toInt_lt i
          omega
        exact nI_le q this
    conv => lhs; whnf
    refine (pif_t hv).trans ?_
    rfl
section ST
variable {l : Launch} {R : Room} {cc : ByteArray} {own : String} {nL cap : Nat} {ret : Option FieldType} {pcOf : Nat → Nat} {i : Nat} {L : Nat} {xs : Nat → Int32} {idx : Nat}
theorem okCellS (hd : decode cc (pcOf i) = .ok (.invokestatic idx, 3)) (hp : pcOf (i + 1) = pcOf i + 3)
    (w1 : Cond.methodLink own idx yL_cell ∈ pWA) (w2 : Cond.static yL_cell ∈ pWA) (w4 : Cond.initialized yL_cell.cls ∈ pWA) (w5 : Cond.code yL_cell cL_cell 2 ((some FieldType.int)) ∈ pWA) (hR : rm_L_cell.frames + 1 ≤ R.frames ∧ 8 + (2 + 11) + rm_L_cell.locals ≤ R.locals) : EOKl L xs l cc own nL ret R cap pcOf i (oCellS L xs) := by
  intro p e s m args below meth c D κ α A sz L0 Lm r Qc out hX C hRt ls st w rg k j h hk hj H locs lsA hP hz h0 h1 hr hS hl
  obtain ⟨hx, hb, hml, hown, hts, hret, hlk, hKE, hA, hin, hAk, hfr, hLm, hcc, hcs, hcap⟩ := id C
  unfold oCellS at h
  split at h
  next y x st' =>
    split at h
    next hq =>
      have hq := Nat.eq_of_beq_eq_true hq
      subst hq
      split at h
      next hlt =>
        have e3 := blt_lt hlt
        by_cases hv : ¬ y < 0 ∧ L ≤ 260
        · have h := (pif_t hv).symm.trans h
          have hg : GoodIn pWA (va_wsS own idx yL_cell (pWs yL_cell cL_cell 2 ((some FieldType.int)))) := fun w hw => by
            rcases List.mem_append.mp hw with q | q
            · simp only [List.mem_cons, List.not_mem_nil, or_false] at q
              rcases q with rfl | rfl | rfl
              · exact pWA_ok w1
              · exact pWA_ok w2
              · exact pWA_ok w4
            · exact goodPs w5 w q
          have hM := met_of_exS (l := l) (y := yL_cell) (by decide) (ok_k_L_cell L xs l) rfl (args := [.ref 2000000, .int y]) (run_L_cell L xs y hv) (Nat.le_of_ble_eq_true rfl) D κ α H.size
          have hpre : FrameBlind (pPreS D κ α [.ref 2000000, .int y] H.size L xs) ∧ ∀ U : State, U.heap = H → s.WarmedH U.vm → pPreS D κ α [.ref 2000000, .int y] H.size L xs (([.ref 2000000, .int y] : List Value).map (cv α)).toArray U := by
            refine ⟨?_, ?_⟩
            · intro a U g mk hq
              obtain ⟨q1, ⟨q2, q3, q4⟩, q5, q6, q7⟩ := hq
              exact ⟨q1, ⟨q2, q3, q4.blind⟩, va_X.moved (u := U) (U := U.calling g mk a) (Vm.Alike.refl U.vm) q5, q6, q7⟩
            · intro U hU hW
              refine ⟨rfl, ⟨by rw [hU], fun k0 x0 hk0 => (dm_00 (cellOf_dom hk0)).elim, hKE.down (by rw [hU]; exact hS) hW ?_ (fun _ _ => rfl)⟩, ?_, ?_, ?_⟩
              · intro q hq
                rcases hq with ⟨k0, hk0, -⟩ | hq
                · exact (dm_00 hk0).elim
                · exact hA q (Nat.le_trans hS.1 hq)
              · rw [hU]
                exact va_X.moved hW.alike (hX.1.kept (hS.2.1 _ hX.2.1 hX.2.2))
              · rw [hU]
                exact Nat.lt_of_lt_of_le hX.2.1 hS.1
              · intro hq
                rcases hq with ⟨k0, hk0, -⟩ | hq
                · exact dm_00 hk0
                · exact absurd (Nat.lt_of_lt_of_le hX.2.1 hS.1) (Nat.not_lt.mpr hq)
          have hrun := va_runS (As := ([.ref 2000000, .int y] : List Value).map (cv α)) (cells := w.length - L0) (slots := 1000 * (w.length - L0)) (rest := st'.map (cv α)) (locs := locs) (meth := meth) (below := below) (e := e) (g := F0 m (pcOf i) lsA ((([.ref 2000000, .int y] : List Value).map (cv α)).reverse ++ st'.map (cv α))) ⟨hx, hb, hml, hown, hts⟩ hM (va_cwS 2 hts hg rfl rfl rfl pl_L_cell hR) hpre rfl rfl hl.1 rfl (lv_room (st_sum e3)) hd ⟨by omega, by omega⟩
          refine fw_call hrun ?_
          intro v' st₀ t L' e0 hq hL
          obtain ⟨q1, q2, q3, q4, q5⟩ := hq
          dsimp only at q1 q2 q3
          have hv' : v' = some (.int (cellI L xs y)) := Outcome.returned.inj q1
          subst hv'
          rw [e0] at q4 q5
          have hA2 : ∀ q : Nat, q < H.size → t.heap[q]? = H[q]? := fun q hq => q5 q hq (fun z => by
            rcases z with ⟨k0, hk0, -⟩ | z
            · exact dm_00 hk0
            · exact absurd hq (Nat.not_lt.mpr z))
          have hP1 : HP D κ α (cellOf w rg) t.heap := fun k0 x0 hk0 => (hP k0 x0 hk0).kept (hA2 _ (hP k0 x0 hk0).lt)
          have hS1 : va_S A s.heap t.heap (locs ++ L') := ⟨Nat.le_trans hS.1 q4, fun q z1 z2 => by rw [hA2 q (Nat.lt_of_lt_of_le z1 hS.1)]; exact hS.2.1 q z1 z2, fun q hq => by
            rcases List.mem_append.mp hq with z | z
            · exact hS.2.2 q z
            · rcases hL q z with ⟨k0, hk0, -⟩ | z2
              · exact (dm_00 hk0).elim
              · exact hA _ (Nat.le_trans hS.1 z2)⟩
          have g := hk _ _ _ _ h t.heap (locs ++ L') lsA hP1 (by rw [q3]; exact hz) h0 h1 hr hS1 hl
          rw [hp] at g
          exact g
        · have h := (pif_f hv).symm.trans h
          cases h
      next => cases h
    next => cases h
  next => cases h
end ST
end
