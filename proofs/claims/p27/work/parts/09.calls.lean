noncomputable section
/-! CALLS BY THEIR INSTRUCTIONS -/
/-- a step that is a call of n values with the answer F, up to cap cells -/
def pIsCall (cap n : Nat) (F : pF) (en : pEn) : Prop := ∀ (ls : pLs) (st : pSt) (w : pWd) (rg : pRg) (k : pK) (j : Nat → pK) (out : pOut), en ls st w rg k j = some out →
  ∃ as rest v w' rg', st = as.reverse ++ rest ∧ as.length = n ∧ rest.length < 5 ∧ F as w rg = some (v, w', rg') ∧ (w'.length ≤ w.length ∨ w'.length ≤ cap) ∧ k ls (v.toList ++ rest) w' rg' = some out
theorem oCall_is (cap n : Nat) (F : pF) : pIsCall cap n F (oCall n F) := by
  intro ls st w rg k j out h
  obtain ⟨as, rest, h1, h2, h3⟩ := popK_some h
  rw [List.append_nil] at h3
  split at h3
  next hlt =>
    unfold callK at h3
    split at h3
    next v w' rg' hf =>
      split at h3
      next hle =>
        refine ⟨as, rest, v, w', rg', h1, h2, blt_lt hlt, hf, Or.inl (Nat.le_of_eq (Nat.eq_of_beq_eq_true hle)), ?_⟩
        split at h3
        next u => exact h3
        next => exact h3
      next => cases h3
    next => cases h3
  next => cases h3
theorem oCallZ_is (cap n : Nat) (F : pF) : pIsCall cap n F (oCallZ n F) := by
  have e : oCallZ n F = oCall n F := by
    funext ls st w rg k j
    unfold oCallZ oCall
    congr 1
    funext args rest
    split
    · exact callZ_eq _ _ _ _ _
    · rfl
  rw [e]; exact oCall_is cap n F
theorem oCallA_is (cap n : Nat) (F : pF) : pIsCall cap n F (oCallA n cap F) := by
  intro ls st w rg k j out h
  obtain ⟨as, rest, h1, h2, h3⟩ := popK_some h
  rw [List.append_nil] at h3
  split at h3
  next hlt =>
    split at h3
    next v w' rg' hf =>
      split at h3
      next hle =>
        refine ⟨as, rest, v, w', rg', h1, h2, blt_lt hlt, hf, Or.inr (Nat.le_of_ble_eq_true hle), ?_⟩
        split at h3
        next u => exact h3
        next => exact h3
      next => cases h3
    next => cases h3
  next => cases h3
theorem pWA_ok {w : Cond} (h : w ∈ pWA) : w ∈ pWA ∧ ((w.onTables && w.keeps) = true ∨ ∃ ty, w = .arrayClass ty) := ⟨h, good_of_word (pWA_good h)⟩
theorem goodPs {y : MethodName} {cc : ByteArray} {nL : Nat} {ret : Option FieldType} (h : Cond.code y cc nL ret ∈ pWA) : GoodIn pWA (pWs y cc nL ret) := fun w hw => (List.mem_cons.mp hw).elim (fun e => by rw [e]; exact pWA_ok h) pWA_ok
section CI
variable {l : Launch} {R : Room} {cc : ByteArray} {own : String} {nL cap : Nat} {ret : Option FieldType} {pcOf : Nat → Nat} {i : Nat}
variable {n0 idx : Nat} {y : MethodName} {bytes : ByteArray} {maxL : Nat} {rt : Option FieldType} {rm : Room} {F : pF} {en : pEn}
abbrev pPlain (y : MethodName) (n0 : Nat) : Prop := y.cls ≠ "java/lang/invoke/MethodHandle" ∧ y.cls ≠ "java/lang/invoke/VarHandle" ∧ (parseMethodDescriptor y.desc).map (fun d => d.parameters.length) = some n0
/-- the receiver is an object of the class ci -/
def pRcv (ci : Nat) (F : pF) : Prop := ∀ (as : List Value) (w : pWd) (rg : pRg) (o : pOut), F as w rg = some o → ∃ a as' fs, as = .ref a :: as' ∧ cellOf w rg a = some (.inr (ci, fs))
theorem pRcv_fz {ci : Nat} {F : pF} (h : pRcv ci F) : pRcv ci (fz F) := h
theorem st_conc (α : Nat → Nat) (as : List Value) (rest : pSt) : (as.reverse ++ rest).map (cv α) = (as.map (cv α)).reverse ++ rest.map (cv α) := by rw [List.map_append, List.map_reverse]
theorem st_ret (α : Nat → Nat) (v : Option Value) (rest : pSt) : (v.toList ++ rest).map (cv α) = (v.map (cv α)).toList ++ rest.map (cv α) := by cases v <;> rfl
theorem okCallV {ci N : Nat} {T : u_T} (hen : pIsCall cap (n0 + 1) F en) (hd : decode cc (pcOf i) = .ok (.invokevirtual idx, 3)) (hp : pcOf (i + 1) = pcOf i + 3) (hF : pFOK l y (pWs y bytes maxL rt) rm F) (hrc : pRcv ci F) (hc : vwCl[ci]? = some (y.cls, T, N))
    (w1 : Cond.methodLink own idx y ∈ pWA) (w2 : Cond.instanceMethod y ∈ pWA) (w3 : Cond.selects y.cls y y ∈ pWA) (w4 : Cond.initialized y.cls ∈ pWA) (w5 : Cond.code y bytes maxL rt ∈ pWA) (hd2 : pPlain y n0) (hR : rm.frames + 1 ≤ R.frames ∧ 8 + (maxL + 11) + rm.locals ≤ R.locals) : EOK l cc own nL ret R cap pcOf i en := by
  intro p e s m args below meth c D κ α A sz L0 Lm r Qc out C hRt ls st w rg k j h hk hj H locs lsA hP hz h0 h1 hr hS hl
  obtain ⟨hx, hb, hml, hown, hts, hret, hlk, hKE, hA, hin, hAk, hfr, hLm, hcc, hcs, hcap⟩ := id C
  obtain ⟨as, rest, v, w', rg', e1, e2, e3, e4, e5, e6⟩ := hen _ _ _ _ _ _ _ h
  subst e1
  rw [st_conc]
  obtain ⟨a, as', fs, rfl, hcell⟩ := hrc _ _ _ _ e4
  have hg : GoodIn pWA (wsV own idx y.cls y (pWs y bytes maxL rt)) := fun w hw => by
    rcases List.mem_append.mp hw with q | q
    · simp only [List.mem_cons, List.not_mem_nil, or_false] at q
      rcases q with rfl | rfl | rfl | rfl
      · exact pWA_ok w1
      · exact pWA_ok w2
      · exact pWA_ok w3
      · exact pWA_ok w4
    · exact goodPs w5 w q
  refine call_core C hF e4 (by omega) hP hz h0 h1 hr hS (fun Pc Qc mc ms free hM hrc2 hrs hpre hf => ?_) (fun H1 locs1 hP1 hz1 h01 hr1 hS1 => ?_)
  · have hrecv := va_recv hKE.1 (va_one (hP a _ hcell)) hc (q0 := 0) rfl
    refine va_runV (C := y.cls) (As := as'.map (cv α)) ⟨hx, hb, hml, hown, hts⟩ hM (cwV n0 hts hg rfl hrc2 hrs ⟨rfl, hd2⟩ hR) ⟨hpre.1, hrecv, hpre.2⟩ rfl (by simp at e2 ⊢; exact e2) hl.1 (by simp [cv]) (lv_room (st_sum e3)) hd hf
  · have g := hk _ _ _ _ e6 H1 locs1 lsA hP1 hz1 h01 (by omega) hr1 hS1 hl
    rw [hp, st_ret] at g
    exact g
theorem okCallS (hen : pIsCall cap n0 F en) (hd : decode cc (pcOf i) = .ok (.invokestatic idx, 3)) (hp : pcOf (i + 1) = pcOf i + 3) (hF : pFOK l y (pWs y bytes maxL rt) rm F)
    (w1 : Cond.methodLink own idx y ∈ pWA) (w2 : Cond.static y ∈ pWA) (w4 : Cond.initialized y.cls ∈ pWA) (w5 : Cond.code y bytes maxL rt ∈ pWA) (hd2 : pPlain y n0) (hR : rm.frames + 1 ≤ R.frames ∧ 8 + (maxL + 11) + rm.locals ≤ R.locals) : EOK l cc own nL ret R cap pcOf i en := by
  intro p e s m args below meth c D κ α A sz L0 Lm r Qc out C hRt ls st w rg k j h hk hj H locs lsA hP hz h0 h1 hr hS hl
  obtain ⟨hx, hb, hml, hown, hts, hret, hlk, hKE, hA, hin, hAk, hfr, hLm, hcc, hcs, hcap⟩ := id C
  obtain ⟨as, rest, v, w', rg', e1, e2, e3, e4, e5, e6⟩ := hen _ _ _ _ _ _ _ h
  subst e1
  rw [st_conc]
  have hg : GoodIn pWA (va_wsS own idx y (pWs y bytes maxL rt)) := fun w hw => by
    rcases List.mem_append.mp hw with q | q
    · simp only [List.mem_cons, List.not_mem_nil, or_false] at q
      rcases q with rfl | rfl | rfl
      · exact pWA_ok w1
      · exact pWA_ok w2
      · exact pWA_ok w4
    · exact goodPs w5 w q
  refine call_core C hF e4 (by omega) hP hz h0 h1 hr hS (fun Pc Qc mc ms free hM hrc2 hrs hpre hf => ?_) (fun H1 locs1 hP1 hz1 h01 hr1 hS1 => ?_)
  · exact va_runS (As := as.map (cv α)) ⟨hx, hb, hml, hown, hts⟩ hM (va_cwS n0 hts hg rfl hrc2 hrs hd2 hR) hpre rfl (by rw [List.length_map]; exact e2) hl.1 rfl (lv_room (st_sum e3)) hd hf
  · have g := hk _ _ _ _ e6 H1 locs1 lsA hP1 hz1 h01 (by omega) hr1 hS1 hl
    rw [hp, st_ret] at g
    exact g
theorem okCallSN {host : String} (hen : pIsCall cap n0 F en) (hd : decode cc (pcOf i) = .ok (.invokestatic idx, 3)) (hp : pcOf (i + 1) = pcOf i + 3) (hF : pFOK l y (pWs y bytes maxL rt) rm F)
    (w1 : Cond.methodLinkNest own idx y host ∈ nestW) (w2 : Cond.static y ∈ pWA) (w4 : Cond.initialized y.cls ∈ pWA) (w5 : Cond.code y bytes maxL rt ∈ pWA) (hd2 : pPlain y n0) (hR : rm.frames + 1 ≤ R.frames ∧ 8 + (maxL + 11) + rm.locals ≤ R.locals) : EOK l cc own nL ret R cap pcOf i en := by
  intro p e s m args below meth c D κ α A sz L0 Lm r Qc out C hRt ls st w rg k j h hk hj H locs lsA hP hz h0 h1 hr hS hl
  obtain ⟨hx, hb, hml, hown, hts, hret, hlk, hKE, hA, hin, hAk, hfr, hLm, hcc, hcs, hcap⟩ := id C
  obtain ⟨as, rest, v, w', rg', e1, e2, e3, e4, e5, e6⟩ := hen _ _ _ _ _ _ _ h
  subst e1
  rw [st_conc]
  refine call_core C hF e4 (by omega) hP hz h0 h1 hr hS (fun Pc Qc mc ms free hM hrc2 hrs hpre hf => ?_) (fun H1 locs1 hP1 hz1 h01 hr1 hS1 => ?_)
  · exact va_runSN (As := as.map (cv α)) (host := host) ⟨hx, hb, hml, hown, hts⟩ hM ⟨va_cnB n0 hts (goodPs w5) rfl hrc2 hrs (hKE.2.1.1 _ w1) (hts _ w4) hd2 hR, hts _ w2, trivial⟩ hpre rfl (by rw [List.length_map]; exact e2) hl.1 rfl (lv_room (st_sum e3)) hd hf
  · have g := hk _ _ _ _ e6 H1 locs1 lsA hP1 hz1 h01 (by omega) hr1 hS1 hl
    rw [hp, st_ret] at g
    exact g
/-- invokespecial of a constructor -/
theorem okCallI (hen : pIsCall cap (n0 + 1) F en) (hd : decode cc (pcOf i) = .ok (.invokespecial idx, 3)) (hp : pcOf (i + 1) = pcOf i + 3) (hF : pFOK l y (pWs y bytes maxL none) rm F) (hra : ∀ as w rg o, F as w rg = some o → ∃ a as', as = .ref a :: as')
    (w1 : Cond.methodLink own idx y ∈ pWA) (w2 : Cond.instanceMethod y ∈ pWA) (w4 : Cond.initialized y.cls ∈ pWA) (w5 : Cond.code y bytes maxL none ∈ pWA) (hy1 : y.name = "<init>") (hd2 : pPlain y n0) (hR : rm.frames + 1 ≤ R.frames ∧ 8 + (maxL + 11) + rm.locals ≤ R.locals) : EOK l cc own nL ret R cap pcOf i en := by
  intro p e s m args below meth c D κ α A sz L0 Lm r Qc out C hRt ls st w rg k j h hk hj H locs lsA hP hz h0 h1 hr hS hl
  obtain ⟨hx, hb, hml, hown, hts, hret, hlk, hKE, hA, hin, hAk, hfr, hLm, hcc, hcs, hcap⟩ := id C
  obtain ⟨as, rest, v, w', rg', e1, e2, e3, e4, e5, e6⟩ := hen _ _ _ _ _ _ _ h
  subst e1
  rw [st_conc]
  obtain ⟨a, as', rfl⟩ := hra _ _ _ _ e4
  refine call_core C hF e4 (by omega) hP hz h0 h1 hr hS (fun Pc Qc mc ms free hM hrc2 hrs hpre hf => ?_) (fun H1 locs1 hP1 hz1 h01 hr1 hS1 => ?_)
  · exact va_runI (As := as'.map (cv α)) (b := α a) ⟨hx, hb, hml, hown, hts⟩ hM (cwI n0 hts (goodPs w5) rfl hrc2 hrs (hts _ w4) (hts _ w1) (hts _ w2) hy1 hd2 hR) hpre rfl (by simp at e2 ⊢; exact e2) hl.1 (by simp [cv]) (lv_room (st_sum e3)) hd hf
  · have g := hk _ _ _ _ e6 H1 locs1 lsA hP1 hz1 h01 (by omega) hr1 hS1 hl
    rw [hp, st_ret] at g
    exact g
theorem okCallIN {host : String} (hen : pIsCall cap (n0 + 1) F en) (hd : decode cc (pcOf i) = .ok (.invokespecial idx, 3)) (hp : pcOf (i + 1) = pcOf i + 3) (hF : pFOK l y (pWs y bytes maxL none) rm F) (hra : ∀ as w rg o, F as w rg = some o → ∃ a as', as = .ref a :: as')
    (w1 : Cond.methodLinkNest own idx y host ∈ nestW) (w2 : Cond.instanceMethod y ∈ pWA) (w4 : Cond.initialized y.cls ∈ pWA) (w5 : Cond.code y bytes maxL none ∈ pWA) (hy1 : y.name = "<init>") (hd2 : pPlain y n0) (hR : rm.frames + 1 ≤ R.frames ∧ 8 + (maxL + 11) + rm.locals ≤ R.locals) : EOK l cc own nL ret R cap pcOf i en := by
  intro p e s m args below meth c D κ α A sz L0 Lm r Qc out C hRt ls st w rg k j h hk hj H locs lsA hP hz h0 h1 hr hS hl
  obtain ⟨hx, hb, hml, hown, hts, hret, hlk, hKE, hA, hin, hAk, hfr, hLm, hcc, hcs, hcap⟩ := id C
  obtain ⟨as, rest, v, w', rg', e1, e2, e3, e4, e5, e6⟩ := hen _ _ _ _ _ _ _ h
  subst e1
  rw [st_conc]
  obtain ⟨a, as', rfl⟩ := hra _ _ _ _ e4
  refine call_core C hF e4 (by omega) hP hz h0 h1 hr hS (fun Pc Qc mc ms free hM hrc2 hrs hpre hf => ?_) (fun H1 locs1 hP1 hz1 h01 hr1 hS1 => ?_)
  · exact va_runIN (As := as'.map (cv α)) (b := α a) (host := host) ⟨hx, hb, hml, hown, hts⟩ hM ⟨va_cnB n0 hts (goodPs w5) rfl hrc2 hrs (hKE.2.1.1 _ w1) (hts _ w4) hd2 hR, hy1, hts _ w2⟩ hpre rfl (by simp at e2 ⊢; exact e2) hl.1 (by simp [cv]) (lv_room (st_sum e3)) hd hf
  · have g := hk _ _ _ _ e6 H1 locs1 lsA hP1 hz1 h01 (by omega) hr1 hS1 hl
    rw [hp, st_ret] at g
    exact g
end CI
end
