noncomputable section
/-! THE FRAMES OF THE LAW'S CALLS -/
/-- where the class's cells of a contract stand -/
def ρC (j : Nat) : Nat := if j < 31 then j else if j = 31 then 143 else if j = 32 then 158 else if j < 39 then j + 140 else if j < 100000 then j else if j < 100112 then j - 100000 + 31 else if j < 100126 then j - 100112 + 144 else if j < 100140 then j - 100126 + 159 else j
theorem hsL_eq : (fun i => (hs0 i).map ρC) = hsL := by
  funext i
  match i with
  | 0 => rfl
  | 1 => rfl
  | 2 => rfl
  | 3 => rfl
  | 4 => rfl
  | 5 => rfl
  | 6 => rfl
  | 7 => rfl
  | i + 8 =>
    have h1 : hs0 (i + 8) = none := if_neg (by omega)
    have h2 : hsF (i + 8) = none := by
      unfold hsF
      simp [va_up]
    show (hs0 (i + 8)).map ρC = (hsF (i + 8)).map (shQ 0)
    rw [h1, h2]
    rfl
set_option maxHeartbeats 4000000 in
set_option maxRecDepth 100000 in
theorem cC_lo (x v u : pLV) (h : Nat → pLV) (m : pLV) (rg : pRg) : ∀ j, j < 39 → cellOf (lawA x v u h m) rg (ρC j) = (cellOf (cw hs0 x v u) (10, h) j).map (re ρC)
  | 0, _ => rfl
  | 1, _ => rfl
  | 2, _ => rfl
  | 3, _ => rfl
  | 4, _ => rfl
  | 5, _ => rfl
  | 6, _ => rfl
  | 7, _ => rfl
  | 8, _ => rfl
  | 9, _ => rfl
  | 10, _ => rfl
  | 11, _ => rfl
  | 12, _ => rfl
  | 13, _ => rfl
  | 14, _ => rfl
  | 15, _ => rfl
  | 16, _ => rfl
  | 17, _ => rfl
  | 18, _ => rfl
  | 19, _ => rfl
  | 20, _ => rfl
  | 21, _ => rfl
  | 22, _ => rfl
  | 23, _ => rfl
  | 24, _ => rfl
  | 25, _ => rfl
  | 26, _ => rfl
  | 27, _ => rfl
  | 28, _ => rfl
  | 29, _ => rfl
  | 30, _ => by
    show some (Sum.inl (1, 8, Sum.inr (Sum.inr (Sum.inr (Sum.inr hsL))))) = some (Sum.inl (1, 8, Sum.inr (Sum.inr (Sum.inr (Sum.inr (fun i => (hs0 i).map ρC))))))
    rw [hsL_eq]
  | 31, _ => rfl
  | 32, _ => rfl
  | 33, _ => rfl
  | 34, _ => rfl
  | 35, _ => rfl
  | 36, _ => rfl
  | 37, _ => rfl
  | 38, _ => rfl
  | j + 39, h => absurd h (by omega)
set_option maxHeartbeats 4000000 in
set_option maxRecDepth 100000 in
theorem cC_h0 (x v u : pLV) (h : Nat → pLV) (m : pLV) (rg : pRg) : ∀ t, t < 14 → cellOf (lawA x v u h m) rg (ρC (100000 + t)) = (cellOf (cw hs0 x v u) (10, h) (100000 + t)).map (re ρC)
  | 0, _ => rfl
  | 1, _ => rfl
  | 2, _ => rfl
  | 3, _ => rfl
  | 4, _ => rfl
  | 5, _ => rfl
  | 6, _ => rfl
  | 7, _ => rfl
  | 8, _ => rfl
  | 9, _ => rfl
  | 10, _ => rfl
  | 11, _ => rfl
  | 12, _ => rfl
  | 13, _ => rfl
  | t + 14, h => absurd h (by omega)
set_option maxHeartbeats 4000000 in
set_option maxRecDepth 100000 in
theorem cC_h1 (x v u : pLV) (h : Nat → pLV) (m : pLV) (rg : pRg) : ∀ t, t < 14 → cellOf (lawA x v u h m) rg (ρC (100014 + t)) = (cellOf (cw hs0 x v u) (10, h) (100014 + t)).map (re ρC)
  | 0, _ => rfl
  | 1, _ => rfl
  | 2, _ => rfl
  | 3, _ => rfl
  | 4, _ => rfl
  | 5, _ => rfl
  | 6, _ => rfl
  | 7, _ => rfl
  | 8, _ => rfl
  | 9, _ => rfl
  | 10, _ => rfl
  | 11, _ => rfl
  | 12, _ => rfl
  | 13, _ => rfl
  | t + 14, h => absurd h (by omega)
set_option maxHeartbeats 4000000 in
set_option maxRecDepth 100000 in
theorem cC_h2 (x v u : pLV) (h : Nat → pLV) (m : pLV) (rg : pRg) : ∀ t, t < 14 → cellOf (lawA x v u h m) rg (ρC (100028 + t)) = (cellOf (cw hs0 x v u) (10, h) (100028 + t)).map (re ρC)
  | 0, _ => rfl
  | 1, _ => rfl
  | 2, _ => rfl
  | 3, _ => rfl
  | 4, _ => rfl
  | 5, _ => rfl
  | 6, _ => rfl
  | 7, _ => rfl
  | 8, _ => rfl
  | 9, _ => rfl
  | 10, _ => rfl
  | 11, _ => rfl
  | 12, _ => rfl
  | 13, _ => rfl
  | t + 14, h => absurd h (by omega)
set_option maxHeartbeats 4000000 in
set_option maxRecDepth 100000 in
theorem cC_h3 (x v u : pLV) (h : Nat → pLV) (m : pLV) (rg : pRg) : ∀ t, t < 14 → cellOf (lawA x v u h m) rg (ρC (100042 + t)) = (cellOf (cw hs0 x v u) (10, h) (100042 + t)).map (re ρC)
  | 0, _ => rfl
  | 1, _ => rfl
  | 2, _ => rfl
  | 3, _ => rfl
  | 4, _ => rfl
  | 5, _ => rfl
  | 6, _ => rfl
  | 7, _ => rfl
  | 8, _ => rfl
  | 9, _ => rfl
  | 10, _ => rfl
  | 11, _ => rfl
  | 12, _ => rfl
  | 13, _ => rfl
  | t + 14, h => absurd h (by omega)
set_option maxHeartbeats 4000000 in
set_option maxRecDepth 100000 in
theorem cC_h4 (x v u : pLV) (h : Nat → pLV) (m : pLV) (rg : pRg) : ∀ t, t < 14 → cellOf (lawA x v u h m) rg (ρC (100056 + t)) = (cellOf (cw hs0 x v u) (10, h) (100056 + t)).map (re ρC)
  | 0, _ => rfl
  | 1, _ => rfl
  | 2, _ => rfl
  | 3, _ => rfl
  | 4, _ => rfl
  | 5, _ => rfl
  | 6, _ => rfl
  | 7, _ => rfl
  | 8, _ => rfl
  | 9, _ => rfl
  | 10, _ => rfl
  | 11, _ => rfl
  | 12, _ => rfl
  | 13, _ => rfl
  | t + 14, h => absurd h (by omega)
set_option maxHeartbeats 4000000 in
set_option maxRecDepth 100000 in
theorem cC_h5 (x v u : pLV) (h : Nat → pLV) (m : pLV) (rg : pRg) : ∀ t, t < 14 → cellOf (lawA x v u h m) rg (ρC (100070 + t)) = (cellOf (cw hs0 x v u) (10, h) (100070 + t)).map (re ρC)
  | 0, _ => rfl
  | 1, _ => rfl
  | 2, _ => rfl
  | 3, _ => rfl
  | 4, _ => rfl
  | 5, _ => rfl
  | 6, _ => rfl
  | 7, _ => rfl
  | 8, _ => rfl
  | 9, _ => rfl
  | 10, _ => rfl
  | 11, _ => rfl
  | 12, _ => rfl
  | 13, _ => rfl
  | t + 14, h => absurd h (by omega)
set_option maxHeartbeats 4000000 in
set_option maxRecDepth 100000 in
theorem cC_h6 (x v u : pLV) (h : Nat → pLV) (m : pLV) (rg : pRg) : ∀ t, t < 14 → cellOf (lawA x v u h m) rg (ρC (100084 + t)) = (cellOf (cw hs0 x v u) (10, h) (100084 + t)).map (re ρC)
  | 0, _ => rfl
  | 1, _ => rfl
  | 2, _ => rfl
  | 3, _ => rfl
  | 4, _ => rfl
  | 5, _ => rfl
  | 6, _ => rfl
  | 7, _ => rfl
  | 8, _ => rfl
  | 9, _ => rfl
  | 10, _ => rfl
  | 11, _ => rfl
  | 12, _ => rfl
  | 13, _ => rfl
  | t + 14, h => absurd h (by omega)
set_option maxHeartbeats 4000000 in
set_option maxRecDepth 100000 in
theorem cC_h7 (x v u : pLV) (h : Nat → pLV) (m : pLV) (rg : pRg) : ∀ t, t < 14 → cellOf (lawA x v u h m) rg (ρC (100098 + t)) = (cellOf (cw hs0 x v u) (10, h) (100098 + t)).map (re ρC)
  | 0, _ => rfl
  | 1, _ => rfl
  | 2, _ => rfl
  | 3, _ => rfl
  | 4, _ => rfl
  | 5, _ => rfl
  | 6, _ => rfl
  | 7, _ => rfl
  | 8, _ => rfl
  | 9, _ => rfl
  | 10, _ => rfl
  | 11, _ => rfl
  | 12, _ => rfl
  | 13, _ => rfl
  | t + 14, h => absurd h (by omega)
set_option maxHeartbeats 4000000 in
set_option maxRecDepth 100000 in
theorem cC_h8 (x v u : pLV) (h : Nat → pLV) (m : pLV) (rg : pRg) : ∀ t, t < 14 → cellOf (lawA x v u h m) rg (ρC (100112 + t)) = (cellOf (cw hs0 x v u) (10, h) (100112 + t)).map (re ρC)
  | 0, _ => rfl
  | 1, _ => rfl
  | 2, _ => rfl
  | 3, _ => rfl
  | 4, _ => rfl
  | 5, _ => rfl
  | 6, _ => rfl
  | 7, _ => rfl
  | 8, _ => rfl
  | 9, _ => rfl
  | 10, _ => rfl
  | 11, _ => rfl
  | 12, _ => rfl
  | 13, _ => rfl
  | t + 14, h => absurd h (by omega)
set_option maxHeartbeats 4000000 in
set_option maxRecDepth 100000 in
theorem cC_h9 (x v u : pLV) (h : Nat → pLV) (m : pLV) (rg : pRg) : ∀ t, t < 14 → cellOf (lawA x v u h m) rg (ρC (100126 + t)) = (cellOf (cw hs0 x v u) (10, h) (100126 + t)).map (re ρC)
  | 0, _ => rfl
  | 1, _ => rfl
  | 2, _ => rfl
  | 3, _ => rfl
  | 4, _ => rfl
  | 5, _ => rfl
  | 6, _ => rfl
  | 7, _ => rfl
  | 8, _ => rfl
  | 9, _ => rfl
  | 10, _ => rfl
  | 11, _ => rfl
  | 12, _ => rfl
  | 13, _ => rfl
  | t + 14, h => absurd h (by omega)
theorem cC_all (x v u : pLV) (h : Nat → pLV) (m : pLV) (rg : pRg) (j : Nat) (hj : pDm 39 10 j) : cellOf (lawA x v u h m) rg (ρC j) = (cellOf (cw hs0 x v u) (10, h) j).map (re ρC) := by
  rcases hj with z | ⟨z1, z2⟩
  · exact cC_lo x v u h m rg j z
  · obtain ⟨i, hi⟩ : ∃ i, (j - 100000) / 14 = i := ⟨_, rfl⟩
    obtain ⟨t, ht⟩ : ∃ t, (j - 100000) % 14 = t := ⟨_, rfl⟩
    have e : j = 100000 + 14 * i + t := by omega
    have ht' : t < 14 := by omega
    have hi' : i < 10 := by omega
    rcases (show i = 0 ∨ i = 1 ∨ i = 2 ∨ i = 3 ∨ i = 4 ∨ i = 5 ∨ i = 6 ∨ i = 7 ∨ i = 8 ∨ i = 9 by omega) with rfl | rfl | rfl | rfl | rfl | rfl | rfl | rfl | rfl | rfl
    · rw [show j = 100000 + t by omega]
      exact cC_h0 x v u h m rg t ht'
    · rw [show j = 100014 + t by omega]
      exact cC_h1 x v u h m rg t ht'
    · rw [show j = 100028 + t by omega]
      exact cC_h2 x v u h m rg t ht'
    · rw [show j = 100042 + t by omega]
      exact cC_h3 x v u h m rg t ht'
    · rw [show j = 100056 + t by omega]
      exact cC_h4 x v u h m rg t ht'
    · rw [show j = 100070 + t by omega]
      exact cC_h5 x v u h m rg t ht'
    · rw [show j = 100084 + t by omega]
      exact cC_h6 x v u h m rg t ht'
    · rw [show j = 100098 + t by omega]
      exact cC_h7 x v u h m rg t ht'
    · rw [show j = 100112 + t by omega]
      exact cC_h8 x v u h m rg t ht'
    · rw [show j = 100126 + t by omega]
      exact cC_h9 x v u h m rg t ht'
theorem ρC_lt {j : Nat} (hj : pDm 39 10 j) : ρC j < 179 := by
  unfold pDm at hj
  unfold ρC
  repeat' split
  all_goals omega
theorem ρC_inj {j j' : Nat} (hj : pDm 39 10 j) (hj' : pDm 39 10 j') (e : ρC j = ρC j') : j = j' := by
  unfold pDm at hj hj'
  unfold ρC at e
  by_cases a1 : j < 31
  · rw [if_pos a1] at e
    repeat' split at e
    all_goals omega
  rw [if_neg a1] at e
  by_cases a2 : j = 31
  · rw [if_pos a2] at e
    repeat' split at e
    all_goals omega
  rw [if_neg a2] at e
  by_cases a3 : j = 32
  · rw [if_pos a3] at e
    repeat' split at e
    all_goals omega
  rw [if_neg a3] at e
  by_cases a4 : j < 39
  · rw [if_pos a4] at e
    repeat' split at e
    all_goals omega
  rw [if_neg a4] at e
  repeat' split at e
  all_goals omega
theorem ρC_sur {k : Nat} (hk : k < 179) : ∃ j, pDm 39 10 j ∧ ρC j = k := by
  by_cases h1 : k < 31
  · exact ⟨k, Or.inl (by omega), if_pos h1⟩
  by_cases h2 : k < 143
  · refine ⟨100000 + (k - 31), Or.inr (by omega), ?_⟩
    unfold ρC
    repeat' split
    all_goals omega
  by_cases h3 : k = 143
  · exact ⟨31, Or.inl (by omega), by rw [h3]; rfl⟩
  by_cases h4 : k < 158
  · refine ⟨100112 + (k - 144), Or.inr (by omega), ?_⟩
    unfold ρC
    repeat' split
    all_goals omega
  by_cases h5 : k = 158
  · exact ⟨32, Or.inl (by omega), by rw [h5]; rfl⟩
  by_cases h6 : k < 173
  · refine ⟨100126 + (k - 159), Or.inr (by omega), ?_⟩
    unfold ρC
    repeat' split
    all_goals omega
  · refine ⟨k - 140, Or.inl (by omega), ?_⟩
    unfold ρC
    repeat' split
    all_goals omega
theorem ρC_stat : ∀ q ∈ pStat, ρC q.2.1 = q.2.1 := by
  intro z hz
  simp only [pStat, List.mem_cons, List.not_mem_nil, or_false] at hz
  rcases hz with rfl | rfl | rfl <;> rfl
theorem pFr_C (x v u : pLV) (h : Nat → pLV) (x' v' u' : pLV) (h' : Nat → pLV) (m : pLV) (rg : pRg) : pFr ρC (lawA x v u h m) rg (cw hs0 x v u) (10, h) (cw hs0 x' v' u') (10, h') (lawA x' v' u' h' m) rg := by
  refine ⟨fun j e hj => ?_, fun j j' hj hj' e => ρC_inj hj hj' e, fun j hj => ?_, fun j h1 h2 => ?_, fun k e hk => ?_, ρC_stat, rfl, rfl⟩
  · rw [cC_all x v u h m rg j (cellOf_dom hj), hj]
    rfl
  · exact Or.inl (by have := ρC_lt hj; rw [lawA_len]; omega)
  · have h1 : 39 ≤ j := h1
    have h2 : j < 39 := h2
    omega
  · by_cases hk1 : k < 179
    · obtain ⟨j, hj, rfl⟩ := ρC_sur hk1
      rw [cC_all x' v' u' h' m rg j hj] at hk
      cases he : cellOf (cw hs0 x' v' u') (10, h') j with
      | none => rw [he] at hk; cases hk
      | some e0 =>
        rw [he] at hk
        exact Or.inl ⟨j, e0, hj, rfl, he, (Option.some.inj hk).symm⟩
    · refine Or.inr ⟨?_, fun j hj ej => ?_⟩
      · unfold cellOf at hk ⊢
        unfold lawA at hk ⊢
        rw [wget_cat, if_neg (by rw [lawP_len]; omega), lawP_len] at hk ⊢
        exact hk
      · have : ρC j < 179 := ρC_lt hj
        omega
/-- no reference -/
def nrO : Option Value → Bool
  | some (.ref _) => false
  | _ => true
theorem nrO_map (ρ : Nat → Nat) {v : Option Value} (h : nrO v = true) : v.map (cv ρ) = v := by
  cases v with
  | none => rfl
  | some x => cases x with
    | ref a => cases h
    | _ => rfl
/-- a call of the class in the law -/
def FC (F : pF) : pF := fun args w rg => match args with
  | .ref 0 :: as => match intsB as with
    | true => unA w (fun x v u h m => match F (.ref 0 :: as) (cw hs0 x v u) (10, h) with
      | some (val, w1, rg1) => match nrO val with
        | true => unB w1 (fun f' x' v' u' => pif (f' = hs0 ∧ rg1.1 = 10) (some (val, lawA x' v' u' rg1.2 m, rg)) none)
        | false => none
      | none => none)
    | false => none
  | _ => none
theorem FC_some {F : pF} {args : List Value} {w : pWd} {rg : pRg} {val : Option Value} {w' : pWd} {rg' : pRg} (hf : FC F args w rg = some (val, w', rg')) : ∃ as x v u h m x' v' u' h', args = .ref 0 :: as ∧ intsB as = true ∧ w = lawA x v u h m ∧ F (.ref 0 :: as) (cw hs0 x v u) (10, h) = some (val, cw hs0 x' v' u', (10, h')) ∧ nrO val = true ∧ w' = lawA x' v' u' h' m ∧ rg' = rg := by
  unfold FC at hf
  split at hf
  next as =>
    split at hf
    next hi =>
      obtain ⟨x, v, u, h, m, hw, h2⟩ := unA_some hf
      clear hf
      split at h2
      next val0 w1 rg1 hF =>
        split at h2
        next hn =>
          obtain ⟨f', x', v', u', hw1, h3⟩ := unB_some h2
          clear h2
          by_cases hc : f' = hs0 ∧ rg1.1 = 10
          · have h3 := (pif_t hc).symm.trans h3
            cases h3
            obtain ⟨rfl, hr⟩ := hc
            refine ⟨as, x, v, u, h, m, x', v', u', rg1.2, rfl, hi, hw, ?_, hn, rfl, rfl⟩
            rw [hF, hw1]
            obtain ⟨r1, r2⟩ := rg1
            cases hr
            rfl
          · have h3 := (pif_f hc).symm.trans h3
            cases h3
        next => cases h2
      next => cases h2
    next => cases hf
  next => cases hf
theorem pFOK_FC {l : Launch} {y : MethodName} {ws : List Cond} {rm : Room} {F : pF} (hF : pFOK l y ws rm F) : pFOK l y ws rm (FC F) := by
  refine pFOK_comp hF fun args w rg val w' rg' hf => ?_
  obtain ⟨as, x, v, u, h, m, x', v', u', h', rfl, hi, rfl, h2, hn, rfl, rfl⟩ := FC_some hf
  refine ⟨ρC, .ref 0 :: as, cw hs0 x v u, (10, h), val, cw hs0 x' v' u', (10, h'), h2, pFr_C x v u h x' v' u' h' m rg', ?_, (nrO_map ρC hn).symm⟩
  show Value.ref (ρC 0) :: as.map (cv ρC) = _
  rw [intsB_map _ hi]
  rfl
theorem rc_FC (F : pF) : pRcv 8 (FC F) := by
  intro args w rg o hf
  obtain ⟨val, w', rg'⟩ := o
  obtain ⟨as, x, v, u, h, m, x', v', u', h', rfl, hi, rfl, -⟩ := FC_some hf
  exact ⟨_, _, _, rfl, cellOf_get rfl⟩
theorem unB_eq {X : Type} (f : Nat → Option Nat) (x v u : pLV) (c : (Nat → Option Nat) → pLV → pLV → pLV → Option X) : unB (cw f x v u) c = c f (NX x) (NL v) (NL u) := rfl
def NHm (h : Nat → pLV) : Nat → pLV := mkH (NL (h 0)) (NL (h 1)) (NL (h 2)) (NL (h 3)) (NL (h 4)) (NL (h 5)) (NL (h 6)) (NL (h 7)) (NL (h 8)) (NL (h 9))
theorem FC_eq {F : pF} {as : List Value} {x v u : pLV} {h : Nat → pLV} {m : pLV} {rg : pRg} {val : Option Value} {x' v' u' : pLV} {h' : Nat → pLV} (hF : F (.ref 0 :: as) (cw hs0 (NX x) (NL v) (NL u)) (10, NHm h) = some (val, cw hs0 x' v' u', (10, h'))) (hi : intsB as = true) (hn : nrO val = true) : FC F (.ref 0 :: as) (lawA x v u h m) rg = some (val, lawA x' v' u' h' m, rg) := by
  unfold FC
  simp only [hi]
  rw [unA_eq]
  show (match F (.ref 0 :: as) (cw hs0 (NX x) (NL v) (NL u)) (10, NHm h) with
      | some (val, w1, rg1) => match nrO val with
        | true => unB w1 (fun f' x' v' u' => pif (f' = hs0 ∧ rg1.1 = 10) (some (val, lawA x' v' u' rg1.2 (NM m), rg)) none)
        | false => none
      | none => none) = _
  rw [hF]
  simp only [hn]
  rw [unB_eq]
  exact pif_t (by simp)
def ρM (j : Nat) : Nat := if j < 7 then 179 + j else j
set_option maxRecDepth 100000 in
theorem cM_all (x v u : pLV) (h : Nat → pLV) (m : pLV) (rg : pRg) : ∀ j, j < 7 → cellOf (lawA x v u h m) rg (ρM j) = (wget (mdl m) j).map (re ρM)
  | 0, _ => rfl
  | 1, _ => rfl
  | 2, _ => rfl
  | 3, _ => rfl
  | 4, _ => rfl
  | 5, _ => rfl
  | 6, _ => rfl
  | j + 7, h => absurd h (by omega)
theorem pFr_M (x v u : pLV) (h : Nat → pLV) (m m' : pLV) (rg : pRg) (rg1 : pRg) : pFr ρM (lawA x v u h m) rg (mdl m) rg00 (mdl m') rg1 (lawA x v u h m') rg := by
  refine ⟨fun j e hj => ?_, fun j j' hj hj' e => ?_, fun j hj => ?_, fun j h1 h2 => ?_, fun k e hk => ?_, fun q hq => ?_, rfl, rfl⟩
  · have hj0 := cellOf_00 hj
    rw [cM_all x v u h m rg j (wget_lt hj0), hj0]
    rfl
  · have h1 : j < 7 := dm00 hj
    have h2 : j' < 7 := dm00 hj'
    unfold ρM at e
    rw [if_pos h1, if_pos h2] at e
    omega
  · have h1 : j < 7 := dm00 hj
    refine Or.inl ?_
    unfold ρM
    rw [if_pos h1, lawA_len]
    omega
  · have h1 : 7 ≤ j := h1
    have h2 : j < 7 := h2
    omega
  · by_cases hk1 : 179 ≤ k ∧ k < 186
    · obtain ⟨j, rfl⟩ : ∃ j, k = 179 + j := ⟨k - 179, by omega⟩
      have hj : j < 7 := by omega
      have e1 : ρM j = 179 + j := by unfold ρM; rw [if_pos hj]
      rw [← e1, cM_all x v u h m' rg j hj] at hk
      cases he : wget (mdl m') j with
      | none => rw [he] at hk; cases hk
      | some e0 =>
        rw [he] at hk
        exact Or.inl ⟨j, e0, Or.inl hj, e1.symm, cellOf_get he, (Option.some.inj hk).symm⟩
    · refine Or.inr ⟨?_, fun j hj ej => ?_⟩
      · unfold cellOf at hk ⊢
        by_cases hlo : k < 179
        · unfold lawA at hk ⊢
          rw [wget_cat, if_pos (by rw [lawP_len]; omega)] at hk ⊢
          exact hk
        · rw [wget_none (by rw [lawA_len]; omega)] at hk ⊢
          exact hk
      · have h1 : j < 7 := dm00 hj
        unfold ρM at ej
        rw [if_pos h1] at ej
        omega
  · simp only [pStat, List.mem_cons, List.not_mem_nil, or_false] at hq
    rcases hq with rfl | rfl | rfl <;> rfl
/-- a call of the reference in the law -/
def FM (F : pF) : pF := fun args w rg => match args with
  | .ref 179 :: as => match intsB as with
    | true => unA w (fun x v u h m => match F (.ref 0 :: as) (mdl m) rg00 with
      | some (val, w1, _) => match nrO val with
        | true => unM w1 (fun m' => some (val, lawA x v u h m', rg))
        | false => none
      | none => none)
    | false => none
  | _ => none
theorem FM_some {F : pF} {args : List Value} {w : pWd} {rg : pRg} {val : Option Value} {w' : pWd} {rg' : pRg} (hf : FM F args w rg = some (val, w', rg')) : ∃ as x v u h m m' rg1, args = .ref 179 :: as ∧ intsB as = true ∧ w = lawA x v u h m ∧ F (.ref 0 :: as) (mdl m) rg00 = some (val, mdl m', rg1) ∧ nrO val = true ∧ w' = lawA x v u h m' ∧ rg' = rg := by
  unfold FM at hf
  split at hf
  next as =>
    split at hf
    next hi =>
      obtain ⟨x, v, u, h, m, hw, h2⟩ := unA_some hf
      clear hf
      split at h2
      next val0 w1 rg1 hF =>
        split at h2
        next hn =>
          obtain ⟨m', hw1, h3⟩ := unM_some h2
          clear h2
          cases h3
          exact ⟨as, x, v, u, h, m, m', rg1, rfl, hi, hw, by rw [hF, hw1], hn, rfl, rfl⟩
        next => cases h2
      next => cases h2
    next => cases hf
  next => cases hf
theorem pFOK_FM {l : Launch} {y : MethodName} {ws : List Cond} {rm : Room} {F : pF} (hF : pFOK l y ws rm F) : pFOK l y ws rm (FM F) := by
  refine pFOK_comp hF fun args w rg val w' rg' hf => ?_
  obtain ⟨as, x, v, u, h, m, m', rg1, rfl, hi, rfl, h2, hn, rfl, rfl⟩ := FM_some hf
  refine ⟨ρM, .ref 0 :: as, mdl m, rg00, val, mdl m', rg1, h2, pFr_M x v u h m m' rg' rg1, ?_, (nrO_map ρM hn).symm⟩
  show Value.ref (ρM 0) :: as.map (cv ρM) = _
  rw [intsB_map _ hi]
  rfl
set_option maxRecDepth 100000 in
theorem rc_FM (F : pF) : pRcv 9 (FM F) := by
  intro args w rg o hf
  obtain ⟨val, w', rg'⟩ := o
  obtain ⟨as, x, v, u, h, m, m', rg1, rfl, hi, rfl, -⟩ := FM_some hf
  exact ⟨_, _, _, rfl, cellOf_get rfl⟩
theorem unM_eq {X : Type} (m : pLV) (c : pLV → Option X) : unM (mdl m) c = c (NM m) := rfl
theorem FM_eq {F : pF} {as : List Value} {x v u : pLV} {h : Nat → pLV} {m : pLV} {rg : pRg} {val : Option Value} {m' : pLV} {rg1 : pRg} (hF : F (.ref 0 :: as) (mdl (NM m)) rg00 = some (val, mdl m', rg1)) (hi : intsB as = true) (hn : nrO val = true) : FM F (.ref 179 :: as) (lawA x v u h m) rg = some (val, lawA x v u h m', rg) := by
  unfold FM
  simp only [hi]
  rw [unA_eq, hF]
  simp only [hn]
  rw [unM_eq]
  rfl
end
