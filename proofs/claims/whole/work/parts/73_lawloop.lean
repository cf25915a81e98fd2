noncomputable section
/-! THE LAW'S LOOP -/
def lsH (i : Int32) : pLs := [(3, .int i), (2, .ref 179), (1, .ref 0), (0, .ref 2000000)]
/-- from here the law comes to its end with true -/
def GOOD (L : Nat) (xs : Nat → Int32) (rg : pRg) (i : Nat) (ls : pLs) (w : pWd) : Prop := ∃ fu : Nat, ∃ x v u : pLV, ∃ h : Nat → pLV, ∃ m : pLV, ex (k_L_law L xs) fu i ls [] w rg = some (some (.int 1), lawA x v u h m, rg)
theorem lawbeq (x v u : pLV) (h : Nat → pLV) (m : pLV) (x' v' u' : pLV) (h' : Nat → pLV) (m' : pLV) : Nat.beq (lawA x v u h m).length (lawA x' v' u' h' m').length = true := by
  rw [lawA_len, lawA_len]
  rfl
set_option maxHeartbeats 400000 in
theorem law_c_0 {L : Nat} {xs : Nat → Int32} {rg : pRg} {c : Nat} {C : Int} {x v u : pLV} {h : Nat → pLV} {m : pLV} (T : BOTH C F_X8_begin F_X9_begin [] x v u h m) (hH : ∀ x' v' u' h' m', RS C x' v' u' h' m' → GOOD L xs rg 456 (lsH (nI (4 * c))) (lawA x' v' u' h' m')) : GOOD L xs rg 22 (lsH (nI (4 * c))) (lawA x v u h m) := by
  obtain ⟨a, x', v', u', h', m', t1, t2, t3⟩ := T
  obtain ⟨fu, x2, v2, u2, h2, m2, e⟩ := hH _ _ _ _ _ t3
  refine ⟨fu + 1, x2, v2, u2, h2, m2, ?_⟩
  conv => lhs; whnf
  refine (callK_r (t1 rg) (lawbeq _ _ _ _ _ _ _ _ _ _)).trans ?_
  conv => lhs; whnf
  refine (callK_r (t2 rg) (lawbeq _ _ _ _ _ _ _ _ _ _)).trans ?_
  conv => lhs; whnf
  refine (pif_t rfl).trans ?_
  exact e
set_option maxHeartbeats 400000 in
theorem law_c_1 {L : Nat} {xs : Nat → Int32} {rg : pRg} {c : Nat} {C : Int} {x v u : pLV} {h : Nat → pLV} {m : pLV} (hv1 : vp_in (nI (4 * c) + 1) L) (hv2 : vp_in (nI (4 * c) + 2) L) (T : BOTH C F_X8_set F_X9_set [.int (xs (nI (4 * c) + 1).toNatClampNeg), .int (xs (nI (4 * c) + 2).toNatClampNeg)] x v u h m) (hH : ∀ x' v' u' h' m', RS C x' v' u' h' m' → GOOD L xs rg 456 (lsH (nI (4 * c))) (lawA x' v' u' h' m')) : GOOD L xs rg 29 (lsH (nI (4 * c))) (lawA x v u h m) := by
  obtain ⟨a, x', v', u', h', m', t1, t2, t3⟩ := T
  obtain ⟨fu, x2, v2, u2, h2, m2, e⟩ := hH _ _ _ _ _ t3
  refine ⟨fu + 1, x2, v2, u2, h2, m2, ?_⟩
  conv => lhs; whnf
  refine (pif_t hv1).trans ?_
  conv => lhs; whnf
  refine (pif_t hv2).trans ?_
  conv => lhs; whnf
  refine (callK_r (t1 rg) (lawbeq _ _ _ _ _ _ _ _ _ _)).trans ?_
  conv => lhs; whnf
  refine (pif_t hv1).trans ?_
  conv => lhs; whnf
  refine (pif_t hv2).trans ?_
  conv => lhs; whnf
  refine (callK_r (t2 rg) (lawbeq _ _ _ _ _ _ _ _ _ _)).trans ?_
  conv => lhs; whnf
  refine (pif_t rfl).trans ?_
  exact e
set_option maxHeartbeats 400000 in
theorem law_c_2 {L : Nat} {xs : Nat → Int32} {rg : pRg} {c : Nat} {C : Int} {x v u : pLV} {h : Nat → pLV} {m : pLV} (hv1 : vp_in (nI (4 * c) + 1) L) (T : BOTH C F_X8_tear F_X9_tear [.int (xs (nI (4 * c) + 1).toNatClampNeg)] x v u h m) (hH : ∀ x' v' u' h' m', RS C x' v' u' h' m' → GOOD L xs rg 456 (lsH (nI (4 * c))) (lawA x' v' u' h' m')) : GOOD L xs rg 56 (lsH (nI (4 * c))) (lawA x v u h m) := by
  obtain ⟨a, x', v', u', h', m', t1, t2, t3⟩ := T
  obtain ⟨fu, x2, v2, u2, h2, m2, e⟩ := hH _ _ _ _ _ t3
  refine ⟨fu + 1, x2, v2, u2, h2, m2, ?_⟩
  conv => lhs; whnf
  refine (pif_t hv1).trans ?_
  conv => lhs; whnf
  refine (callK_r (t1 rg) (lawbeq _ _ _ _ _ _ _ _ _ _)).trans ?_
  conv => lhs; whnf
  refine (pif_t hv1).trans ?_
  conv => lhs; whnf
  refine (callK_r (t2 rg) (lawbeq _ _ _ _ _ _ _ _ _ _)).trans ?_
  conv => lhs; whnf
  refine (pif_t rfl).trans ?_
  exact e
set_option maxHeartbeats 400000 in
theorem law_c_3 {L : Nat} {xs : Nat → Int32} {rg : pRg} {c : Nat} {C : Int} {x v u : pLV} {h : Nat → pLV} {m : pLV} (hv1 : vp_in (nI (4 * c) + 1) L) (T : BOTH C F_X8_change F_X9_change [.int (xs (nI (4 * c) + 1).toNatClampNeg)] x v u h m) (hH : ∀ x' v' u' h' m', RS C x' v' u' h' m' → GOOD L xs rg 456 (lsH (nI (4 * c))) (lawA x' v' u' h' m')) : GOOD L xs rg 73 (lsH (nI (4 * c))) (lawA x v u h m) := by
  obtain ⟨a, x', v', u', h', m', t1, t2, t3⟩ := T
  obtain ⟨fu, x2, v2, u2, h2, m2, e⟩ := hH _ _ _ _ _ t3
  refine ⟨fu + 1, x2, v2, u2, h2, m2, ?_⟩
  conv => lhs; whnf
  refine (pif_t hv1).trans ?_
  conv => lhs; whnf
  refine (callK_r (t1 rg) (lawbeq _ _ _ _ _ _ _ _ _ _)).trans ?_
  conv => lhs; whnf
  refine (pif_t hv1).trans ?_
  conv => lhs; whnf
  refine (callK_r (t2 rg) (lawbeq _ _ _ _ _ _ _ _ _ _)).trans ?_
  conv => lhs; whnf
  refine (pif_t rfl).trans ?_
  exact e
set_option maxHeartbeats 400000 in
theorem law_c_4 {L : Nat} {xs : Nat → Int32} {rg : pRg} {c : Nat} {C : Int} {x v u : pLV} {h : Nat → pLV} {m : pLV} (hv1 : vp_in (nI (4 * c) + 1) L) (hv2 : vp_in (nI (4 * c) + 2) L) (hv3 : vp_in (nI (4 * c) + 3) L) (T : BOTH C F_X8_fill F_X9_fill [.int (xs (nI (4 * c) + 1).toNatClampNeg), .int (xs (nI (4 * c) + 2).toNatClampNeg), .int (xs (nI (4 * c) + 3).toNatClampNeg)] x v u h m) (hH : ∀ x' v' u' h' m', RS C x' v' u' h' m' → GOOD L xs rg 456 (lsH (nI (4 * c))) (lawA x' v' u' h' m')) : GOOD L xs rg 90 (lsH (nI (4 * c))) (lawA x v u h m) := by
  obtain ⟨a, x', v', u', h', m', t1, t2, t3⟩ := T
  obtain ⟨fu, x2, v2, u2, h2, m2, e⟩ := hH _ _ _ _ _ t3
  refine ⟨fu + 1, x2, v2, u2, h2, m2, ?_⟩
  conv => lhs; whnf
  refine (pif_t hv1).trans ?_
  conv => lhs; whnf
  refine (pif_t hv2).trans ?_
  conv => lhs; whnf
  refine (pif_t hv3).trans ?_
  conv => lhs; whnf
  refine (callK_r (t1 rg) (lawbeq _ _ _ _ _ _ _ _ _ _)).trans ?_
  conv => lhs; whnf
  refine (pif_t hv1).trans ?_
  conv => lhs; whnf
  refine (pif_t hv2).trans ?_
  conv => lhs; whnf
  refine (pif_t hv3).trans ?_
  conv => lhs; whnf
  refine (callK_r (t2 rg) (lawbeq _ _ _ _ _ _ _ _ _ _)).trans ?_
  conv => lhs; whnf
  refine (pif_t rfl).trans ?_
  exact e
set_option maxHeartbeats 400000 in
theorem law_c_5 {L : Nat} {xs : Nat → Int32} {rg : pRg} {c : Nat} {C : Int} {x v u : pLV} {h : Nat → pLV} {m : pLV} (hv1 : vp_in (nI (4 * c) + 1) L) (hv2 : vp_in (nI (4 * c) + 2) L) (T : BOTH C F_X8_drain F_X9_drain [.int (xs (nI (4 * c) + 1).toNatClampNeg), .int (xs (nI (4 * c) + 2).toNatClampNeg)] x v u h m) (hH : ∀ x' v' u' h' m', RS C x' v' u' h' m' → GOOD L xs rg 456 (lsH (nI (4 * c))) (lawA x' v' u' h' m')) : GOOD L xs rg 127 (lsH (nI (4 * c))) (lawA x v u h m) := by
  obtain ⟨a, x', v', u', h', m', t1, t2, t3⟩ := T
  obtain ⟨fu, x2, v2, u2, h2, m2, e⟩ := hH _ _ _ _ _ t3
  refine ⟨fu + 1, x2, v2, u2, h2, m2, ?_⟩
  conv => lhs; whnf
  refine (pif_t hv1).trans ?_
  conv => lhs; whnf
  refine (pif_t hv2).trans ?_
  conv => lhs; whnf
  refine (callK_r (t1 rg) (lawbeq _ _ _ _ _ _ _ _ _ _)).trans ?_
  conv => lhs; whnf
  refine (pif_t hv1).trans ?_
  conv => lhs; whnf
  refine (pif_t hv2).trans ?_
  conv => lhs; whnf
  refine (callK_r (t2 rg) (lawbeq _ _ _ _ _ _ _ _ _ _)).trans ?_
  conv => lhs; whnf
  refine (pif_t rfl).trans ?_
  exact e
set_option maxHeartbeats 400000 in
theorem law_c_6 {L : Nat} {xs : Nat → Int32} {rg : pRg} {c : Nat} {C : Int} {x v u : pLV} {h : Nat → pLV} {m : pLV} (T : BOTH C F_X8_plan F_X9_plan [] x v u h m) (hH : ∀ x' v' u' h' m', RS C x' v' u' h' m' → GOOD L xs rg 456 (lsH (nI (4 * c))) (lawA x' v' u' h' m')) : GOOD L xs rg 154 (lsH (nI (4 * c))) (lawA x v u h m) := by
  obtain ⟨a, x', v', u', h', m', t1, t2, t3⟩ := T
  obtain ⟨fu, x2, v2, u2, h2, m2, e⟩ := hH _ _ _ _ _ t3
  refine ⟨fu + 1, x2, v2, u2, h2, m2, ?_⟩
  conv => lhs; whnf
  refine (callK_r (t1 rg) (lawbeq _ _ _ _ _ _ _ _ _ _)).trans ?_
  conv => lhs; whnf
  refine (callK_r (t2 rg) (lawbeq _ _ _ _ _ _ _ _ _ _)).trans ?_
  conv => lhs; whnf
  refine (pif_t rfl).trans ?_
  exact e
set_option maxHeartbeats 400000 in
theorem law_c_7 {L : Nat} {xs : Nat → Int32} {rg : pRg} {c : Nat} {C : Int} {x v u : pLV} {h : Nat → pLV} {m : pLV} (hv1 : vp_in (nI (4 * c) + 1) L) (T : BOTH C F_X8_run F_X9_run [.int (xs (nI (4 * c) + 1).toNatClampNeg)] x v u h m) (hH : ∀ x' v' u' h' m', RS C x' v' u' h' m' → GOOD L xs rg 456 (lsH (nI (4 * c))) (lawA x' v' u' h' m')) : GOOD L xs rg 161 (lsH (nI (4 * c))) (lawA x v u h m) := by
  obtain ⟨a, x', v', u', h', m', t1, t2, t3⟩ := T
  obtain ⟨fu, x2, v2, u2, h2, m2, e⟩ := hH _ _ _ _ _ t3
  refine ⟨fu + 1, x2, v2, u2, h2, m2, ?_⟩
  conv => lhs; whnf
  refine (pif_t hv1).trans ?_
  conv => lhs; whnf
  refine (callK_r (t1 rg) (lawbeq _ _ _ _ _ _ _ _ _ _)).trans ?_
  conv => lhs; whnf
  refine (pif_t hv1).trans ?_
  conv => lhs; whnf
  refine (callK_r (t2 rg) (lawbeq _ _ _ _ _ _ _ _ _ _)).trans ?_
  conv => lhs; whnf
  refine (pif_t rfl).trans ?_
  exact e
set_option maxHeartbeats 400000 in
theorem law_c_8 {L : Nat} {xs : Nat → Int32} {rg : pRg} {c : Nat} {C : Int} {x v u : pLV} {h : Nat → pLV} {m : pLV} (T : BOTH C F_X8_undo F_X9_undo [] x v u h m) (hH : ∀ x' v' u' h' m', RS C x' v' u' h' m' → GOOD L xs rg 456 (lsH (nI (4 * c))) (lawA x' v' u' h' m')) : GOOD L xs rg 178 (lsH (nI (4 * c))) (lawA x v u h m) := by
  obtain ⟨a, x', v', u', h', m', t1, t2, t3⟩ := T
  obtain ⟨fu, x2, v2, u2, h2, m2, e⟩ := hH _ _ _ _ _ t3
  refine ⟨fu + 1, x2, v2, u2, h2, m2, ?_⟩
  conv => lhs; whnf
  refine (callK_r (t1 rg) (lawbeq _ _ _ _ _ _ _ _ _ _)).trans ?_
  conv => lhs; whnf
  refine (callK_r (t2 rg) (lawbeq _ _ _ _ _ _ _ _ _ _)).trans ?_
  conv => lhs; whnf
  refine (pif_t rfl).trans ?_
  exact e
set_option maxHeartbeats 400000 in
theorem law_c_9 {L : Nat} {xs : Nat → Int32} {rg : pRg} {c : Nat} {C : Int} {x v u : pLV} {h : Nat → pLV} {m : pLV} (hv1 : vp_in (nI (4 * c) + 1) L) (T : BOTH C F_X8_write F_X9_write [.int (xs (nI (4 * c) + 1).toNatClampNeg)] x v u h m) (hH : ∀ x' v' u' h' m', RS C x' v' u' h' m' → GOOD L xs rg 456 (lsH (nI (4 * c))) (lawA x' v' u' h' m')) : GOOD L xs rg 185 (lsH (nI (4 * c))) (lawA x v u h m) := by
  obtain ⟨a, x', v', u', h', m', t1, t2, t3⟩ := T
  obtain ⟨fu, x2, v2, u2, h2, m2, e⟩ := hH _ _ _ _ _ t3
  refine ⟨fu + 1, x2, v2, u2, h2, m2, ?_⟩
  conv => lhs; whnf
  refine (pif_t hv1).trans ?_
  conv => lhs; whnf
  refine (callK_r (t1 rg) (lawbeq _ _ _ _ _ _ _ _ _ _)).trans ?_
  conv => lhs; whnf
  refine (pif_t hv1).trans ?_
  conv => lhs; whnf
  refine (callK_r (t2 rg) (lawbeq _ _ _ _ _ _ _ _ _ _)).trans ?_
  conv => lhs; whnf
  refine (pif_t rfl).trans ?_
  exact e
set_option maxHeartbeats 400000 in
theorem law_c_10 {L : Nat} {xs : Nat → Int32} {rg : pRg} {c : Nat} {C : Int} {x v u : pLV} {h : Nat → pLV} {m : pLV} (T : BOTH C F_X8_wipe F_X9_wipe [] x v u h m) (hH : ∀ x' v' u' h' m', RS C x' v' u' h' m' → GOOD L xs rg 456 (lsH (nI (4 * c))) (lawA x' v' u' h' m')) : GOOD L xs rg 202 (lsH (nI (4 * c))) (lawA x v u h m) := by
  obtain ⟨a, x', v', u', h', m', t1, t2, t3⟩ := T
  obtain ⟨fu, x2, v2, u2, h2, m2, e⟩ := hH _ _ _ _ _ t3
  refine ⟨fu + 1, x2, v2, u2, h2, m2, ?_⟩
  conv => lhs; whnf
  refine (callK_r (t1 rg) (lawbeq _ _ _ _ _ _ _ _ _ _)).trans ?_
  conv => lhs; whnf
  refine (callK_r (t2 rg) (lawbeq _ _ _ _ _ _ _ _ _ _)).trans ?_
  conv => lhs; whnf
  refine (pif_t rfl).trans ?_
  exact e
set_option maxHeartbeats 400000 in
theorem law_c_11 {L : Nat} {xs : Nat → Int32} {rg : pRg} {c : Nat} {C : Int} {x v u : pLV} {h : Nat → pLV} {m : pLV} (hv1 : vp_in (nI (4 * c) + 1) L) (T : BOTH C F_X8_fault F_X9_fault [.int (xs (nI (4 * c) + 1).toNatClampNeg)] x v u h m) (hH : ∀ x' v' u' h' m', RS C x' v' u' h' m' → GOOD L xs rg 456 (lsH (nI (4 * c))) (lawA x' v' u' h' m')) : GOOD L xs rg 209 (lsH (nI (4 * c))) (lawA x v u h m) := by
  obtain ⟨a, x', v', u', h', m', t1, t2, t3⟩ := T
  obtain ⟨fu, x2, v2, u2, h2, m2, e⟩ := hH _ _ _ _ _ t3
  refine ⟨fu + 1, x2, v2, u2, h2, m2, ?_⟩
  conv => lhs; whnf
  refine (pif_t hv1).trans ?_
  conv => lhs; whnf
  refine (callK_r (t1 rg) (lawbeq _ _ _ _ _ _ _ _ _ _)).trans ?_
  conv => lhs; whnf
  refine (pif_t hv1).trans ?_
  conv => lhs; whnf
  refine (callK_r (t2 rg) (lawbeq _ _ _ _ _ _ _ _ _ _)).trans ?_
  conv => lhs; whnf
  refine (pif_t rfl).trans ?_
  exact e
set_option maxHeartbeats 400000 in
theorem law_c_12 {L : Nat} {xs : Nat → Int32} {rg : pRg} {c : Nat} {C : Int} {x v u : pLV} {h : Nat → pLV} {m : pLV} (hv1 : vp_in (nI (4 * c) + 1) L) (T : BOTH C F_X8_told F_X9_told [.int (xs (nI (4 * c) + 1).toNatClampNeg)] x v u h m) (hH : ∀ x' v' u' h' m', RS C x' v' u' h' m' → GOOD L xs rg 456 (lsH (nI (4 * c))) (lawA x' v' u' h' m')) : GOOD L xs rg 226 (lsH (nI (4 * c))) (lawA x v u h m) := by
  obtain ⟨a, x', v', u', h', m', t1, t2, t3⟩ := T
  obtain ⟨fu, x2, v2, u2, h2, m2, e⟩ := hH _ _ _ _ _ t3
  refine ⟨fu + 1, x2, v2, u2, h2, m2, ?_⟩
  conv => lhs; whnf
  refine (pif_t hv1).trans ?_
  conv => lhs; whnf
  refine (callK_r (t1 rg) (lawbeq _ _ _ _ _ _ _ _ _ _)).trans ?_
  conv => lhs; whnf
  refine (pif_t hv1).trans ?_
  conv => lhs; whnf
  refine (callK_r (t2 rg) (lawbeq _ _ _ _ _ _ _ _ _ _)).trans ?_
  conv => lhs; whnf
  refine (pif_t rfl).trans ?_
  exact e
set_option maxHeartbeats 400000 in
theorem law_c_13 {L : Nat} {xs : Nat → Int32} {rg : pRg} {c : Nat} {C : Int} {x v u : pLV} {h : Nat → pLV} {m : pLV} (hv1 : vp_in (nI (4 * c) + 1) L) (T : BOTH C F_X8_setting F_X9_setting [.int (xs (nI (4 * c) + 1).toNatClampNeg)] x v u h m) (hH : ∀ x' v' u' h' m', RS C x' v' u' h' m' → GOOD L xs rg 456 (lsH (nI (4 * c))) (lawA x' v' u' h' m')) : GOOD L xs rg 243 (lsH (nI (4 * c))) (lawA x v u h m) := by
  obtain ⟨a, x', v', u', h', m', t1, t2, t3⟩ := T
  obtain ⟨fu, x2, v2, u2, h2, m2, e⟩ := hH _ _ _ _ _ t3
  refine ⟨fu + 1, x2, v2, u2, h2, m2, ?_⟩
  conv => lhs; whnf
  refine (pif_t hv1).trans ?_
  conv => lhs; whnf
  refine (callK_r (t1 rg) (lawbeq _ _ _ _ _ _ _ _ _ _)).trans ?_
  conv => lhs; whnf
  refine (pif_t hv1).trans ?_
  conv => lhs; whnf
  refine (callK_r (t2 rg) (lawbeq _ _ _ _ _ _ _ _ _ _)).trans ?_
  conv => lhs; whnf
  refine (pif_t rfl).trans ?_
  exact e
set_option maxHeartbeats 400000 in
theorem law_c_14 {L : Nat} {xs : Nat → Int32} {rg : pRg} {c : Nat} {C : Int} {x v u : pLV} {h : Nat → pLV} {m : pLV} (hv1 : vp_in (nI (4 * c) + 1) L) (hv2 : vp_in (nI (4 * c) + 2) L) (T : BOTH C F_X8_chest F_X9_chest [.int (xs (nI (4 * c) + 1).toNatClampNeg), .int (xs (nI (4 * c) + 2).toNatClampNeg)] x v u h m) (hH : ∀ x' v' u' h' m', RS C x' v' u' h' m' → GOOD L xs rg 456 (lsH (nI (4 * c))) (lawA x' v' u' h' m')) : GOOD L xs rg 260 (lsH (nI (4 * c))) (lawA x v u h m) := by
  obtain ⟨a, x', v', u', h', m', t1, t2, t3⟩ := T
  obtain ⟨fu, x2, v2, u2, h2, m2, e⟩ := hH _ _ _ _ _ t3
  refine ⟨fu + 1, x2, v2, u2, h2, m2, ?_⟩
  conv => lhs; whnf
  refine (pif_t hv1).trans ?_
  conv => lhs; whnf
  refine (pif_t hv2).trans ?_
  conv => lhs; whnf
  refine (callK_r (t1 rg) (lawbeq _ _ _ _ _ _ _ _ _ _)).trans ?_
  conv => lhs; whnf
  refine (pif_t hv1).trans ?_
  conv => lhs; whnf
  refine (pif_t hv2).trans ?_
  conv => lhs; whnf
  refine (callK_r (t2 rg) (lawbeq _ _ _ _ _ _ _ _ _ _)).trans ?_
  conv => lhs; whnf
  refine (pif_t rfl).trans ?_
  exact e
set_option maxHeartbeats 400000 in
theorem law_c_15 {L : Nat} {xs : Nat → Int32} {rg : pRg} {c : Nat} {C : Int} {x v u : pLV} {h : Nat → pLV} {m : pLV} (hv1 : vp_in (nI (4 * c) + 1) L) (T : BOTH C F_X8_account F_X9_account [.int (xs (nI (4 * c) + 1).toNatClampNeg)] x v u h m) (hH : ∀ x' v' u' h' m', RS C x' v' u' h' m' → GOOD L xs rg 456 (lsH (nI (4 * c))) (lawA x' v' u' h' m')) : GOOD L xs rg 287 (lsH (nI (4 * c))) (lawA x v u h m) := by
  obtain ⟨a, x', v', u', h', m', t1, t2, t3⟩ := T
  obtain ⟨fu, x2, v2, u2, h2, m2, e⟩ := hH _ _ _ _ _ t3
  refine ⟨fu + 1, x2, v2, u2, h2, m2, ?_⟩
  conv => lhs; whnf
  refine (pif_t hv1).trans ?_
  conv => lhs; whnf
  refine (callK_r (t1 rg) (lawbeq _ _ _ _ _ _ _ _ _ _)).trans ?_
  conv => lhs; whnf
  refine (pif_t hv1).trans ?_
  conv => lhs; whnf
  refine (callK_r (t2 rg) (lawbeq _ _ _ _ _ _ _ _ _ _)).trans ?_
  conv => lhs; whnf
  refine (pif_t rfl).trans ?_
  exact e
set_option maxHeartbeats 400000 in
theorem law_c_16 {L : Nat} {xs : Nat → Int32} {rg : pRg} {c : Nat} {C : Int} {x v u : pLV} {h : Nat → pLV} {m : pLV} (hv1 : vp_in (nI (4 * c) + 1) L) (T : BOTH C F_X8_paper F_X9_paper [.int (xs (nI (4 * c) + 1).toNatClampNeg)] x v u h m) (hH : ∀ x' v' u' h' m', RS C x' v' u' h' m' → GOOD L xs rg 456 (lsH (nI (4 * c))) (lawA x' v' u' h' m')) : GOOD L xs rg 304 (lsH (nI (4 * c))) (lawA x v u h m) := by
  obtain ⟨a, x', v', u', h', m', t1, t2, t3⟩ := T
  obtain ⟨fu, x2, v2, u2, h2, m2, e⟩ := hH _ _ _ _ _ t3
  refine ⟨fu + 1, x2, v2, u2, h2, m2, ?_⟩
  conv => lhs; whnf
  refine (pif_t hv1).trans ?_
  conv => lhs; whnf
  refine (callK_r (t1 rg) (lawbeq _ _ _ _ _ _ _ _ _ _)).trans ?_
  conv => lhs; whnf
  refine (pif_t hv1).trans ?_
  conv => lhs; whnf
  refine (callK_r (t2 rg) (lawbeq _ _ _ _ _ _ _ _ _ _)).trans ?_
  conv => lhs; whnf
  refine (pif_t rfl).trans ?_
  exact e
set_option maxHeartbeats 400000 in
theorem law_c_17 {L : Nat} {xs : Nat → Int32} {rg : pRg} {c : Nat} {C : Int} {x v u : pLV} {h : Nat → pLV} {m : pLV} (hv1 : vp_in (nI (4 * c) + 1) L) (hv2 : vp_in (nI (4 * c) + 2) L) (T : BOTH C F_X8_entry F_X9_entry [.int (xs (nI (4 * c) + 1).toNatClampNeg), .int (xs (nI (4 * c) + 2).toNatClampNeg)] x v u h m) (hH : ∀ x' v' u' h' m', RS C x' v' u' h' m' → GOOD L xs rg 456 (lsH (nI (4 * c))) (lawA x' v' u' h' m')) : GOOD L xs rg 321 (lsH (nI (4 * c))) (lawA x v u h m) := by
  obtain ⟨a, x', v', u', h', m', t1, t2, t3⟩ := T
  obtain ⟨fu, x2, v2, u2, h2, m2, e⟩ := hH _ _ _ _ _ t3
  refine ⟨fu + 1, x2, v2, u2, h2, m2, ?_⟩
  conv => lhs; whnf
  refine (pif_t hv1).trans ?_
  conv => lhs; whnf
  refine (pif_t hv2).trans ?_
  conv => lhs; whnf
  refine (callK_r (t1 rg) (lawbeq _ _ _ _ _ _ _ _ _ _)).trans ?_
  conv => lhs; whnf
  refine (pif_t hv1).trans ?_
  conv => lhs; whnf
  refine (pif_t hv2).trans ?_
  conv => lhs; whnf
  refine (callK_r (t2 rg) (lawbeq _ _ _ _ _ _ _ _ _ _)).trans ?_
  conv => lhs; whnf
  refine (pif_t rfl).trans ?_
  exact e
set_option maxHeartbeats 400000 in
theorem law_c_19 {L : Nat} {xs : Nat → Int32} {rg : pRg} {c : Nat} {C : Int} {x v u : pLV} {h : Nat → pLV} {m : pLV} (hv1 : vp_in (nI (4 * c) + 1) L) (hv2 : vp_in (nI (4 * c) + 2) L) (T : BOTH C F_X8_later F_X9_later [.int (xs (nI (4 * c) + 1).toNatClampNeg), .int (xs (nI (4 * c) + 2).toNatClampNeg)] x v u h m) (hH : ∀ x' v' u' h' m', RS C x' v' u' h' m' → GOOD L xs rg 456 (lsH (nI (4 * c))) (lawA x' v' u' h' m')) : GOOD L xs rg 371 (lsH (nI (4 * c))) (lawA x v u h m) := by
  obtain ⟨a, x', v', u', h', m', t1, t2, t3⟩ := T
  obtain ⟨fu, x2, v2, u2, h2, m2, e⟩ := hH _ _ _ _ _ t3
  refine ⟨fu + 1, x2, v2, u2, h2, m2, ?_⟩
  conv => lhs; whnf
  refine (pif_t hv1).trans ?_
  conv => lhs; whnf
  refine (pif_t hv2).trans ?_
  conv => lhs; whnf
  refine (callK_r (t1 rg) (lawbeq _ _ _ _ _ _ _ _ _ _)).trans ?_
  conv => lhs; whnf
  refine (pif_t hv1).trans ?_
  conv => lhs; whnf
  refine (pif_t hv2).trans ?_
  conv => lhs; whnf
  refine (callK_r (t2 rg) (lawbeq _ _ _ _ _ _ _ _ _ _)).trans ?_
  conv => lhs; whnf
  refine (pif_t rfl).trans ?_
  exact e
set_option maxHeartbeats 400000 in
theorem law_c_20 {L : Nat} {xs : Nat → Int32} {rg : pRg} {c : Nat} {C : Int} {x v u : pLV} {h : Nat → pLV} {m : pLV} (T : BOTH C F_X8_overflow F_X9_overflow [] x v u h m) (hH : ∀ x' v' u' h' m', RS C x' v' u' h' m' → GOOD L xs rg 456 (lsH (nI (4 * c))) (lawA x' v' u' h' m')) : GOOD L xs rg 398 (lsH (nI (4 * c))) (lawA x v u h m) := by
  obtain ⟨a, x', v', u', h', m', t1, t2, t3⟩ := T
  obtain ⟨fu, x2, v2, u2, h2, m2, e⟩ := hH _ _ _ _ _ t3
  refine ⟨fu + 1, x2, v2, u2, h2, m2, ?_⟩
  conv => lhs; whnf
  refine (callK_r (t1 rg) (lawbeq _ _ _ _ _ _ _ _ _ _)).trans ?_
  conv => lhs; whnf
  refine (callK_r (t2 rg) (lawbeq _ _ _ _ _ _ _ _ _ _)).trans ?_
  conv => lhs; whnf
  refine (pif_t rfl).trans ?_
  exact e
set_option maxHeartbeats 400000 in
theorem law_c_21 {L : Nat} {xs : Nat → Int32} {rg : pRg} {c : Nat} {C : Int} {x v u : pLV} {h : Nat → pLV} {m : pLV} (hv1 : vp_in (nI (4 * c) + 1) L) (T : BOTH C F_X8_bestLimit F_X9_bestLimit [.int (xs (nI (4 * c) + 1).toNatClampNeg)] x v u h m) (hH : ∀ x' v' u' h' m', RS C x' v' u' h' m' → GOOD L xs rg 456 (lsH (nI (4 * c))) (lawA x' v' u' h' m')) : GOOD L xs rg 405 (lsH (nI (4 * c))) (lawA x v u h m) := by
  obtain ⟨a, x', v', u', h', m', t1, t2, t3⟩ := T
  obtain ⟨fu, x2, v2, u2, h2, m2, e⟩ := hH _ _ _ _ _ t3
  refine ⟨fu + 1, x2, v2, u2, h2, m2, ?_⟩
  conv => lhs; whnf
  refine (pif_t hv1).trans ?_
  conv => lhs; whnf
  refine (callK_r (t1 rg) (lawbeq _ _ _ _ _ _ _ _ _ _)).trans ?_
  conv => lhs; whnf
  refine (pif_t hv1).trans ?_
  conv => lhs; whnf
  refine (callK_r (t2 rg) (lawbeq _ _ _ _ _ _ _ _ _ _)).trans ?_
  conv => lhs; whnf
  refine (pif_t rfl).trans ?_
  exact e
set_option maxHeartbeats 400000 in
theorem law_c_22 {L : Nat} {xs : Nat → Int32} {rg : pRg} {c : Nat} {C : Int} {x v u : pLV} {h : Nat → pLV} {m : pLV} (hv1 : vp_in (nI (4 * c) + 1) L) (T : BOTH C F_X8_keep F_X9_keep [.int (xs (nI (4 * c) + 1).toNatClampNeg)] x v u h m) (hH : ∀ x' v' u' h' m', RS C x' v' u' h' m' → GOOD L xs rg 456 (lsH (nI (4 * c))) (lawA x' v' u' h' m')) : GOOD L xs rg 422 (lsH (nI (4 * c))) (lawA x v u h m) := by
  obtain ⟨a, x', v', u', h', m', t1, t2, t3⟩ := T
  obtain ⟨fu, x2, v2, u2, h2, m2, e⟩ := hH _ _ _ _ _ t3
  refine ⟨fu + 1, x2, v2, u2, h2, m2, ?_⟩
  conv => lhs; whnf
  refine (pif_t hv1).trans ?_
  conv => lhs; whnf
  refine (callK_r (t1 rg) (lawbeq _ _ _ _ _ _ _ _ _ _)).trans ?_
  conv => lhs; whnf
  refine (pif_t hv1).trans ?_
  conv => lhs; whnf
  refine (callK_r (t2 rg) (lawbeq _ _ _ _ _ _ _ _ _ _)).trans ?_
  conv => lhs; whnf
  refine (pif_t rfl).trans ?_
  exact e
set_option maxHeartbeats 400000 in
theorem law_c_23 {L : Nat} {xs : Nat → Int32} {rg : pRg} {c : Nat} {C : Int} {x v u : pLV} {h : Nat → pLV} {m : pLV} (hv1 : vp_in (nI (4 * c) + 1) L) (T : BOTH C F_X8_back F_X9_back [.int (xs (nI (4 * c) + 1).toNatClampNeg)] x v u h m) (hH : ∀ x' v' u' h' m', RS C x' v' u' h' m' → GOOD L xs rg 456 (lsH (nI (4 * c))) (lawA x' v' u' h' m')) : GOOD L xs rg 439 (lsH (nI (4 * c))) (lawA x v u h m) := by
  obtain ⟨a, x', v', u', h', m', t1, t2, t3⟩ := T
  obtain ⟨fu, x2, v2, u2, h2, m2, e⟩ := hH _ _ _ _ _ t3
  refine ⟨fu + 1, x2, v2, u2, h2, m2, ?_⟩
  conv => lhs; whnf
  refine (pif_t hv1).trans ?_
  conv => lhs; whnf
  refine (callK_r (t1 rg) (lawbeq _ _ _ _ _ _ _ _ _ _)).trans ?_
  conv => lhs; whnf
  refine (pif_t hv1).trans ?_
  conv => lhs; whnf
  refine (callK_r (t2 rg) (lawbeq _ _ _ _ _ _ _ _ _ _)).trans ?_
  conv => lhs; whnf
  refine (pif_t rfl).trans ?_
  exact e
set_option maxHeartbeats 400000 in
theorem law_c_18 {L : Nat} {xs : Nat → Int32} {rg : pRg} {c : Nat} {C : Int} {x v u : pLV} {h : Nat → pLV} {m : pLV} (r : RS C x v u h m) (hH : ∀ x' v' u' h' m', RS C x' v' u' h' m' → ∀ ls, (ls = lsH (nI (4 * c)) ∨ ∃ y z : UInt64, ls = (6, .double y) :: (4, .double z) :: lsH (nI (4 * c))) → GOOD L xs rg 456 ls (lawA x' v' u' h' m')) : GOOD L xs rg 348 (lsH (nI (4 * c))) (lawA x v u h m) := by
  obtain ⟨f, x', v', u', h', m', t0, t1, t2, t3⟩ := share_T r
  obtain ⟨fu, x2, v2, u2, h2, m2, e⟩ := hH _ _ _ _ _ t3 _ (Or.inr ⟨FP.f2d f, FP.f2d f, rfl⟩)
  refine ⟨fu + 2, x2, v2, u2, h2, m2, ?_⟩
  conv => lhs; whnf
  refine (callK_r (t1 rg) (lawbeq _ _ _ _ _ _ _ _ _ _)).trans ?_
  conv => lhs; whnf
  refine (pif_t (f2d_ok t0)).trans ?_
  conv => lhs; whnf
  refine (callK_r (t2 rg) (lawbeq _ _ _ _ _ _ _ _ _ _)).trans ?_
  conv => lhs; whnf
  refine (pif_t (f2d_ok t0)).trans ?_
  conv => lhs; whnf
  refine pif_c (fun hz => ?_) (fun hz => ?_)
  · conv => lhs; whnf
    exact e
  · conv => lhs; whnf
    refine (pif_f hz).trans ?_
    conv => lhs; whnf
    refine (pif_f hz).trans ?_
    conv => lhs; whnf
    exact e
end
