noncomputable section
/-! THE LAW'S LOOP BY INDUCTION -/
theorem nI_m4 {a : Nat} (h : 4 ≤ a) : nI a - 4 = nI (a - 4) := by
  have e : nI (a - 4) + 4 = nI a := by rw [nI_p4]; congr 1; omega
  rw [← e, Int32.add_sub_cancel]
set_option maxHeartbeats 400000 in
theorem law_step {L : Nat} {xs : Nat → Int32} {rg : pRg} {i : Int32} {w : pWd} (hH : GOOD L xs rg 10 (lsH (i + 4)) w) : GOOD L xs rg 456 (lsH i) w := by
  obtain ⟨fu, x2, v2, u2, h2, m2, e⟩ := hH
  refine ⟨fu + 1, x2, v2, u2, h2, m2, ?_⟩
  conv => lhs; whnf
  exact e
set_option maxHeartbeats 400000 in
theorem law_stepD {L : Nat} {xs : Nat → Int32} {rg : pRg} {i : Int32} {w : pWd} {y z : UInt64} (hH : GOOD L xs rg 10 (lsH (i + 4)) w) : GOOD L xs rg 456 ((6, .double y) :: (4, .double z) :: lsH i) w := by
  obtain ⟨fu, x2, v2, u2, h2, m2, e⟩ := hH
  refine ⟨fu + 1, x2, v2, u2, h2, m2, ?_⟩
  conv => lhs; whnf
  exact e
theorem law_stepA {L : Nat} {xs : Nat → Int32} {rg : pRg} {i : Int32} {w : pWd} (hH : GOOD L xs rg 10 (lsH (i + 4)) w) : ∀ ls, (ls = lsH i ∨ ∃ y z : UInt64, ls = (6, .double y) :: (4, .double z) :: lsH i) → GOOD L xs rg 456 ls w := by
  rintro ls (rfl | ⟨y, z, rfl⟩)
  · exact law_step hH
  · exact law_stepD hH
theorem law_in {L k c : Nat} (hL : L ≤ 2048) (h : 4 * c + k < L) : vp_in (nI (4 * c + k)) L := by
  unfold vp_in
  rw [nI_clamp (by omega)]
  rintro (q | q)
  · exact nI_pos (by omega) q
  · omega
set_option maxHeartbeats 400000 in
theorem law_end {L : Nat} {xs : Nat → Int32} {rg : pRg} {c : Nat} {x v u : pLV} {h : Nat → pLV} {m : pLV} (hL : L ≤ 2048) (hc : 4 * c ≤ L) (hc2 : L < 4 * c + 4) : GOOD L xs rg 10 (lsH (nI (4 * c))) (lawA x v u h m) := by
  refine ⟨2, x, v, u, h, m, ?_⟩
  have hlt : Int32.ofNat L - 4 < nI (4 * c) := by
    have e1 := nI_toInt (show L < 2 ^ 31 by omega)
    have e2 := nI_toInt (show 4 * c < 2 ^ 31 by omega)
    rw [Int32.lt_iff_toInt_lt]
    rw [show (Int32.ofNat L - 4).toInt = (L : Int) - 4 by
      by_cases h4 : 4 ≤ L
      · rw [show Int32.ofNat L = nI L from rfl, nI_m4 h4, nI_toInt (by omega)]
        omega
      · rcases (show L = 0 ∨ L = 1 ∨ L = 2 ∨ L = 3 by omega) with rfl | rfl | rfl | rfl <;> decide, e2]
    omega
  conv => lhs; whnf
  refine (pif_t hlt).trans ?_
  conv => lhs; whnf
  exact pif_t (Or.inr rfl)
set_option maxHeartbeats 800000 in
theorem law_go {L : Nat} {xs : Nat → Int32} {rg : pRg} {c : Nat} {w : pWd} (hL : L ≤ 2048) (hc : 4 * c + 4 ≤ L) (hH : ∀ t ∈ ([22, 29, 56, 73, 90, 127, 154, 161, 178, 185, 202, 209, 226, 243, 260, 287, 304, 321, 348, 371, 398, 405, 422, 439, 456] : List Nat), GOOD L xs rg t (lsH (nI (4 * c))) w) : GOOD L xs rg 10 (lsH (nI (4 * c))) w := by
  have hle : ¬ Int32.ofNat L - 4 < nI (4 * c) := by
    rw [show Int32.ofNat L = nI L from rfl, nI_m4 (by omega)]
    exact nI_nlt (by omega) (by omega)
  have key : ∀ z : Int32, ∃ t ∈ ([22, 29, 56, 73, 90, 127, 154, 161, 178, 185, 202, 209, 226, 243, 260, 287, 304, 321, 348, 371, 398, 405, 422, 439, 456] : List Nat), ∀ f : Nat → Option pOut, swK z [(0, 22), (1, 29), (2, 56), (3, 73), (4, 90), (5, 127), (6, 154), (7, 161), (8, 178), (9, 185), (10, 202), (11, 209), (12, 226), (13, 243), (14, 260), (15, 287), (16, 304), (17, 321), (18, 348), (19, 371), (20, 398), (21, 405), (22, 422), (23, 439)] 456 f = f t := by
    intro z
    by_cases n0 : z = 0
    · exact ⟨22, by simp, fun f => (pif_t n0)⟩
    by_cases n1 : z = 1
    · exact ⟨29, by simp, fun f => (pif_f n0).trans <| (pif_t n1)⟩
    by_cases n2 : z = 2
    · exact ⟨56, by simp, fun f => (pif_f n0).trans <| (pif_f n1).trans <| (pif_t n2)⟩
    by_cases n3 : z = 3
    · exact ⟨73, by simp, fun f => (pif_f n0).trans <| (pif_f n1).trans <| (pif_f n2).trans <| (pif_t n3)⟩
    by_cases n4 : z = 4
    · exact ⟨90, by simp, fun f => (pif_f n0).trans <| (pif_f n1).trans <| (pif_f n2).trans <| (pif_f n3).trans <| (pif_t n4)⟩
    by_cases n5 : z = 5
    · exact ⟨127, by simp, fun f => (pif_f n0).trans <| (pif_f n1).trans <| (pif_f n2).trans <| (pif_f n3).trans <| (pif_f n4).trans <| (pif_t n5)⟩
    by_cases n6 : z = 6
    · exact ⟨154, by simp, fun f => (pif_f n0).trans <| (pif_f n1).trans <| (pif_f n2).trans <| (pif_f n3).trans <| (pif_f n4).trans <| (pif_f n5).trans <| (pif_t n6)⟩
    by_cases n7 : z = 7
    · exact ⟨161, by simp, fun f => (pif_f n0).trans <| (pif_f n1).trans <| (pif_f n2).trans <| (pif_f n3).trans <| (pif_f n4).trans <| (pif_f n5).trans <| (pif_f n6).trans <| (pif_t n7)⟩
    by_cases n8 : z = 8
    · exact ⟨178, by simp, fun f => (pif_f n0).trans <| (pif_f n1).trans <| (pif_f n2).trans <| (pif_f n3).trans <| (pif_f n4).trans <| (pif_f n5).trans <| (pif_f n6).trans <| (pif_f n7).trans <| (pif_t n8)⟩
    by_cases n9 : z = 9
    · exact ⟨185, by simp, fun f => (pif_f n0).trans <| (pif_f n1).trans <| (pif_f n2).trans <| (pif_f n3).trans <| (pif_f n4).trans <| (pif_f n5).trans <| (pif_f n6).trans <| (pif_f n7).trans <| (pif_f n8).trans <| (pif_t n9)⟩
    by_cases n10 : z = 10
    · exact ⟨202, by simp, fun f => (pif_f n0).trans <| (pif_f n1).trans <| (pif_f n2).trans <| (pif_f n3).trans <| (pif_f n4).trans <| (pif_f n5).trans <| (pif_f n6).trans <| (pif_f n7).trans <| (pif_f n8).trans <| (pif_f n9).trans <| (pif_t n10)⟩
    by_cases n11 : z = 11
    · exact ⟨209, by simp, fun f => (pif_f n0).trans <| (pif_f n1).trans <| (pif_f n2).trans <| (pif_f n3).trans <| (pif_f n4).trans <| (pif_f n5).trans <| (pif_f n6).trans <| (pif_f n7).trans <| (pif_f n8).trans <| (pif_f n9).trans <| (pif_f n10).trans <| (pif_t n11)⟩
    by_cases n12 : z = 12
    · exact ⟨226, by simp, fun f => (pif_f n0).trans <| (pif_f n1).trans <| (pif_f n2).trans <| (pif_f n3).trans <| (pif_f n4).trans <| (pif_f n5).trans <| (pif_f n6).trans <| (pif_f n7).trans <| (pif_f n8).trans <| (pif_f n9).trans <| (pif_f n10).trans <| (pif_f n11).trans <| (pif_t n12)⟩
    by_cases n13 : z = 13
    · exact ⟨243, by simp, fun f => (pif_f n0).trans <| (pif_f n1).trans <| (pif_f n2).trans <| (pif_f n3).trans <| (pif_f n4).trans <| (pif_f n5).trans <| (pif_f n6).trans <| (pif_f n7).trans <| (pif_f n8).trans <| (pif_f n9).trans <| (pif_f n10).trans <| (pif_f n11).trans <| (pif_f n12).trans <| (pif_t n13)⟩
    by_cases n14 : z = 14
    · exact ⟨260, by simp, fun f => (pif_f n0).trans <| (pif_f n1).trans <| (pif_f n2).trans <| (pif_f n3).trans <| (pif_f n4).trans <| (pif_f n5).trans <| (pif_f n6).trans <| (pif_f n7).trans <| (pif_f n8).trans <| (pif_f n9).trans <| (pif_f n10).trans <| (pif_f n11).trans <| (pif_f n12).trans <| (pif_f n13).trans <| (pif_t n14)⟩
    by_cases n15 : z = 15
    · exact ⟨287, by simp, fun f => (pif_f n0).trans <| (pif_f n1).trans <| (pif_f n2).trans <| (pif_f n3).trans <| (pif_f n4).trans <| (pif_f n5).trans <| (pif_f n6).trans <| (pif_f n7).trans <| (pif_f n8).trans <| (pif_f n9).trans <| (pif_f n10).trans <| (pif_f n11).trans <| (pif_f n12).trans <| (pif_f n13).trans <| (pif_f n14).trans <| (pif_t n15)⟩
    by_cases n16 : z = 16
    · exact ⟨304, by simp, fun f => (pif_f n0).trans <| (pif_f n1).trans <| (pif_f n2).trans <| (pif_f n3).trans <| (pif_f n4).trans <| (pif_f n5).trans <| (pif_f n6).trans <| (pif_f n7).trans <| (pif_f n8).trans <| (pif_f n9).trans <| (pif_f n10).trans <| (pif_f n11).trans <| (pif_f n12).trans <| (pif_f n13).trans <| (pif_f n14).trans <| (pif_f n15).trans <| (pif_t n16)⟩
    by_cases n17 : z = 17
    · exact ⟨321, by simp, fun f => (pif_f n0).trans <| (pif_f n1).trans <| (pif_f n2).trans <| (pif_f n3).trans <| (pif_f n4).trans <| (pif_f n5).trans <| (pif_f n6).trans <| (pif_f n7).trans <| (pif_f n8).trans <| (pif_f n9).trans <| (pif_f n10).trans <| (pif_f n11).trans <| (pif_f n12).trans <| (pif_f n13).trans <| (pif_f n14).trans <| (pif_f n15).trans <| (pif_f n16).trans <| (pif_t n17)⟩
    by_cases n18 : z = 18
    · exact ⟨348, by simp, fun f => (pif_f n0).trans <| (pif_f n1).trans <| (pif_f n2).trans <| (pif_f n3).trans <| (pif_f n4).trans <| (pif_f n5).trans <| (pif_f n6).trans <| (pif_f n7).trans <| (pif_f n8).trans <| (pif_f n9).trans <| (pif_f n10).trans <| (pif_f n11).trans <| (pif_f n12).trans <| (pif_f n13).trans <| (pif_f n14).trans <| (pif_f n15).trans <| (pif_f n16).trans <| (pif_f n17).trans <| (pif_t n18)⟩
    by_cases n19 : z = 19
    · exact ⟨371, by simp, fun f => (pif_f n0).trans <| (pif_f n1).trans <| (pif_f n2).trans <| (pif_f n3).trans <| (pif_f n4).trans <| (pif_f n5).trans <| (pif_f n6).trans <| (pif_f n7).trans <| (pif_f n8).trans <| (pif_f n9).trans <| (pif_f n10).trans <| (pif_f n11).trans <| (pif_f n12).trans <| (pif_f n13).trans <| (pif_f n14).trans <| (pif_f n15).trans <| (pif_f n16).trans <| (pif_f n17).trans <| (pif_f n18).trans <| (pif_t n19)⟩
    by_cases n20 : z = 20
    · exact ⟨398, by simp, fun f => (pif_f n0).trans <| (pif_f n1).trans <| (pif_f n2).trans <| (pif_f n3).trans <| (pif_f n4).trans <| (pif_f n5).trans <| (pif_f n6).trans <| (pif_f n7).trans <| (pif_f n8).trans <| (pif_f n9).trans <| (pif_f n10).trans <| (pif_f n11).trans <| (pif_f n12).trans <| (pif_f n13).trans <| (pif_f n14).trans <| (pif_f n15).trans <| (pif_f n16).trans <| (pif_f n17).trans <| (pif_f n18).trans <| (pif_f n19).trans <| (pif_t n20)⟩
    by_cases n21 : z = 21
    · exact ⟨405, by simp, fun f => (pif_f n0).trans <| (pif_f n1).trans <| (pif_f n2).trans <| (pif_f n3).trans <| (pif_f n4).trans <| (pif_f n5).trans <| (pif_f n6).trans <| (pif_f n7).trans <| (pif_f n8).trans <| (pif_f n9).trans <| (pif_f n10).trans <| (pif_f n11).trans <| (pif_f n12).trans <| (pif_f n13).trans <| (pif_f n14).trans <| (pif_f n15).trans <| (pif_f n16).trans <| (pif_f n17).trans <| (pif_f n18).trans <| (pif_f n19).trans <| (pif_f n20).trans <| (pif_t n21)⟩
    by_cases n22 : z = 22
    · exact ⟨422, by simp, fun f => (pif_f n0).trans <| (pif_f n1).trans <| (pif_f n2).trans <| (pif_f n3).trans <| (pif_f n4).trans <| (pif_f n5).trans <| (pif_f n6).trans <| (pif_f n7).trans <| (pif_f n8).trans <| (pif_f n9).trans <| (pif_f n10).trans <| (pif_f n11).trans <| (pif_f n12).trans <| (pif_f n13).trans <| (pif_f n14).trans <| (pif_f n15).trans <| (pif_f n16).trans <| (pif_f n17).trans <| (pif_f n18).trans <| (pif_f n19).trans <| (pif_f n20).trans <| (pif_f n21).trans <| (pif_t n22)⟩
    by_cases n23 : z = 23
    · exact ⟨439, by simp, fun f => (pif_f n0).trans <| (pif_f n1).trans <| (pif_f n2).trans <| (pif_f n3).trans <| (pif_f n4).trans <| (pif_f n5).trans <| (pif_f n6).trans <| (pif_f n7).trans <| (pif_f n8).trans <| (pif_f n9).trans <| (pif_f n10).trans <| (pif_f n11).trans <| (pif_f n12).trans <| (pif_f n13).trans <| (pif_f n14).trans <| (pif_f n15).trans <| (pif_f n16).trans <| (pif_f n17).trans <| (pif_f n18).trans <| (pif_f n19).trans <| (pif_f n20).trans <| (pif_f n21).trans <| (pif_f n22).trans <| (pif_t n23)⟩
    exact ⟨456, by simp, fun f => (pif_f n0).trans <| (pif_f n1).trans <| (pif_f n2).trans <| (pif_f n3).trans <| (pif_f n4).trans <| (pif_f n5).trans <| (pif_f n6).trans <| (pif_f n7).trans <| (pif_f n8).trans <| (pif_f n9).trans <| (pif_f n10).trans <| (pif_f n11).trans <| (pif_f n12).trans <| (pif_f n13).trans <| (pif_f n14).trans <| (pif_f n15).trans <| (pif_f n16).trans <| (pif_f n17).trans <| (pif_f n18).trans <| (pif_f n19).trans <| (pif_f n20).trans <| (pif_f n21).trans <| (pif_f n22).trans <| (pif_f n23).trans <|  rfl⟩
  obtain ⟨t, ht, hsw⟩ := key (xs (nI (4 * c)).toNatClampNeg &&& 31)
  obtain ⟨fu, x2, v2, u2, h2, m2, e⟩ := hH t ht
  refine ⟨fu + 1, x2, v2, u2, h2, m2, ?_⟩
  conv => lhs; whnf
  refine (pif_f hle).trans ?_
  conv => lhs; whnf
  refine (pif_t (law_in (k := 0) hL (by omega))).trans ?_
  refine Eq.trans (hsw (fun t => ex (k_L_law L xs) fu t (lsH (nI (4 * c))) [] w rg)) ?_
  exact e
theorem law_head {L : Nat} {xs : Nat → Int32} {rg : pRg} (hL : L ≤ 2048) : ∀ (d c : Nat), c + d = L / 4 → ∀ (x v u : pLV) (h : Nat → pLV) (m : pLV), RS (400000 * c) x v u h m → GOOD L xs rg 10 (lsH (nI (4 * c))) (lawA x v u h m) := by
  intro d
  induction d with
  | zero =>
    intro c hc x v u h m r
    exact law_end hL (by omega) (by omega)
  | succ d ih =>
    intro c hc x v u h m r
    have h0 : (0 : Int) ≤ 400000 * (c : Int) := by omega
    have hB : 400000 * (c : Int) + 600000 ≤ 2000000000 := by omega
    have hN : ∀ x' v' u' h' m', RS (400000 * (c : Int) + 400000) x' v' u' h' m' → GOOD L xs rg 10 (lsH (nI (4 * c) + 4)) (lawA x' v' u' h' m') := by
      intro x' v' u' h' m' r'
      have e : 400000 * (c : Int) + 400000 = 400000 * ((c + 1 : Nat) : Int) := by omega
      rw [e] at r'
      rw [nI_p4]
      exact ih (c + 1) (by omega) x' v' u' h' m' r'
    have hJ : ∀ x' v' u' h' m', RS (400000 * (c : Int) + 400000) x' v' u' h' m' → GOOD L xs rg 456 (lsH (nI (4 * c))) (lawA x' v' u' h' m') := fun x' v' u' h' m' r' => law_step (hN x' v' u' h' m' r')
    have q1 : vp_in (nI (4 * c) + 1) L := by rw [nI_1]; exact law_in hL (by omega)
    have q2 : vp_in (nI (4 * c) + 2) L := by rw [nI_p2]; exact law_in hL (by omega)
    have q3 : vp_in (nI (4 * c) + 3) L := by rw [show nI (4 * c) + 3 = nI (4 * c + 3) from nI_plus _ 3]; exact law_in hL (by omega)
    refine law_go hL (by omega) fun t ht => ?_
    simp only [List.mem_cons, List.not_mem_nil, or_false] at ht
    rcases ht with rfl | rfl | rfl | rfl | rfl | rfl | rfl | rfl | rfl | rfl | rfl | rfl | rfl | rfl | rfl | rfl | rfl | rfl | rfl | rfl | rfl | rfl | rfl | rfl | rfl
    · exact law_c_0 (begin_T r h0 hB) hJ
    · exact law_c_1 q1 q2 (set_T r h0 hB _ _) hJ
    · exact law_c_2 q1 (tear_T r h0 hB _) hJ
    · exact law_c_3 q1 (change_T r h0 hB _) hJ
    · exact law_c_4 q1 q2 q3 (fill_T r h0 hB _ _ _) hJ
    · exact law_c_5 q1 q2 (drain_T r h0 hB _ _) hJ
    · exact law_c_6 (plan_T r h0 hB) hJ
    · exact law_c_7 q1 (run_T r h0 hB _) hJ
    · exact law_c_8 (undo_T r h0 hB) hJ
    · exact law_c_9 q1 (write_T r h0 hB _) hJ
    · exact law_c_10 (wipe_T r h0 hB) hJ
    · exact law_c_11 q1 (fault_T r h0 hB _) hJ
    · exact law_c_12 q1 (told_T r h0 hB _) hJ
    · exact law_c_13 q1 (setting_T r h0 hB _) hJ
    · exact law_c_14 q1 q2 (chest_T r h0 hB _ _) hJ
    · exact law_c_15 q1 (account_T r h0 hB _) hJ
    · exact law_c_16 q1 (paper_T r h0 hB _) hJ
    · exact law_c_17 q1 q2 (entry_T r h0 hB _ _) hJ
    · exact law_c_18 (r.up (by omega)) fun x' v' u' h' m' r' => law_stepA (hN x' v' u' h' m' r')
    · exact law_c_19 q1 q2 (later_T r h0 hB _ _) hJ
    · exact law_c_20 (overflow_T r h0 hB) hJ
    · exact law_c_21 q1 (bestLimit_T r h0 hB _) hJ
    · exact law_c_22 q1 (keep_T r h0 hB _) hJ
    · exact law_c_23 q1 (back_T r h0 hB _) hJ
    · exact hJ x v u h m (r.up (by omega))
theorem law_loop {L : Nat} {xs : Nat → Int32} (rg : pRg) (hL : L ≤ 2048) : GOOD L xs rg 10 (lsH 0) (lawA x00 iniV iniV (fun _ => iniV) (layM (NM iniM))) := by
  have g := law_head (rg := rg) (xs := xs) hL (L / 4) 0 (by omega) x00 iniV iniV (fun _ => iniV) (layM (NM iniM)) (by
    have e : (400000 : Int) * ((0 : Nat) : Int) = 0 := by omega
    rw [e]
    exact RS_0)
  exact g

end
