noncomputable section
theorem dX6_read_0 : decode cX6_read 0 = .ok (.aload_n 0, 1) := by decide +kernel
theorem dX6_read_1 : decode cX6_read 1 = .ok (.getfield 12, 3) := by decide +kernel
theorem dX6_read_4 : decode cX6_read 4 = .ok (.iconst 0, 1) := by decide +kernel
theorem dX6_read_5 : decode cX6_read 5 = .ok (.putfield 28, 3) := by decide +kernel
theorem dX6_read_8 : decode cX6_read 8 = .ok (.aload_n 0, 1) := by decide +kernel
theorem dX6_read_9 : decode cX6_read 9 = .ok (.iconst 0, 1) := by decide +kernel
theorem dX6_read_10 : decode cX6_read 10 = .ok (.putfield 18, 3) := by decide +kernel
theorem dX6_read_13 : decode cX6_read 13 = .ok (.aload_n 0, 1) := by decide +kernel
theorem dX6_read_14 : decode cX6_read 14 = .ok (.iconst 0, 1) := by decide +kernel
theorem dX6_read_15 : decode cX6_read 15 = .ok (.putfield 22, 3) := by decide +kernel
theorem dX6_read_18 : decode cX6_read 18 = .ok (.aload_n 0, 1) := by decide +kernel
theorem dX6_read_19 : decode cX6_read 19 = .ok (.iconst 0, 1) := by decide +kernel
theorem dX6_read_20 : decode cX6_read 20 = .ok (.putfield 25, 3) := by decide +kernel
theorem dX6_read_23 : decode cX6_read 23 = .ok (.aload_n 0, 1) := by decide +kernel
theorem dX6_read_24 : decode cX6_read 24 = .ok (.aload_n 1, 1) := by decide +kernel
theorem dX6_read_25 : decode cX6_read 25 = .ok (.iload_n 2, 1) := by decide +kernel
theorem dX6_read_26 : decode cX6_read 26 = .ok (.invokevirtual 31, 3) := by decide +kernel
theorem dX6_read_29 : decode cX6_read 29 = .ok (.iconst 0, 1) := by decide +kernel
theorem dX6_read_30 : decode cX6_read 30 = .ok (.istore_n 3, 1) := by decide +kernel
theorem dX6_read_31 : decode cX6_read 31 = .ok (.iload_n 3, 1) := by decide +kernel
theorem dX6_read_32 : decode cX6_read 32 = .ok (.bipush 20, 2) := by decide +kernel
theorem dX6_read_34 : decode cX6_read 34 = .ok (.if_icmp .gt 36, 3) := by decide +kernel
theorem dX6_read_37 : decode cX6_read 37 = .ok (.aload_n 0, 1) := by decide +kernel
theorem dX6_read_38 : decode cX6_read 38 = .ok (.getfield 25, 3) := by decide +kernel
theorem dX6_read_41 : decode cX6_read 41 = .ok (.iload_n 2, 1) := by decide +kernel
theorem dX6_read_42 : decode cX6_read 42 = .ok (.if_icmp .ge 28, 3) := by decide +kernel
theorem dX6_read_45 : decode cX6_read 45 = .ok (.aload_n 0, 1) := by decide +kernel
theorem dX6_read_46 : decode cX6_read 46 = .ok (.getfield 18, 3) := by decide +kernel
theorem dX6_read_49 : decode cX6_read 49 = .ok (.ifCond .ne 21, 3) := by decide +kernel
theorem dX6_read_52 : decode cX6_read 52 = .ok (.aload_n 0, 1) := by decide +kernel
theorem dX6_read_53 : decode cX6_read 53 = .ok (.aload_n 1, 1) := by decide +kernel
theorem dX6_read_54 : decode cX6_read 54 = .ok (.iload_n 2, 1) := by decide +kernel
theorem dX6_read_55 : decode cX6_read 55 = .ok (.invokevirtual 35, 3) := by decide +kernel
theorem dX6_read_58 : decode cX6_read 58 = .ok (.aload_n 0, 1) := by decide +kernel
theorem dX6_read_59 : decode cX6_read 59 = .ok (.aload_n 1, 1) := by decide +kernel
theorem dX6_read_60 : decode cX6_read 60 = .ok (.iload_n 2, 1) := by decide +kernel
theorem dX6_read_61 : decode cX6_read 61 = .ok (.invokevirtual 31, 3) := by decide +kernel
theorem dX6_read_64 : decode cX6_read 64 = .ok (.iinc 3 1, 3) := by decide +kernel
theorem dX6_read_67 : decode cX6_read 67 = .ok (.goto (-36), 3) := by decide +kernel
theorem dX6_read_70 : decode cX6_read 70 = .ok (.return_, 1) := by decide +kernel
def k_X6_read : List pEn := [oAload 0, oGet 6 0, oConst (0), oPut 7 3, oAload 0, oConst (0), oPut 6 1, oAload 0, oConst (0), oPut 6 2, oAload 0, oConst (0), oPut 6 3, oAload 0, oAload 1, oIload 2, oCallZ 3 F_X6_skipBlanks, oConst (0), oIstore 3, oIload 3, oConst (20), oCgt 39, oAload 0, oGet 6 3, oIload 2, oCge 39, oAload 0, oGet 6 1, oIfne 39, oAload 0, oAload 1, oIload 2, oCallZ 3 F_X6_readEntry, oAload 0, oAload 1, oIload 2, oCallZ 3 F_X6_skipBlanks, oIinc 3 (1), oGoto 19, oVret]
def pc_X6_read (i : Nat) : Nat := ([0, 1, 4, 5, 8, 9, 10, 13, 14, 15, 18, 19, 20, 23, 24, 25, 26, 29, 30, 31, 32, 34, 37, 38, 41, 42, 45, 46, 49, 52, 53, 54, 55, 58, 59, 60, 61, 64, 67, 70] : List Nat).getD i 0
abbrev rm_X6_read : Room := { frames := 4, cells := 0, slots := 0, locals := 94 }
theorem pl_X6_read : pPlain yX6_read 2 := by decide +kernel
set_option maxRecDepth 100000 in
set_option maxHeartbeats 4000000 in
theorem ok_k_X6_read (l : Launch) : ∀ (i : Nat) (en : pEn), k_X6_read[i]? = some en → EOK l cX6_read yX6_read.cls 4 (none) rm_X6_read 0 pc_X6_read i en := by
  refine allOK_at ?_
  refine And.intro (okAload_n dX6_read_0 rfl rfl) ?_
  refine And.intro (okGet (C := RX6) (T := TX6) (N := 4) dX6_read_1 rfl rfl (by decide) inX6 wm_2_16) ?_
  refine And.intro (okIconst dX6_read_4 rfl (by first | rfl | decide)) ?_
  refine And.intro (okPut (C := RX7) (T := TX7) (N := 4) dX6_read_5 rfl rfl (by decide) inX7 tyX7_ok nmX7 rfl rfl wm_1_119) ?_
  refine And.intro (okAload_n dX6_read_8 rfl rfl) ?_
  refine And.intro (okIconst dX6_read_9 rfl (by first | rfl | decide)) ?_
  refine And.intro (okPut (C := RX6) (T := TX6) (N := 4) dX6_read_10 rfl rfl (by decide) inX6 tyX6_ok nmX6 rfl rfl wm_2_18) ?_
  refine And.intro (okAload_n dX6_read_13 rfl rfl) ?_
  refine And.intro (okIconst dX6_read_14 rfl (by first | rfl | decide)) ?_
  refine And.intro (okPut (C := RX6) (T := TX6) (N := 4) dX6_read_15 rfl rfl (by decide) inX6 tyX6_ok nmX6 rfl rfl wm_2_20) ?_
  refine And.intro (okAload_n dX6_read_18 rfl rfl) ?_
  refine And.intro (okIconst dX6_read_19 rfl (by first | rfl | decide)) ?_
  refine And.intro (okPut (C := RX6) (T := TX6) (N := 4) dX6_read_20 rfl rfl (by decide) inX6 tyX6_ok nmX6 rfl rfl wm_2_22) ?_
  refine And.intro (okAload_n dX6_read_23 rfl rfl) ?_
  refine And.intro (okAload_n dX6_read_24 rfl rfl) ?_
  refine And.intro (okIload_n dX6_read_25 rfl rfl) ?_
  refine And.intro (okCallV (y := yX6_skipBlanks) (T := TX6) (oCallZ_is _ _ _) dX6_read_26 rfl (ok_F_X6_skipBlanks l) rc_F_X6_skipBlanks rfl wm_2_164 wm_2_166 wp_0 wm_1_9 wm_2_167 pl_X6_skipBlanks (by decide)) ?_
  refine And.intro (okIconst dX6_read_29 rfl (by first | rfl | decide)) ?_
  refine And.intro (okIstore_n dX6_read_30 rfl rfl (by decide)) ?_
  refine And.intro (okIload_n dX6_read_31 rfl rfl) ?_
  refine And.intro (okBipush dX6_read_32 rfl (by first | rfl | decide)) ?_
  refine And.intro (okCgt dX6_read_34 rfl (by rfl)) ?_
  refine And.intro (okAload_n dX6_read_37 rfl rfl) ?_
  refine And.intro (okGet (C := RX6) (T := TX6) (N := 4) dX6_read_38 rfl rfl (by decide) inX6 wm_2_22) ?_
  refine And.intro (okIload_n dX6_read_41 rfl rfl) ?_
  refine And.intro (okCge dX6_read_42 rfl (by rfl)) ?_
  refine And.intro (okAload_n dX6_read_45 rfl rfl) ?_
  refine And.intro (okGet (C := RX6) (T := TX6) (N := 4) dX6_read_46 rfl rfl (by decide) inX6 wm_2_18) ?_
  refine And.intro (okIfne dX6_read_49 rfl (by rfl)) ?_
  refine And.intro (okAload_n dX6_read_52 rfl rfl) ?_
  refine And.intro (okAload_n dX6_read_53 rfl rfl) ?_
  refine And.intro (okIload_n dX6_read_54 rfl rfl) ?_
  refine And.intro (okCallV (y := yX6_readEntry) (T := TX6) (oCallZ_is _ _ _) dX6_read_55 rfl (ok_F_X6_readEntry l) rc_F_X6_readEntry rfl wm_2_172 wm_2_174 wp_2 wm_1_9 wm_2_175 pl_X6_readEntry (by decide)) ?_
  refine And.intro (okAload_n dX6_read_58 rfl rfl) ?_
  refine And.intro (okAload_n dX6_read_59 rfl rfl) ?_
  refine And.intro (okIload_n dX6_read_60 rfl rfl) ?_
  refine And.intro (okCallV (y := yX6_skipBlanks) (T := TX6) (oCallZ_is _ _ _) dX6_read_61 rfl (ok_F_X6_skipBlanks l) rc_F_X6_skipBlanks rfl wm_2_164 wm_2_166 wp_0 wm_1_9 wm_2_167 pl_X6_skipBlanks (by decide)) ?_
  refine And.intro (okIinc dX6_read_64 rfl (by first | rfl | decide) (by decide)) ?_
  refine And.intro (okGoto dX6_read_67 (by rfl)) ?_
  refine And.intro (okVret dX6_read_70 rfl) ?_
  exact trivial
theorem qSk_ok {r : pLV} {L : Int32} (hc : qOK r L) : qOK (qSk r L) L := by
  obtain ⟨a, n, ha, rfl, han, hn⟩ := hc
  rw [qSk_at ha (by omega) hn]
  have := skA_b (r 4) (n - a) a
  exact ⟨_, n, rfl, rfl, by omega, hn⟩
theorem qOK_NQ {r : pLV} {L : Int32} (hc : qOK r L) : qOK (NQ r) L := hc
/-- d entries at the most, and the blanks behind them -/
def qRi (L : Int32) : Nat → pLV → pLV
  | 0, r => r
  | d + 1, r => if L ≤ r 0 2 then r else if r 0 0 = 0 then qRi L d (qSk (NQ (qRe (NQ r) L)) L) else r
def q0 (r : pLV) : pLV := vS (vS (vS (vS r 3 0) 0 0) 1 0) 2 0
def qRd (r : pLV) (L : Int32) : pLV := qRi L 21 (qSk (NQ (q0 r)) L)
set_option maxHeartbeats 1000000 in
set_option maxRecDepth 100000 in
theorem lp_rd (rg : pRg) (L : Int32) : ∀ (d i : Nat) (r : pLV), i + d = 21 → qOK r L → ∃ fu, ex k_X6_read fu 19 [(3, .int (nI i)), (0, .ref 0), (1, .ref 5), (2, .int L)] [] (qW r) rg = some (none, qW (qRi L d r), rg) := by
  intro d
  induction d with
  | zero =>
    intro i r hi hc
    obtain rfl : i = 21 := by omega
    refine ⟨5, ?_⟩
    conv => lhs; whnf
    refine (pif_t (by decide)).trans ?_
    rfl
  | succ d ih =>
    intro i r hi hc
    have h20 : ¬ (20 : Int32) < nI i := nI_nlt (a := 20) (b := i) (by omega) (by omega)
    by_cases h1 : L ≤ r 0 2
    · rw [show qRi L (d + 1) r = _ from if_pos h1]
      refine ⟨5, ?_⟩
      conv => lhs; whnf
      refine (pif_f h20).trans ?_
      conv => lhs; whnf
      refine (pif_t h1).trans ?_
      rfl
    · by_cases h2 : r 0 0 = 0
      · rw [show qRi L (d + 1) r = _ from (if_neg h1).trans (if_pos h2)]
        have hr1 := qRe_ok (qOK_NQ hc)
        obtain ⟨fu, hf⟩ := ih (i + 1) (qSk (NQ (qRe (NQ r) L)) L) (by omega) (qSk_ok (qOK_NQ hr1))
        refine ⟨fu + 1, ?_⟩
        conv => lhs; whnf
        refine (pif_f h20).trans ?_
        conv => lhs; whnf
        refine (pif_f h1).trans ?_
        conv => lhs; whnf
        refine (pif_t h2).trans ?_
        conv => lhs; whnf
        refine (callK_v (cl_X6_readEntry r L rg (qOK_NQ hc)) (by rfl)).trans ?_
        revert hr1 hf
        generalize qRe (NQ r) L = r1
        revert r1; refine id ?_; intro r1 hr1 hf
        conv => lhs; whnf
        refine (callK_v (cl_X6_skipBlanks r1 L rg (qOK_NQ hr1)) (by rfl)).trans ?_
        revert hf
        generalize qSk (NQ r1) L = r2
        revert r2; refine id ?_; intro r2 hf
        conv => lhs; whnf
        rw [nI_1]
        exact hf
      · rw [show qRi L (d + 1) r = _ from (if_neg h1).trans (if_neg h2)]
        refine ⟨5, ?_⟩
        conv => lhs; whnf
        refine (pif_f h20).trans ?_
        conv => lhs; whnf
        refine (pif_f h1).trans ?_
        conv => lhs; whnf
        refine (pif_f h2).trans ?_
        rfl
def G_X6_read : pG := fun args w => match args with
  | [.ref 0, .ref 5, .int L] => unQ w (fun r => pif (∃ n : Nat, L = nI n ∧ n ≤ 120) (some (none, qW (qRd r L))) none)
  | _ => none
set_option maxHeartbeats 1000000 in
set_option maxRecDepth 100000 in
theorem run_X6_read (rg : pRg) (r : pLV) (L : Int32) (hc : ∃ n : Nat, L = nI n ∧ n ≤ 120) : ∃ fu, ex k_X6_read fu 0 [(0, .ref 0), (1, .ref 5), (2, .int L)] [] (qW r) rg = some (none, qW (qRd r L), rg) := by
  obtain ⟨n, rfl, hn⟩ := hc
  have h0 : qOK (q0 r) (nI n) := ⟨0, n, rfl, rfl, Nat.zero_le _, hn⟩
  have hs := qSk_ok (qOK_NQ h0)
  obtain ⟨fu, hf⟩ := lp_rd rg (nI n) 21 0 (qSk (NQ (q0 r)) (nI n)) rfl hs
  obtain ⟨f1, rfl⟩ := ex_pos hf
  refine ⟨f1 + 1, ?_⟩
  unfold qRd
  conv => lhs; whnf
  refine (callK_v (cl_X6_skipBlanks (q0 r) (nI n) rg (qOK_NQ h0)) (by rfl)).trans ?_
  clear hs
  revert hf
  generalize qSk (NQ (q0 r)) (nI n) = r2
  revert r2; refine id ?_; intro r2 hf
  conv at hf => lhs; whnf
  conv => lhs; whnf
  exact hf
theorem ct_X6_read (l : Launch) : ∀ args0 w0 v0 w1 rg, G_X6_read args0 w0 = some (v0, w1) → pCT l yX6_read (pWs yX6_read cX6_read 4 (none)) rm_X6_read args0 w0 rg (v0, w1, rg) := by
  intro args0 w0 v0 w1 rg h
  unfold G_X6_read at h
  split at h
  next L =>
    obtain ⟨r, hw, h2⟩ := unQ_some h
    clear h
    subst hw
    by_cases hc : ∃ n : Nat, L = nI n ∧ n ≤ 120
    · have h2 := (pif_t hc).symm.trans h2
      cases h2
      exact met_of_exQ (by decide) (ok_k_X6_read l) rfl (run_X6_read rg r L hc) (Nat.le_of_ble_eq_true rfl) rfl rfl
    · have h2 := (pif_f hc).symm.trans h2
      cases h2
  next => cases h
def F_X6_read : pF := frN G_X6_read
theorem ok_F_X6_read (l : Launch) : pFOK l yX6_read (pWs yX6_read cX6_read 4 (none)) rm_X6_read F_X6_read := pFOK_fr (fun a b c d h => ct_X6_read l a b c d rg00 h) (fun a b c d h => by
  unfold G_X6_read at h
  split at h
  next =>
    obtain ⟨m, rfl, h⟩ := unQ_some h
    exact Nat.le_of_ble_eq_true rfl
  next => cases h)
theorem rc_F_X6_read : pRcv 6 F_X6_read := pRcv_fr (fun a b c d h => by
  unfold G_X6_read at h
  split at h
  next =>
    obtain ⟨m, rfl, h⟩ := unQ_some h
    exact Nat.le_of_ble_eq_true rfl
  next => cases h) (fun a b c d h => by
  unfold G_X6_read at h
  split at h
  next =>
    obtain ⟨m, rfl, h⟩ := unQ_some h
    exact ⟨_, _, _, rfl, rfl⟩
  next => cases h)
end
