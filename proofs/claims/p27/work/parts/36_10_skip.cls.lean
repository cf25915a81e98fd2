noncomputable section
theorem dX6_skipBlanks_0 : decode cX6_skipBlanks 0 = .ok (.aload_n 0, 1) := by decide +kernel
theorem dX6_skipBlanks_1 : decode cX6_skipBlanks 1 = .ok (.getfield 25, 3) := by decide +kernel
theorem dX6_skipBlanks_4 : decode cX6_skipBlanks 4 = .ok (.iload_n 2, 1) := by decide +kernel
theorem dX6_skipBlanks_5 : decode cX6_skipBlanks 5 = .ok (.if_icmp .ge 27, 3) := by decide +kernel
theorem dX6_skipBlanks_8 : decode cX6_skipBlanks 8 = .ok (.aload_n 0, 1) := by decide +kernel
theorem dX6_skipBlanks_9 : decode cX6_skipBlanks 9 = .ok (.aload_n 1, 1) := by decide +kernel
theorem dX6_skipBlanks_10 : decode cX6_skipBlanks 10 = .ok (.iload_n 2, 1) := by decide +kernel
theorem dX6_skipBlanks_11 : decode cX6_skipBlanks 11 = .ok (.invokevirtual 38, 3) := by decide +kernel
theorem dX6_skipBlanks_14 : decode cX6_skipBlanks 14 = .ok (.bipush 32, 2) := by decide +kernel
theorem dX6_skipBlanks_16 : decode cX6_skipBlanks 16 = .ok (.if_icmp .ne 16, 3) := by decide +kernel
theorem dX6_skipBlanks_19 : decode cX6_skipBlanks 19 = .ok (.aload_n 0, 1) := by decide +kernel
theorem dX6_skipBlanks_20 : decode cX6_skipBlanks 20 = .ok (.dup, 1) := by decide +kernel
theorem dX6_skipBlanks_21 : decode cX6_skipBlanks 21 = .ok (.getfield 25, 3) := by decide +kernel
theorem dX6_skipBlanks_24 : decode cX6_skipBlanks 24 = .ok (.iconst 1, 1) := by decide +kernel
theorem dX6_skipBlanks_25 : decode cX6_skipBlanks 25 = .ok (.iadd, 1) := by decide +kernel
theorem dX6_skipBlanks_26 : decode cX6_skipBlanks 26 = .ok (.putfield 25, 3) := by decide +kernel
theorem dX6_skipBlanks_29 : decode cX6_skipBlanks 29 = .ok (.goto (-29), 3) := by decide +kernel
theorem dX6_skipBlanks_32 : decode cX6_skipBlanks 32 = .ok (.return_, 1) := by decide +kernel
def k_X6_skipBlanks : List pEn := [oAload 0, oGet 6 3, oIload 2, oCge 17, oAload 0, oAload 1, oIload 2, oCallZ 3 F_X6_codeAt, oConst (32), oCne 17, oAload 0, oDup, oGet 6 3, oConst (1), oAdd, oPut 6 3, oGoto 0, oVret]
def pc_X6_skipBlanks (i : Nat) : Nat := ([0, 1, 4, 5, 8, 9, 10, 11, 14, 16, 19, 20, 21, 24, 25, 26, 29, 32] : List Nat).getD i 0
abbrev rm_X6_skipBlanks : Room := { frames := 1, cells := 0, slots := 0, locals := 22 }
theorem pl_X6_skipBlanks : pPlain yX6_skipBlanks 2 := by decide +kernel
set_option maxRecDepth 100000 in
set_option maxHeartbeats 4000000 in
theorem ok_k_X6_skipBlanks (l : Launch) : ∀ (i : Nat) (en : pEn), k_X6_skipBlanks[i]? = some en → EOK l cX6_skipBlanks yX6_skipBlanks.cls 3 (none) rm_X6_skipBlanks 0 pc_X6_skipBlanks i en := by
  refine allOK_at ?_
  refine And.intro (okAload_n dX6_skipBlanks_0 rfl rfl) ?_
  refine And.intro (okGet (C := RX6) (T := TX6) (N := 4) dX6_skipBlanks_1 rfl rfl (by decide) inX6 wm_2_22) ?_
  refine And.intro (okIload_n dX6_skipBlanks_4 rfl rfl) ?_
  refine And.intro (okCge dX6_skipBlanks_5 rfl (by rfl)) ?_
  refine And.intro (okAload_n dX6_skipBlanks_8 rfl rfl) ?_
  refine And.intro (okAload_n dX6_skipBlanks_9 rfl rfl) ?_
  refine And.intro (okIload_n dX6_skipBlanks_10 rfl rfl) ?_
  refine And.intro (okCallV (y := yX6_codeAt) (T := TX6) (oCallZ_is _ _ _) dX6_skipBlanks_11 rfl (ok_F_X6_codeAt l) rc_F_X6_codeAt rfl wm_2_168 wm_2_170 wp_1 wm_1_9 wm_2_171 pl_X6_codeAt (by decide)) ?_
  refine And.intro (okBipush dX6_skipBlanks_14 rfl (by first | rfl | decide)) ?_
  refine And.intro (okCne dX6_skipBlanks_16 rfl (by rfl)) ?_
  refine And.intro (okAload_n dX6_skipBlanks_19 rfl rfl) ?_
  refine And.intro (okDup dX6_skipBlanks_20 rfl) ?_
  refine And.intro (okGet (C := RX6) (T := TX6) (N := 4) dX6_skipBlanks_21 rfl rfl (by decide) inX6 wm_2_22) ?_
  refine And.intro (okIconst dX6_skipBlanks_24 rfl (by first | rfl | decide)) ?_
  refine And.intro (okAdd dX6_skipBlanks_25 rfl) ?_
  refine And.intro (okPut (C := RX6) (T := TX6) (N := 4) dX6_skipBlanks_26 rfl rfl (by decide) inX6 tyX6_ok nmX6 rfl rfl wm_2_22) ?_
  refine And.intro (okGoto dX6_skipBlanks_29 (by rfl)) ?_
  refine And.intro (okVret dX6_skipBlanks_32 rfl) ?_
  exact trivial
def skA (t : Nat → Int32) : Nat → Nat → Nat
  | 0, a => a
  | d + 1, a => if t a = 32 then skA t d (a + 1) else a
theorem skA_b (t : Nat → Int32) : ∀ d a, a ≤ skA t d a ∧ skA t d a ≤ a + d
  | 0, a => ⟨Nat.le_refl _, Nat.le_refl _⟩
  | d + 1, a => by
    unfold skA
    split
    · have := skA_b t d (a + 1)
      omega
    · omega
def qSk (r : pLV) (L : Int32) : pLV := vS r 2 (nI (skA (r 4) (L.toNatClampNeg - (r 0 2).toNatClampNeg) (r 0 2).toNatClampNeg))
set_option maxHeartbeats 400000 in
theorem lp_sk (rg : pRg) (r : pLV) (n : Nat) (hn : n ≤ 120) : ∀ (d a : Nat), a + d = n → ∃ fu, ex k_X6_skipBlanks fu 0 [(0, .ref 0), (1, .ref 5), (2, .int (nI n))] [] (qW (vS r 2 (nI a))) rg = some (none, qW (vS r 2 (nI (skA (r 4) d a))), rg) := by
  intro d
  induction d with
  | zero =>
    intro a ha
    refine ⟨3, ?_⟩
    conv => lhs; whnf
    refine (pif_t (nI_le (a := n) (b := a) (by omega) (by omega))).trans ?_
    rfl
  | succ d ih =>
    intro a ha
    have hc : qCd (NQ (vS r 2 (nI a))) (nI n) = r 4 a := qCd_at (r := NQ (vS r 2 (nI a))) rfl (by omega) hn
    by_cases h : r 4 a = 32
    · obtain ⟨fu, hf⟩ := ih (a + 1) (by omega)
      rw [show skA (r 4) (d + 1) a = _ from if_pos h]
      refine ⟨fu + 1, ?_⟩
      conv => lhs; whnf
      refine (pif_f (nI_ge (a := a) (b := n) (by omega) (by omega))).trans ?_
      conv => lhs; whnf
      refine (callK_r (cl_X6_codeAt (vS r 2 (nI a)) (nI n) rg) (by rfl)).trans ?_
      rw [hc]
      conv => lhs; whnf
      refine (pif_t h).trans ?_
      rw [← nI_1] at hf
      conv => lhs; whnf
      exact hf
    · rw [show skA (r 4) (d + 1) a = _ from if_neg h]
      refine ⟨3, ?_⟩
      conv => lhs; whnf
      refine (pif_f (nI_ge (a := a) (b := n) (by omega) (by omega))).trans ?_
      conv => lhs; whnf
      refine (callK_r (cl_X6_codeAt (vS r 2 (nI a)) (nI n) rg) (by rfl)).trans ?_
      rw [hc]
      conv => lhs; whnf
      refine (pif_f h).trans ?_
      rfl
theorem qSk_at {r : pLV} {a n : Nat} (ha : r 0 2 = nI a) (hb : a ≤ 120) (hn : n ≤ 120) : qSk r (nI n) = vS r 2 (nI (skA (r 4) (n - a) a)) := by
  unfold qSk
  rw [ha, nI_clamp (by omega), nI_clamp (by omega)]
def G_X6_skipBlanks : pG := fun args w => match args with
  | [.ref 0, .ref 5, .int L] => unQ w (fun r => pif (qOK r L) (some (none, qW (qSk r L))) none)
  | _ => none
set_option maxHeartbeats 1000000 in
set_option maxRecDepth 100000 in
theorem run_X6_skipBlanks (rg : pRg) (r : pLV) (L : Int32) (hc : qOK r L) : ∃ fu, ex k_X6_skipBlanks fu 0 [(0, .ref 0), (1, .ref 5), (2, .int L)] [] (qW r) rg = some (none, qW (qSk r L), rg) := by
  obtain ⟨a, n, ha, rfl, han, hn⟩ := hc
  rw [qSk_at ha (by omega) hn]
  obtain ⟨fu, hf⟩ := lp_sk rg r n hn (n - a) a (by omega)
  rw [← ha] at hf
  exact ⟨fu, hf⟩
theorem ct_X6_skipBlanks (l : Launch) : ∀ args0 w0 v0 w1 rg, G_X6_skipBlanks args0 w0 = some (v0, w1) → pCT l yX6_skipBlanks (pWs yX6_skipBlanks cX6_skipBlanks 3 (none)) rm_X6_skipBlanks args0 w0 rg (v0, w1, rg) := by
  intro args0 w0 v0 w1 rg h
  unfold G_X6_skipBlanks at h
  split at h
  next L =>
    obtain ⟨r, hw, h2⟩ := unQ_some h
    clear h
    subst hw
    by_cases hc : qOK r L
    · have h2 := (pif_t hc).symm.trans h2
      cases h2
      exact met_of_exQ (by decide) (ok_k_X6_skipBlanks l) rfl (run_X6_skipBlanks rg r L hc) (Nat.le_of_ble_eq_true rfl) rfl rfl
    · have h2 := (pif_f hc).symm.trans h2
      cases h2
  next => cases h
def F_X6_skipBlanks : pF := faN G_X6_skipBlanks
theorem ok_F_X6_skipBlanks (l : Launch) : pFOK l yX6_skipBlanks (pWs yX6_skipBlanks cX6_skipBlanks 3 (none)) rm_X6_skipBlanks F_X6_skipBlanks := pFOK_fa (fun a b c d rg h => ct_X6_skipBlanks l a b c d rg h)
theorem rc_F_X6_skipBlanks : pRcv 6 F_X6_skipBlanks := pRcv_fa (fun a b c d h => by
  unfold G_X6_skipBlanks at h
  split at h
  next =>
    obtain ⟨m, rfl, h⟩ := unQ_some h
    exact ⟨_, _, _, rfl, rfl⟩
  next => cases h)
theorem cl_X6_skipBlanks (r : pLV) (L : Int32) (rg : pRg) (hc : qOK (NQ r) L) : F_X6_skipBlanks [.ref 0, .ref 5, .int L] (qW r) rg = some (none, qW (qSk (NQ r) L), rg) := by
  have h : G_X6_skipBlanks [.ref 0, .ref 5, .int L] (qW r) = some (none, qW (qSk (NQ r) L)) := pif_t hc
  unfold F_X6_skipBlanks faN
  rw [h]
end
