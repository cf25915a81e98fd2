noncomputable section
def unW (k : Nat) (x : pLV) : pLV := vA x 1 (cpN k (fun j => x 2 (110 * (x 0 2).toNatClampNeg + j)) (x 1))
def und1 (m : pLV) : pLV := vS m 2 (m 0 2 - 1)
def undR (m : pLV) : Int32 := if m 0 2 = 0 then -2 else m 0 2 - 1
def undM (m : pLV) : pLV := if m 0 2 = 0 then m else unW 110 (und1 m)
theorem dX9_undo_0 : decode cX9_undo 0 = .ok (.aload_n 0, 1) := by decide +kernel
theorem dX9_undo_1 : decode cX9_undo 1 = .ok (.getfield 38, 3) := by decide +kernel
theorem dX9_undo_4 : decode cX9_undo 4 = .ok (.ifCond .ne 6, 3) := by decide +kernel
theorem dX9_undo_7 : decode cX9_undo 7 = .ok (.bipush (-2), 2) := by decide +kernel
theorem dX9_undo_9 : decode cX9_undo 9 = .ok (.ireturn, 1) := by decide +kernel
theorem dX9_undo_10 : decode cX9_undo 10 = .ok (.aload_n 0, 1) := by decide +kernel
theorem dX9_undo_11 : decode cX9_undo 11 = .ok (.dup, 1) := by decide +kernel
theorem dX9_undo_12 : decode cX9_undo 12 = .ok (.getfield 38, 3) := by decide +kernel
theorem dX9_undo_15 : decode cX9_undo 15 = .ok (.iconst 1, 1) := by decide +kernel
theorem dX9_undo_16 : decode cX9_undo 16 = .ok (.isub, 1) := by decide +kernel
theorem dX9_undo_17 : decode cX9_undo 17 = .ok (.putfield 38, 3) := by decide +kernel
theorem dX9_undo_20 : decode cX9_undo 20 = .ok (.iconst 0, 1) := by decide +kernel
theorem dX9_undo_21 : decode cX9_undo 21 = .ok (.istore_n 1, 1) := by decide +kernel
theorem dX9_undo_22 : decode cX9_undo 22 = .ok (.iload_n 1, 1) := by decide +kernel
theorem dX9_undo_23 : decode cX9_undo 23 = .ok (.bipush 110, 2) := by decide +kernel
theorem dX9_undo_25 : decode cX9_undo 25 = .ok (.if_icmp .ge 29, 3) := by decide +kernel
theorem dX9_undo_28 : decode cX9_undo 28 = .ok (.aload_n 0, 1) := by decide +kernel
theorem dX9_undo_29 : decode cX9_undo 29 = .ok (.getfield 7, 3) := by decide +kernel
theorem dX9_undo_32 : decode cX9_undo 32 = .ok (.iload_n 1, 1) := by decide +kernel
theorem dX9_undo_33 : decode cX9_undo 33 = .ok (.aload_n 0, 1) := by decide +kernel
theorem dX9_undo_34 : decode cX9_undo 34 = .ok (.getfield 13, 3) := by decide +kernel
theorem dX9_undo_37 : decode cX9_undo 37 = .ok (.bipush 110, 2) := by decide +kernel
theorem dX9_undo_39 : decode cX9_undo 39 = .ok (.aload_n 0, 1) := by decide +kernel
theorem dX9_undo_40 : decode cX9_undo 40 = .ok (.getfield 38, 3) := by decide +kernel
theorem dX9_undo_43 : decode cX9_undo 43 = .ok (.imul, 1) := by decide +kernel
theorem dX9_undo_44 : decode cX9_undo 44 = .ok (.iload_n 1, 1) := by decide +kernel
theorem dX9_undo_45 : decode cX9_undo 45 = .ok (.iadd, 1) := by decide +kernel
theorem dX9_undo_46 : decode cX9_undo 46 = .ok (.iaload, 1) := by decide +kernel
theorem dX9_undo_47 : decode cX9_undo 47 = .ok (.iastore, 1) := by decide +kernel
theorem dX9_undo_48 : decode cX9_undo 48 = .ok (.iinc 1 1, 3) := by decide +kernel
theorem dX9_undo_51 : decode cX9_undo 51 = .ok (.goto (-29), 3) := by decide +kernel
theorem dX9_undo_54 : decode cX9_undo 54 = .ok (.aload_n 0, 1) := by decide +kernel
theorem dX9_undo_55 : decode cX9_undo 55 = .ok (.getfield 38, 3) := by decide +kernel
theorem dX9_undo_58 : decode cX9_undo 58 = .ok (.ireturn, 1) := by decide +kernel
def k_X9_undo : List pEn := [oAload 0, oGet 9 2, oIfne 5, oConst (-2), oIret, oAload 0, oDup, oGet 9 2, oConst (1), oSub, oPut 9 2, oConst (0), oIstore 1, oIload 1, oConst (110), oCge 31, oAload 0, oGet 9 0, oIload 1, oAload 0, oGet 9 1, oConst (110), oAload 0, oGet 9 2, oMul, oIload 1, oAdd, oIald, oIast, oIinc 1 (1), oGoto 13, oAload 0, oGet 9 2, oIret]
def pc_X9_undo (i : Nat) : Nat := ([0, 1, 4, 7, 9, 10, 11, 12, 15, 16, 17, 20, 21, 22, 23, 25, 28, 29, 32, 33, 34, 37, 39, 40, 43, 44, 45, 46, 47, 48, 51, 54, 55, 58] : List Nat).getD i 0
abbrev rm_X9_undo : Room := { frames := 0, cells := 0, slots := 0, locals := 0 }
theorem pl_X9_undo : pPlain yX9_undo 0 := by decide +kernel
set_option maxRecDepth 100000 in
set_option maxHeartbeats 4000000 in
theorem ok_k_X9_undo (l : Launch) : ∀ (i : Nat) (en : pEn), k_X9_undo[i]? = some en → EOK l cX9_undo yX9_undo.cls 2 ((some FieldType.int)) rm_X9_undo 0 pc_X9_undo i en := by
  refine allOK_at ?_
  refine And.intro (okAload_n dX9_undo_0 rfl rfl) ?_
  refine And.intro (okGet (C := RX9) (T := TX9) (N := 22) dX9_undo_1 rfl rfl (by decide) inX9 wm_3_143) ?_
  refine And.intro (okIfne dX9_undo_4 rfl (by rfl)) ?_
  refine And.intro (okBipush dX9_undo_7 rfl (by first | rfl | decide)) ?_
  refine And.intro (okIret dX9_undo_9 rfl) ?_
  refine And.intro (okAload_n dX9_undo_10 rfl rfl) ?_
  refine And.intro (okDup dX9_undo_11 rfl) ?_
  refine And.intro (okGet (C := RX9) (T := TX9) (N := 22) dX9_undo_12 rfl rfl (by decide) inX9 wm_3_143) ?_
  refine And.intro (okIconst dX9_undo_15 rfl (by first | rfl | decide)) ?_
  refine And.intro (okSub dX9_undo_16 rfl) ?_
  refine And.intro (okPut (C := RX9) (T := TX9) (N := 22) dX9_undo_17 rfl rfl (by decide) inX9 tyX9_ok nmX9 rfl rfl wm_3_143) ?_
  refine And.intro (okIconst dX9_undo_20 rfl (by first | rfl | decide)) ?_
  refine And.intro (okIstore_n dX9_undo_21 rfl rfl (by decide)) ?_
  refine And.intro (okIload_n dX9_undo_22 rfl rfl) ?_
  refine And.intro (okBipush dX9_undo_23 rfl (by first | rfl | decide)) ?_
  refine And.intro (okCge dX9_undo_25 rfl (by rfl)) ?_
  refine And.intro (okAload_n dX9_undo_28 rfl rfl) ?_
  refine And.intro (okGet (C := RX9) (T := TX9) (N := 22) dX9_undo_29 rfl rfl (by decide) inX9 wm_3_141) ?_
  refine And.intro (okIload_n dX9_undo_32 rfl rfl) ?_
  refine And.intro (okAload_n dX9_undo_33 rfl rfl) ?_
  refine And.intro (okGet (C := RX9) (T := TX9) (N := 22) dX9_undo_34 rfl rfl (by decide) inX9 wm_3_142) ?_
  refine And.intro (okBipush dX9_undo_37 rfl (by first | rfl | decide)) ?_
  refine And.intro (okAload_n dX9_undo_39 rfl rfl) ?_
  refine And.intro (okGet (C := RX9) (T := TX9) (N := 22) dX9_undo_40 rfl rfl (by decide) inX9 wm_3_143) ?_
  refine And.intro (okMul dX9_undo_43 rfl) ?_
  refine And.intro (okIload_n dX9_undo_44 rfl rfl) ?_
  refine And.intro (okAdd dX9_undo_45 rfl) ?_
  refine And.intro (okIald dX9_undo_46 rfl) ?_
  refine And.intro (okIast dX9_undo_47 rfl) ?_
  refine And.intro (okIinc dX9_undo_48 rfl (by first | rfl | decide) (by decide)) ?_
  refine And.intro (okGoto dX9_undo_51 (by rfl)) ?_
  refine And.intro (okAload_n dX9_undo_54 rfl rfl) ?_
  refine And.intro (okGet (C := RX9) (T := TX9) (N := 22) dX9_undo_55 rfl rfl (by decide) inX9 wm_3_143) ?_
  refine And.intro (okIret dX9_undo_58 rfl) ?_
  exact trivial
set_option maxHeartbeats 400000 in
theorem lp_undo (rg : pRg) (x : pLV) (h0 : 0 ≤ x 0 2) (h7 : (x 0 2).toNatClampNeg ≤ 7) : ∀ (d k : Nat), 0 ≤ k → k + d = 110 → ∃ fu, ex k_X9_undo fu 13 [(1, .int (nI k)), (0, .ref 0)] [] (mdl (unW k x)) rg = some (some (.int (x 0 2)), mdl (unW 110 x), rg) := by
  intro d
  induction d with
  | zero =>
    intro k hk0 hk
    obtain rfl : k = 110 := by omega
    refine ⟨5, ?_⟩
    conv => lhs; whnf
    refine (pif_t (by decide)).trans ?_
    rfl
  | succ d ih =>
    intro k hk0 hk
    obtain ⟨m0, hm⟩ := ih (k + 1) (by omega) (by omega)
    refine ⟨m0 + 1, ?_⟩
    conv => lhs; whnf
    refine (pif_f (nI_ge (a := k) (b := 110) (by omega) (by omega))).trans ?_
    conv => lhs; whnf
    refine (pif_f (past_in (x 0 2).toNatClampNeg k (nI_ofN h0) h7 (by omega))).trans ?_
    conv => lhs; whnf
    refine (pif_f (nI_in (c := k) (N := 110) (by omega) (by omega))).trans ?_
    conv => lhs; whnf
    rw [nI_clamp (by omega : k < 2 ^ 31), nI_1]
    have e : upd (cpN k (fun j => x 2 (110 * (x 0 2).toNatClampNeg + j)) (x 1)) k (x 2 (110 * x 0 2 + nI k).toNatClampNeg) = cpN (k + 1) (fun j => x 2 (110 * (x 0 2).toNatClampNeg + j)) (x 1) := by
      rw [past_cl k h0 h7 (by omega)]
      exact cpN_s k _ _
    unfold unW at hm
    rw [← e] at hm
    exact hm
theorem p_dec {x : Int32} (h0 : 0 ≤ x) (h8 : x ≤ 8) (hz : ¬ x = 0) : 0 ≤ x - 1 ∧ (x - 1).toNatClampNeg ≤ 7 := by
  have h1 := clamp_b 8 (n := 8) rfl h8
  have e := nI_ofN h0
  have hz2 : x.toNatClampNeg ≠ 0 := fun q => hz (by rw [q] at e; exact e)
  have e2 : x - 1 = nI (x.toNatClampNeg - 1) := by
    have e3 : nI (x.toNatClampNeg - 1) + 1 = x := by
      rw [nI_1, show x.toNatClampNeg - 1 + 1 = x.toNatClampNeg by omega]
      exact e.symm
    rw [← e3, Int32.add_sub_cancel]
    rw [e3]
  rw [e2]
  refine ⟨nI_pos' (by omega), ?_⟩
  rw [nI_clamp (by omega)]
  omega
def G_X9_undo : pG := fun args w => match args with
  | [.ref 0] => unM w (fun m => pif (pOK m) (some (some (.int (undR m)), mdl (undM m))) none)
  | _ => none
set_option maxHeartbeats 400000 in
set_option maxRecDepth 100000 in
theorem run_X9_undo (rg : pRg) (m : pLV)  (hc : pOK m) : ∃ fu, ex k_X9_undo fu 0 [(0, .ref 0)] [] (mdl m) rg = some (some (.int (undR m)), mdl (undM m), rg) := by
  by_cases h : m 0 2 = 0
  · refine ⟨5, ?_⟩
    rw [show undR m = _ from if_pos h, show undM m = _ from if_pos h]
    conv => lhs; whnf
    refine (pif_t (h)).trans ?_
    rfl
  · obtain ⟨q1, q2⟩ := p_dec hc.1 hc.2 h
    obtain ⟨fu, hf⟩ := lp_undo rg (und1 m) q1 q2 110 0 (by omega) (by omega)
    have hp : unW 0 (und1 m) = vA (und1 m) 1 (und1 m 1) := congrArg (vA (und1 m) 1) (cpN_0 _ _)
    rw [hp] at hf
    obtain ⟨f1, rfl⟩ := ex_pos hf
    refine ⟨f1 + 2, ?_⟩
    rw [show undR m = _ from if_neg h, show undM m = _ from if_neg h]
    conv => lhs; whnf
    refine (pif_f (h)).trans ?_
    conv at hf => lhs; whnf
    conv => lhs; whnf
    exact hf
theorem ct_X9_undo (l : Launch) : ∀ args0 w0 v0 w1 rg, G_X9_undo args0 w0 = some (v0, w1) → pCT l yX9_undo (pWs yX9_undo cX9_undo 2 ((some FieldType.int))) rm_X9_undo args0 w0 rg (v0, w1, rg) := by
  intro args0 w0 v0 w1 rg h
  unfold G_X9_undo at h
  split at h
  next  =>
    obtain ⟨m, hw, h2⟩ := unM_some h
    clear h
    subst hw
    by_cases hc : pOK m
    · have h2 := (pif_t hc).symm.trans h2
      cases h2
      exact met_of_exM (by decide) (ok_k_X9_undo l) rfl (run_X9_undo rg m  hc) (Nat.le_of_ble_eq_true rfl) rfl rfl
    · have h2 := (pif_f hc).symm.trans h2
      cases h2
  next => cases h
def F_X9_undo : pF := faN G_X9_undo
theorem ok_F_X9_undo (l : Launch) : pFOK l yX9_undo (pWs yX9_undo cX9_undo 2 ((some FieldType.int))) rm_X9_undo F_X9_undo := pFOK_fa (fun a b c d rg h => ct_X9_undo l a b c d rg h)
theorem rc_F_X9_undo : pRcv 9 F_X9_undo := pRcv_fa (fun a b c d h => by
  unfold G_X9_undo at h
  split at h
  next =>
    obtain ⟨m, rfl, h⟩ := unM_some h
    exact ⟨_, _, _, rfl, rfl⟩
  next => cases h)
theorem cl_X9_undo (m : pLV)  (rg : pRg) (hc : pOK (NM m)) : F_X9_undo [.ref 0] (mdl m) rg = some (some (.int (undR (NM m))), mdl (undM (NM m)), rg) := by
  have h : G_X9_undo [.ref 0] (mdl m) = some (some (.int (undR (NM m))), mdl (undM (NM m))) := pif_t hc
  unfold F_X9_undo faN
  rw [h]
end
