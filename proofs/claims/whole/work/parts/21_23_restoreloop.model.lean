noncomputable section
theorem dX9_restore_0 : decode cX9_restore 0 = .ok (.iconst 0, 1) := by decide +kernel
theorem dX9_restore_1 : decode cX9_restore 1 = .ok (.istore_n 1, 1) := by decide +kernel
theorem dX9_restore_2 : decode cX9_restore 2 = .ok (.iload_n 1, 1) := by decide +kernel
theorem dX9_restore_3 : decode cX9_restore 3 = .ok (.bipush 110, 2) := by decide +kernel
theorem dX9_restore_5 : decode cX9_restore 5 = .ok (.if_icmp .ge 21, 3) := by decide +kernel
theorem dX9_restore_8 : decode cX9_restore 8 = .ok (.aload_n 0, 1) := by decide +kernel
theorem dX9_restore_9 : decode cX9_restore 9 = .ok (.getfield 7, 3) := by decide +kernel
theorem dX9_restore_12 : decode cX9_restore 12 = .ok (.iload_n 1, 1) := by decide +kernel
theorem dX9_restore_13 : decode cX9_restore 13 = .ok (.aload_n 0, 1) := by decide +kernel
theorem dX9_restore_14 : decode cX9_restore 14 = .ok (.getfield 32, 3) := by decide +kernel
theorem dX9_restore_17 : decode cX9_restore 17 = .ok (.iload_n 1, 1) := by decide +kernel
theorem dX9_restore_18 : decode cX9_restore 18 = .ok (.iaload, 1) := by decide +kernel
theorem dX9_restore_19 : decode cX9_restore 19 = .ok (.iastore, 1) := by decide +kernel
theorem dX9_restore_20 : decode cX9_restore 20 = .ok (.iinc 1 1, 3) := by decide +kernel
theorem dX9_restore_23 : decode cX9_restore 23 = .ok (.goto (-21), 3) := by decide +kernel
theorem dX9_restore_26 : decode cX9_restore 26 = .ok (.return_, 1) := by decide +kernel
def k_X9_restore : List pEn := [oConst (0), oIstore 1, oIload 1, oConst (110), oCge 15, oAload 0, oGet 9 0, oIload 1, oAload 0, oGet 9 21, oIload 1, oIald, oIast, oIinc 1 (1), oGoto 2, oVret]
def pc_X9_restore (i : Nat) : Nat := ([0, 1, 2, 3, 5, 8, 9, 12, 13, 14, 17, 18, 19, 20, 23, 26] : List Nat).getD i 0
abbrev rm_X9_restore : Room := { frames := 0, cells := 0, slots := 0, locals := 0 }
theorem pl_X9_restore : pPlain yX9_restore 0 := by decide +kernel
set_option maxRecDepth 100000 in
set_option maxHeartbeats 4000000 in
theorem ok_k_X9_restore (l : Launch) : ∀ (i : Nat) (en : pEn), k_X9_restore[i]? = some en → EOK l cX9_restore yX9_restore.cls 2 (none) rm_X9_restore 0 pc_X9_restore i en := by
  refine allOK_at ?_
  refine And.intro (okIconst dX9_restore_0 rfl (by first | rfl | decide)) ?_
  refine And.intro (okIstore_n dX9_restore_1 rfl rfl (by decide)) ?_
  refine And.intro (okIload_n dX9_restore_2 rfl rfl) ?_
  refine And.intro (okBipush dX9_restore_3 rfl (by first | rfl | decide)) ?_
  refine And.intro (okCge dX9_restore_5 rfl (by rfl)) ?_
  refine And.intro (okAload_n dX9_restore_8 rfl rfl) ?_
  refine And.intro (okGet (C := RX9) (T := TX9) (N := 22) dX9_restore_9 rfl rfl (by decide) inX9 wm_3_141) ?_
  refine And.intro (okIload_n dX9_restore_12 rfl rfl) ?_
  refine And.intro (okAload_n dX9_restore_13 rfl rfl) ?_
  refine And.intro (okGet (C := RX9) (T := TX9) (N := 22) dX9_restore_14 rfl rfl (by decide) inX9 wm_3_162) ?_
  refine And.intro (okIload_n dX9_restore_17 rfl rfl) ?_
  refine And.intro (okIald dX9_restore_18 rfl) ?_
  refine And.intro (okIast dX9_restore_19 rfl) ?_
  refine And.intro (okIinc dX9_restore_20 rfl (by first | rfl | decide) (by decide)) ?_
  refine And.intro (okGoto dX9_restore_23 (by rfl)) ?_
  refine And.intro (okVret dX9_restore_26 rfl) ?_
  exact trivial
set_option maxHeartbeats 400000 in
theorem lp_restore (rg : pRg) (m : pLV) : ∀ (d k : Nat), 0 ≤ k → k + d = 110 → ∃ fu, ex k_X9_restore fu 2 [(1, .int (nI k)), (0, .ref 0)] [] (mdl (vA m 1 (cpN k (m 6) (m 1)))) rg = some (none, mdl (restM m), rg) := by
  intro d
  induction d with
  | zero =>
    intro k hk0 hk
    obtain rfl : k = 110 := by omega
    refine ⟨5, ?_⟩
    conv => lhs; whnf
    refine (pif_t (by decide)).trans ?_
    rfl
  | succ d ih =>
    intro k hk0 hk
    obtain ⟨m0, hm⟩ := ih (k + 1) (by omega) (by omega)
    refine ⟨m0 + 1, ?_⟩
    conv => lhs; whnf
    refine (pif_f (nI_ge (a := k) (b := 110) (by omega) (by omega))).trans ?_
    conv => lhs; whnf
    refine (pif_f (nI_in (c := k) (N := 110) (by omega) (by omega))).trans ?_
    conv => lhs; whnf
    refine (pif_f (nI_in (c := k) (N := 110) (by omega) (by omega))).trans ?_
    conv => lhs; whnf
    rw [nI_clamp (by omega : k < 2 ^ 31), nI_1]
    rw [← cpN_s] at hm
    exact hm
def G_X9_restore : pG := fun args w => match args with
  | [.ref 0] => unM w (fun m => some (none, mdl (restM m)))
  | _ => none
set_option maxHeartbeats 400000 in
set_option maxRecDepth 100000 in
theorem run_X9_restore (rg : pRg) (m : pLV)   : ∃ fu, ex k_X9_restore fu 0 [(0, .ref 0)] [] (mdl m) rg = some (none, mdl (restM m), rg) := by
  have h := lp_restore rg m 110 0 (by omega) (by omega)
  rw [cpN_0] at h
  exact ex_at h (fun _ => rfl)
theorem ct_X9_restore (l : Launch) : ∀ args0 w0 v0 w1 rg, G_X9_restore args0 w0 = some (v0, w1) → pCT l yX9_restore (pWs yX9_restore cX9_restore 2 (none)) rm_X9_restore args0 w0 rg (v0, w1, rg) := by
  intro args0 w0 v0 w1 rg h
  unfold G_X9_restore at h
  split at h
  next  =>
    obtain ⟨m, hw, h2⟩ := unM_some h
    clear h
    subst hw
    cases h2
    exact met_of_exM (by decide) (ok_k_X9_restore l) rfl (run_X9_restore rg m  ) (Nat.le_of_ble_eq_true rfl) rfl rfl
  next => cases h
def F_X9_restore : pF := faN G_X9_restore
theorem ok_F_X9_restore (l : Launch) : pFOK l yX9_restore (pWs yX9_restore cX9_restore 2 (none)) rm_X9_restore F_X9_restore := pFOK_fa (fun a b c d rg h => ct_X9_restore l a b c d rg h)
theorem rc_F_X9_restore : pRcv 9 F_X9_restore := pRcv_fa (fun a b c d h => by
  unfold G_X9_restore at h
  split at h
  next =>
    obtain ⟨m, rfl, h⟩ := unM_some h
    exact ⟨_, _, _, rfl, rfl⟩
  next => cases h)
theorem cl_X9_restore (m : pLV)  (rg : pRg) : F_X9_restore [.ref 0] (mdl m) rg = some (none, mdl (restM (NM m)), rg) := rfl
end
