noncomputable section
def zB (k : Nat) (f : Nat → Int32) : Nat → Int32 := fun j => if 9 ≤ j ∧ j < k then 0 else f j
theorem zB_9 (f : Nat → Int32) : zB 9 f = f := by
  funext j
  unfold zB
  rw [if_neg (by omega)]
theorem zB_s {k : Nat} (h : 9 ≤ k) (f : Nat → Int32) : upd (zB k f) k 0 = zB (k + 1) f := by
  funext j
  by_cases hj : j = k
  · subst hj
    unfold upd zB
    rw [if_pos rfl, if_pos (by omega)]
  · have : (9 ≤ j ∧ j < k) = (9 ≤ j ∧ j < k + 1) := by rw [eq_iff_iff]; omega
    unfold upd zB
    rw [if_neg hj]
    simp only [this]
def layW (f : Nat → Int32) : Nat → Int32 := upd (upd (upd (upd (zB 49 f) 15 (-9)) 16 (-9)) 18 400) 19 9600
def layM (m : pLV) : pLV := vA m 1 (layW (m 1))
theorem dX9_lay_0 : decode cX9_lay 0 = .ok (.bipush 9, 2) := by decide +kernel
theorem dX9_lay_2 : decode cX9_lay 2 = .ok (.istore_n 1, 1) := by decide +kernel
theorem dX9_lay_3 : decode cX9_lay 3 = .ok (.iload_n 1, 1) := by decide +kernel
theorem dX9_lay_4 : decode cX9_lay 4 = .ok (.bipush 49, 2) := by decide +kernel
theorem dX9_lay_6 : decode cX9_lay 6 = .ok (.if_icmp .ge 16, 3) := by decide +kernel
theorem dX9_lay_9 : decode cX9_lay 9 = .ok (.aload_n 0, 1) := by decide +kernel
theorem dX9_lay_10 : decode cX9_lay 10 = .ok (.getfield 7, 3) := by decide +kernel
theorem dX9_lay_13 : decode cX9_lay 13 = .ok (.iload_n 1, 1) := by decide +kernel
theorem dX9_lay_14 : decode cX9_lay 14 = .ok (.iconst 0, 1) := by decide +kernel
theorem dX9_lay_15 : decode cX9_lay 15 = .ok (.iastore, 1) := by decide +kernel
theorem dX9_lay_16 : decode cX9_lay 16 = .ok (.iinc 1 1, 3) := by decide +kernel
theorem dX9_lay_19 : decode cX9_lay 19 = .ok (.goto (-16), 3) := by decide +kernel
theorem dX9_lay_22 : decode cX9_lay 22 = .ok (.aload_n 0, 1) := by decide +kernel
theorem dX9_lay_23 : decode cX9_lay 23 = .ok (.getfield 7, 3) := by decide +kernel
theorem dX9_lay_26 : decode cX9_lay 26 = .ok (.bipush 15, 2) := by decide +kernel
theorem dX9_lay_28 : decode cX9_lay 28 = .ok (.bipush (-9), 2) := by decide +kernel
theorem dX9_lay_30 : decode cX9_lay 30 = .ok (.iastore, 1) := by decide +kernel
theorem dX9_lay_31 : decode cX9_lay 31 = .ok (.aload_n 0, 1) := by decide +kernel
theorem dX9_lay_32 : decode cX9_lay 32 = .ok (.getfield 7, 3) := by decide +kernel
theorem dX9_lay_35 : decode cX9_lay 35 = .ok (.bipush 16, 2) := by decide +kernel
theorem dX9_lay_37 : decode cX9_lay 37 = .ok (.bipush (-9), 2) := by decide +kernel
theorem dX9_lay_39 : decode cX9_lay 39 = .ok (.iastore, 1) := by decide +kernel
theorem dX9_lay_40 : decode cX9_lay 40 = .ok (.aload_n 0, 1) := by decide +kernel
theorem dX9_lay_41 : decode cX9_lay 41 = .ok (.getfield 7, 3) := by decide +kernel
theorem dX9_lay_44 : decode cX9_lay 44 = .ok (.bipush 18, 2) := by decide +kernel
theorem dX9_lay_46 : decode cX9_lay 46 = .ok (.sipush 400, 3) := by decide +kernel
theorem dX9_lay_49 : decode cX9_lay 49 = .ok (.iastore, 1) := by decide +kernel
theorem dX9_lay_50 : decode cX9_lay 50 = .ok (.aload_n 0, 1) := by decide +kernel
theorem dX9_lay_51 : decode cX9_lay 51 = .ok (.getfield 7, 3) := by decide +kernel
theorem dX9_lay_54 : decode cX9_lay 54 = .ok (.bipush 19, 2) := by decide +kernel
theorem dX9_lay_56 : decode cX9_lay 56 = .ok (.sipush 9600, 3) := by decide +kernel
theorem dX9_lay_59 : decode cX9_lay 59 = .ok (.iastore, 1) := by decide +kernel
theorem dX9_lay_60 : decode cX9_lay 60 = .ok (.return_, 1) := by decide +kernel
def k_X9_lay : List pEn := [oConst (9), oIstore 1, oIload 1, oConst (49), oCge 12, oAload 0, oGet 9 0, oIload 1, oConst (0), oIast, oIinc 1 (1), oGoto 2, oAload 0, oGet 9 0, oConst (15), oConst (-9), oIastN 15, oAload 0, oGet 9 0, oConst (16), oConst (-9), oIastN 16, oAload 0, oGet 9 0, oConst (18), oConst (400), oIastN 18, oAload 0, oGet 9 0, oConst (19), oConst (9600), oIastN 19, oVret]
def pc_X9_lay (i : Nat) : Nat := ([0, 2, 3, 4, 6, 9, 10, 13, 14, 15, 16, 19, 22, 23, 26, 28, 30, 31, 32, 35, 37, 39, 40, 41, 44, 46, 49, 50, 51, 54, 56, 59, 60] : List Nat).getD i 0
abbrev rm_X9_lay : Room := { frames := 0, cells := 0, slots := 0, locals := 0 }
theorem pl_X9_lay : pPlain yX9_lay 0 := by decide +kernel
set_option maxRecDepth 100000 in
set_option maxHeartbeats 4000000 in
theorem ok_k_X9_lay (l : Launch) : ∀ (i : Nat) (en : pEn), k_X9_lay[i]? = some en → EOK l cX9_lay yX9_lay.cls 2 (none) rm_X9_lay 0 pc_X9_lay i en := by
  refine allOK_at ?_
  refine And.intro (okBipush dX9_lay_0 rfl (by first | rfl | decide)) ?_
  refine And.intro (okIstore_n dX9_lay_2 rfl rfl (by decide)) ?_
  refine And.intro (okIload_n dX9_lay_3 rfl rfl) ?_
  refine And.intro (okBipush dX9_lay_4 rfl (by first | rfl | decide)) ?_
  refine And.intro (okCge dX9_lay_6 rfl (by rfl)) ?_
  refine And.intro (okAload_n dX9_lay_9 rfl rfl) ?_
  refine And.intro (okGet (C := RX9) (T := TX9) (N := 22) dX9_lay_10 rfl rfl (by decide) inX9 wm_3_141) ?_
  refine And.intro (okIload_n dX9_lay_13 rfl rfl) ?_
  refine And.intro (okIconst dX9_lay_14 rfl (by first | rfl | decide)) ?_
  refine And.intro (okIast dX9_lay_15 rfl) ?_
  refine And.intro (okIinc dX9_lay_16 rfl (by first | rfl | decide) (by decide)) ?_
  refine And.intro (okGoto dX9_lay_19 (by rfl)) ?_
  refine And.intro (okAload_n dX9_lay_22 rfl rfl) ?_
  refine And.intro (okGet (C := RX9) (T := TX9) (N := 22) dX9_lay_23 rfl rfl (by decide) inX9 wm_3_141) ?_
  refine And.intro (okBipush dX9_lay_26 rfl (by first | rfl | decide)) ?_
  refine And.intro (okBipush dX9_lay_28 rfl (by first | rfl | decide)) ?_
  refine And.intro (okIastN dX9_lay_30 rfl) ?_
  refine And.intro (okAload_n dX9_lay_31 rfl rfl) ?_
  refine And.intro (okGet (C := RX9) (T := TX9) (N := 22) dX9_lay_32 rfl rfl (by decide) inX9 wm_3_141) ?_
  refine And.intro (okBipush dX9_lay_35 rfl (by first | rfl | decide)) ?_
  refine And.intro (okBipush dX9_lay_37 rfl (by first | rfl | decide)) ?_
  refine And.intro (okIastN dX9_lay_39 rfl) ?_
  refine And.intro (okAload_n dX9_lay_40 rfl rfl) ?_
  refine And.intro (okGet (C := RX9) (T := TX9) (N := 22) dX9_lay_41 rfl rfl (by decide) inX9 wm_3_141) ?_
  refine And.intro (okBipush dX9_lay_44 rfl (by first | rfl | decide)) ?_
  refine And.intro (okSipush dX9_lay_46 rfl (by first | rfl | decide)) ?_
  refine And.intro (okIastN dX9_lay_49 rfl) ?_
  refine And.intro (okAload_n dX9_lay_50 rfl rfl) ?_
  refine And.intro (okGet (C := RX9) (T := TX9) (N := 22) dX9_lay_51 rfl rfl (by decide) inX9 wm_3_141) ?_
  refine And.intro (okBipush dX9_lay_54 rfl (by first | rfl | decide)) ?_
  refine And.intro (okSipush dX9_lay_56 rfl (by first | rfl | decide)) ?_
  refine And.intro (okIastN dX9_lay_59 rfl) ?_
  refine And.intro (okVret dX9_lay_60 rfl) ?_
  exact trivial
set_option maxHeartbeats 400000 in
theorem lp_lay (rg : pRg) (m : pLV) : ∀ (d k : Nat), 9 ≤ k → k + d = 49 → ∃ fu, ex k_X9_lay fu 2 [(1, .int (nI k)), (0, .ref 0)] [] (mdl (vA m 1 (zB k (m 1)))) rg = some (none, mdl (layM m), rg) := by
  intro d
  induction d with
  | zero =>
    intro k hk0 hk
    obtain rfl : k = 49 := by omega
    refine ⟨5, ?_⟩
    conv => lhs; whnf
    refine (pif_t (by decide)).trans ?_
    rfl
  | succ d ih =>
    intro k hk0 hk
    obtain ⟨m0, hm⟩ := ih (k + 1) (by omega) (by omega)
    refine ⟨m0 + 1, ?_⟩
    conv => lhs; whnf
    refine (pif_f (nI_ge (a := k) (b := 49) (by omega) (by omega))).trans ?_
    conv => lhs; whnf
    refine (pif_f (nI_in (c := k) (N := 110) (by omega) (by omega))).trans ?_
    conv => lhs; whnf
    rw [nI_clamp (by omega : k < 2 ^ 31), nI_1]
    rw [← zB_s hk0] at hm
    exact hm
def G_X9_lay : pG := fun args w => match args with
  | [.ref 0] => unM w (fun m => some (none, mdl (layM m)))
  | _ => none
set_option maxHeartbeats 400000 in
set_option maxRecDepth 100000 in
theorem run_X9_lay (rg : pRg) (m : pLV)   : ∃ fu, ex k_X9_lay fu 0 [(0, .ref 0)] [] (mdl m) rg = some (none, mdl (layM m), rg) := by
  have h := lp_lay rg m 40 9 (by omega) (by omega)
  rw [zB_9] at h
  exact ex_at h (fun _ => rfl)
theorem ct_X9_lay (l : Launch) : ∀ args0 w0 v0 w1 rg, G_X9_lay args0 w0 = some (v0, w1) → pCT l yX9_lay (pWs yX9_lay cX9_lay 2 (none)) rm_X9_lay args0 w0 rg (v0, w1, rg) := by
  intro args0 w0 v0 w1 rg h
  unfold G_X9_lay at h
  split at h
  next  =>
    obtain ⟨m, hw, h2⟩ := unM_some h
    clear h
    subst hw
    cases h2
    exact met_of_exM (by decide) (ok_k_X9_lay l) rfl (run_X9_lay rg m  ) (Nat.le_of_ble_eq_true rfl) rfl rfl
  next => cases h
def F_X9_lay : pF := faN G_X9_lay
theorem ok_F_X9_lay (l : Launch) : pFOK l yX9_lay (pWs yX9_lay cX9_lay 2 (none)) rm_X9_lay F_X9_lay := pFOK_fa (fun a b c d rg h => ct_X9_lay l a b c d rg h)
theorem rc_F_X9_lay : pRcv 9 F_X9_lay := pRcv_fa (fun a b c d h => by
  unfold G_X9_lay at h
  split at h
  next =>
    obtain ⟨m, rfl, h⟩ := unM_some h
    exact ⟨_, _, _, rfl, rfl⟩
  next => cases h)
theorem cl_X9_lay (m : pLV)  (rg : pRg) : F_X9_lay [.ref 0] (mdl m) rg = some (none, mdl (layM (NM m)), rg) := rfl
end
