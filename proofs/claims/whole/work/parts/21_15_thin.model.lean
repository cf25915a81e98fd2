noncomputable section
def thM (x : pLV) : pLV := fillM 3 (NM x) (x 0 9) (x 0 10 + x 1 13 * (x 0 9 + x 0 10) / 1000)
def thinM (m : pLV) : pLV := thM (takeM 2 (NM m) (m 1 2))
theorem dX9_thin_0 : decode cX9_thin 0 = .ok (.aload_n 0, 1) := by decide +kernel
theorem dX9_thin_1 : decode cX9_thin 1 = .ok (.iconst 2, 1) := by decide +kernel
theorem dX9_thin_2 : decode cX9_thin 2 = .ok (.aload_n 0, 1) := by decide +kernel
theorem dX9_thin_3 : decode cX9_thin 3 = .ok (.getfield 7, 3) := by decide +kernel
theorem dX9_thin_6 : decode cX9_thin 6 = .ok (.iconst 2, 1) := by decide +kernel
theorem dX9_thin_7 : decode cX9_thin 7 = .ok (.iaload, 1) := by decide +kernel
theorem dX9_thin_8 : decode cX9_thin 8 = .ok (.invokevirtual 62, 3) := by decide +kernel
theorem dX9_thin_11 : decode cX9_thin 11 = .ok (.aload_n 0, 1) := by decide +kernel
theorem dX9_thin_12 : decode cX9_thin 12 = .ok (.getfield 7, 3) := by decide +kernel
theorem dX9_thin_15 : decode cX9_thin 15 = .ok (.bipush 13, 2) := by decide +kernel
theorem dX9_thin_17 : decode cX9_thin 17 = .ok (.iaload, 1) := by decide +kernel
theorem dX9_thin_18 : decode cX9_thin 18 = .ok (.aload_n 0, 1) := by decide +kernel
theorem dX9_thin_19 : decode cX9_thin 19 = .ok (.getfield 49, 3) := by decide +kernel
theorem dX9_thin_22 : decode cX9_thin 22 = .ok (.aload_n 0, 1) := by decide +kernel
theorem dX9_thin_23 : decode cX9_thin 23 = .ok (.getfield 52, 3) := by decide +kernel
theorem dX9_thin_26 : decode cX9_thin 26 = .ok (.iadd, 1) := by decide +kernel
theorem dX9_thin_27 : decode cX9_thin 27 = .ok (.imul, 1) := by decide +kernel
theorem dX9_thin_28 : decode cX9_thin 28 = .ok (.sipush 1000, 3) := by decide +kernel
theorem dX9_thin_31 : decode cX9_thin 31 = .ok (.idiv, 1) := by decide +kernel
theorem dX9_thin_32 : decode cX9_thin 32 = .ok (.istore_n 1, 1) := by decide +kernel
theorem dX9_thin_33 : decode cX9_thin 33 = .ok (.aload_n 0, 1) := by decide +kernel
theorem dX9_thin_34 : decode cX9_thin 34 = .ok (.iconst 3, 1) := by decide +kernel
theorem dX9_thin_35 : decode cX9_thin 35 = .ok (.aload_n 0, 1) := by decide +kernel
theorem dX9_thin_36 : decode cX9_thin 36 = .ok (.getfield 49, 3) := by decide +kernel
theorem dX9_thin_39 : decode cX9_thin 39 = .ok (.aload_n 0, 1) := by decide +kernel
theorem dX9_thin_40 : decode cX9_thin 40 = .ok (.getfield 52, 3) := by decide +kernel
theorem dX9_thin_43 : decode cX9_thin 43 = .ok (.iload_n 1, 1) := by decide +kernel
theorem dX9_thin_44 : decode cX9_thin 44 = .ok (.iadd, 1) := by decide +kernel
theorem dX9_thin_45 : decode cX9_thin 45 = .ok (.invokevirtual 73, 3) := by decide +kernel
theorem dX9_thin_48 : decode cX9_thin 48 = .ok (.istore_n 2, 1) := by decide +kernel
theorem dX9_thin_49 : decode cX9_thin 49 = .ok (.return_, 1) := by decide +kernel
def k_X9_thin : List pEn := [oAload 0, oConst (2), oAload 0, oGet 9 0, oConst (2), oIaldN 2, oCallZ 3 F_X9_takeFrom, oAload 0, oGet 9 0, oConst (13), oIaldN 13, oAload 0, oGet 9 9, oAload 0, oGet 9 10, oAdd, oMul, oConst (1000), oDivL, oIstore 1, oAload 0, oConst (3), oAload 0, oGet 9 9, oAload 0, oGet 9 10, oIload 1, oAdd, oCallZ 4 F_X9_fillInto, oIstore 2, oVret]
def pc_X9_thin (i : Nat) : Nat := ([0, 1, 2, 3, 6, 7, 8, 11, 12, 15, 17, 18, 19, 22, 23, 26, 27, 28, 31, 32, 33, 34, 35, 36, 39, 40, 43, 44, 45, 48, 49] : List Nat).getD i 0
abbrev rm_X9_thin : Room := { frames := 3, cells := 0, slots := 0, locals := 69 }
theorem pl_X9_thin : pPlain yX9_thin 0 := by decide +kernel
set_option maxRecDepth 100000 in
set_option maxHeartbeats 4000000 in
theorem ok_k_X9_thin (l : Launch) : ∀ (i : Nat) (en : pEn), k_X9_thin[i]? = some en → EOK l cX9_thin yX9_thin.cls 3 (none) rm_X9_thin 0 pc_X9_thin i en := by
  refine allOK_at ?_
  refine And.intro (okAload_n dX9_thin_0 rfl rfl) ?_
  refine And.intro (okIconst dX9_thin_1 rfl (by first | rfl | decide)) ?_
  refine And.intro (okAload_n dX9_thin_2 rfl rfl) ?_
  refine And.intro (okGet (C := RX9) (T := TX9) (N := 22) dX9_thin_3 rfl rfl (by decide) inX9 wm_3_141) ?_
  refine And.intro (okIconst dX9_thin_6 rfl (by first | rfl | decide)) ?_
  refine And.intro (okIaldN dX9_thin_7 rfl) ?_
  refine And.intro (okCallV (y := yX9_takeFrom) (T := TX9) (oCallZ_is _ _ _) dX9_thin_8 rfl (ok_F_X9_takeFrom l) rc_F_X9_takeFrom rfl wm_4_21 wm_4_23 wp_21 wm_1_10 wm_4_24 pl_X9_takeFrom (by decide)) ?_
  refine And.intro (okAload_n dX9_thin_11 rfl rfl) ?_
  refine And.intro (okGet (C := RX9) (T := TX9) (N := 22) dX9_thin_12 rfl rfl (by decide) inX9 wm_3_141) ?_
  refine And.intro (okBipush dX9_thin_15 rfl (by first | rfl | decide)) ?_
  refine And.intro (okIaldN dX9_thin_17 rfl) ?_
  refine And.intro (okAload_n dX9_thin_18 rfl rfl) ?_
  refine And.intro (okGet (C := RX9) (T := TX9) (N := 22) dX9_thin_19 rfl rfl (by decide) inX9 wm_3_150) ?_
  refine And.intro (okAload_n dX9_thin_22 rfl rfl) ?_
  refine And.intro (okGet (C := RX9) (T := TX9) (N := 22) dX9_thin_23 rfl rfl (by decide) inX9 wm_3_151) ?_
  refine And.intro (okAdd dX9_thin_26 rfl) ?_
  refine And.intro (okMul dX9_thin_27 rfl) ?_
  refine And.intro (okSipush dX9_thin_28 rfl (by first | rfl | decide)) ?_
  refine And.intro (okDivL dX9_thin_31 rfl) ?_
  refine And.intro (okIstore_n dX9_thin_32 rfl rfl (by decide)) ?_
  refine And.intro (okAload_n dX9_thin_33 rfl rfl) ?_
  refine And.intro (okIconst dX9_thin_34 rfl (by first | rfl | decide)) ?_
  refine And.intro (okAload_n dX9_thin_35 rfl rfl) ?_
  refine And.intro (okGet (C := RX9) (T := TX9) (N := 22) dX9_thin_36 rfl rfl (by decide) inX9 wm_3_150) ?_
  refine And.intro (okAload_n dX9_thin_39 rfl rfl) ?_
  refine And.intro (okGet (C := RX9) (T := TX9) (N := 22) dX9_thin_40 rfl rfl (by decide) inX9 wm_3_151) ?_
  refine And.intro (okIload_n dX9_thin_43 rfl rfl) ?_
  refine And.intro (okAdd dX9_thin_44 rfl) ?_
  refine And.intro (okCallV (y := yX9_fillInto) (T := TX9) (oCallZ_is _ _ _) dX9_thin_45 rfl (ok_F_X9_fillInto l) rc_F_X9_fillInto rfl wm_4_10 wm_4_12 wp_19 wm_1_10 wm_4_13 pl_X9_fillInto (by decide)) ?_
  refine And.intro (okIstore_n dX9_thin_48 rfl rfl (by decide)) ?_
  refine And.intro (okVret dX9_thin_49 rfl) ?_
  exact trivial
def G_X9_thin : pG := fun args w => match args with
  | [.ref 0] => unM w (fun m => some (none, mdl (thinM m)))
  | _ => none
set_option maxHeartbeats 400000 in
set_option maxRecDepth 100000 in
theorem run_X9_thin (rg : pRg) (m : pLV)   : ∃ fu, ex k_X9_thin fu 0 [(0, .ref 0)] [] (mdl m) rg = some (none, mdl (thinM m), rg) := by
  refine ⟨60, ?_⟩
  conv => lhs; whnf
  refine (callK_v (cl_X9_takeFrom2 m (m 1 2) rg) rfl).trans ?_
  unfold thinM
  generalize takeM 2 (NM m) (m 1 2) = x
  revert x; refine id ?_; intro x
  conv => lhs; whnf
  refine (callK_r (cl_X9_fillInto3 x (x 0 9) (x 0 10 + x 1 13 * (x 0 9 + x 0 10) / 1000) rg) rfl).trans ?_
  rfl
theorem ct_X9_thin (l : Launch) : ∀ args0 w0 v0 w1 rg, G_X9_thin args0 w0 = some (v0, w1) → pCT l yX9_thin (pWs yX9_thin cX9_thin 3 (none)) rm_X9_thin args0 w0 rg (v0, w1, rg) := by
  intro args0 w0 v0 w1 rg h
  unfold G_X9_thin at h
  split at h
  next  =>
    obtain ⟨m, hw, h2⟩ := unM_some h
    clear h
    subst hw
    cases h2
    exact met_of_exM (by decide) (ok_k_X9_thin l) rfl (run_X9_thin rg m  ) (Nat.le_of_ble_eq_true rfl) rfl rfl
  next => cases h
def F_X9_thin : pF := faN G_X9_thin
theorem ok_F_X9_thin (l : Launch) : pFOK l yX9_thin (pWs yX9_thin cX9_thin 3 (none)) rm_X9_thin F_X9_thin := pFOK_fa (fun a b c d rg h => ct_X9_thin l a b c d rg h)
theorem rc_F_X9_thin : pRcv 9 F_X9_thin := pRcv_fa (fun a b c d h => by
  unfold G_X9_thin at h
  split at h
  next =>
    obtain ⟨m, rfl, h⟩ := unM_some h
    exact ⟨_, _, _, rfl, rfl⟩
  next => cases h)
theorem cl_X9_thin (m : pLV)  (rg : pRg) : F_X9_thin [.ref 0] (mdl m) rg = some (none, mdl (thinM (NM m)), rg) := rfl
end
