noncomputable section
def teaR (m : pLV) (t : Int32) : Int32 := if inI t 1 50 = 0 then -1 else bkM (NM (rememM (NM m))) t 1 11
def teaM (m : pLV) (t : Int32) : pLV := if inI t 1 50 = 0 then m else bkM (NM (rememM (NM m))) t
theorem dX9_tear_0 : decode cX9_tear 0 = .ok (.iload_n 1, 1) := by decide +kernel
theorem dX9_tear_1 : decode cX9_tear 1 = .ok (.iconst 1, 1) := by decide +kernel
theorem dX9_tear_2 : decode cX9_tear 2 = .ok (.bipush 50, 2) := by decide +kernel
theorem dX9_tear_4 : decode cX9_tear 4 = .ok (.invokestatic 41, 3) := by decide +kernel
theorem dX9_tear_7 : decode cX9_tear 7 = .ok (.ifCond .ne 5, 3) := by decide +kernel
theorem dX9_tear_10 : decode cX9_tear 10 = .ok (.iconst (-1), 1) := by decide +kernel
theorem dX9_tear_11 : decode cX9_tear 11 = .ok (.ireturn, 1) := by decide +kernel
theorem dX9_tear_12 : decode cX9_tear 12 = .ok (.aload_n 0, 1) := by decide +kernel
theorem dX9_tear_13 : decode cX9_tear 13 = .ok (.invokevirtual 141, 3) := by decide +kernel
theorem dX9_tear_16 : decode cX9_tear 16 = .ok (.aload_n 0, 1) := by decide +kernel
theorem dX9_tear_17 : decode cX9_tear 17 = .ok (.iload_n 1, 1) := by decide +kernel
theorem dX9_tear_18 : decode cX9_tear 18 = .ok (.invokevirtual 66, 3) := by decide +kernel
theorem dX9_tear_21 : decode cX9_tear 21 = .ok (.aload_n 0, 1) := by decide +kernel
theorem dX9_tear_22 : decode cX9_tear 22 = .ok (.getfield 7, 3) := by decide +kernel
theorem dX9_tear_25 : decode cX9_tear 25 = .ok (.bipush 11, 2) := by decide +kernel
theorem dX9_tear_27 : decode cX9_tear 27 = .ok (.iaload, 1) := by decide +kernel
theorem dX9_tear_28 : decode cX9_tear 28 = .ok (.ireturn, 1) := by decide +kernel
def k_X9_tear : List pEn := [oIload 1, oConst (1), oConst (50), oCall 3 F_X9_isIn, oIfne 7, oConst (-1), oIret, oAload 0, oCallZ 1 F_X9_remember, oAload 0, oIload 1, oCallZ 2 F_X9_breakSheet, oAload 0, oGet 9 0, oConst (11), oIaldN 11, oIret]
def pc_X9_tear (i : Nat) : Nat := ([0, 1, 2, 4, 7, 10, 11, 12, 13, 16, 17, 18, 21, 22, 25, 27, 28] : List Nat).getD i 0
abbrev rm_X9_tear : Room := { frames := 1, cells := 0, slots := 0, locals := 22 }
theorem pl_X9_tear : pPlain yX9_tear 1 := by decide +kernel
set_option maxRecDepth 100000 in
set_option maxHeartbeats 4000000 in
theorem ok_k_X9_tear (l : Launch) : ∀ (i : Nat) (en : pEn), k_X9_tear[i]? = some en → EOK l cX9_tear yX9_tear.cls 2 ((some FieldType.int)) rm_X9_tear 0 pc_X9_tear i en := by
  refine allOK_at ?_
  refine And.intro (okIload_n dX9_tear_0 rfl rfl) ?_
  refine And.intro (okIconst dX9_tear_1 rfl (by first | rfl | decide)) ?_
  refine And.intro (okBipush dX9_tear_2 rfl (by first | rfl | decide)) ?_
  refine And.intro (okCallS (y := yX9_isIn) (oCall_is _ _ _) dX9_tear_4 rfl (ok_F_X9_isIn l) wm_3_223 wm_3_224 wm_1_10 wm_3_225 pl_X9_isIn (by decide)) ?_
  refine And.intro (okIfne dX9_tear_7 rfl (by rfl)) ?_
  refine And.intro (okIconst dX9_tear_10 rfl (by first | rfl | decide)) ?_
  refine And.intro (okIret dX9_tear_11 rfl) ?_
  refine And.intro (okAload_n dX9_tear_12 rfl rfl) ?_
  refine And.intro (okCallV (y := yX9_remember) (T := TX9) (oCallZ_is _ _ _) dX9_tear_13 rfl (ok_F_X9_remember l) rc_F_X9_remember rfl wm_3_212 wm_3_214 wp_16 wm_1_10 wm_3_215 pl_X9_remember (by decide)) ?_
  refine And.intro (okAload_n dX9_tear_16 rfl rfl) ?_
  refine And.intro (okIload_n dX9_tear_17 rfl rfl) ?_
  refine And.intro (okCallV (y := yX9_breakSheet) (T := TX9) (oCallZ_is _ _ _) dX9_tear_18 rfl (ok_F_X9_breakSheet l) rc_F_X9_breakSheet rfl wm_3_230 wm_3_232 wp_17 wm_1_10 wm_3_233 pl_X9_breakSheet (by decide)) ?_
  refine And.intro (okAload_n dX9_tear_21 rfl rfl) ?_
  refine And.intro (okGet (C := RX9) (T := TX9) (N := 22) dX9_tear_22 rfl rfl (by decide) inX9 wm_3_141) ?_
  refine And.intro (okBipush dX9_tear_25 rfl (by first | rfl | decide)) ?_
  refine And.intro (okIaldN dX9_tear_27 rfl) ?_
  refine And.intro (okIret dX9_tear_28 rfl) ?_
  exact trivial
def G_X9_tear : pG := fun args w => match args with
  | [.ref 0, .int t] => unM w (fun m => pif (pOK m) (some (some (.int (teaR m t)), mdl (teaM m t))) none)
  | _ => none
set_option maxHeartbeats 400000 in
set_option maxRecDepth 100000 in
theorem run_X9_tear (rg : pRg) (m : pLV) (t : Int32) (hc : pOK m) : ∃ fu, ex k_X9_tear fu 0 [(0, .ref 0), (1, .int t)] [] (mdl m) rg = some (some (.int (teaR m t)), mdl (teaM m t), rg) := by
  refine ⟨60, ?_⟩
  conv => lhs; whnf
  refine pif_c (fun h => ?_) (fun h => ?_)
  · rw [show teaR m t = _ from if_pos h, show teaM m t = _ from if_pos h] <;> rfl
  · rw [show teaR m t = _ from if_neg h, show teaM m t = _ from if_neg h]
    conv => lhs; whnf
    refine (callK_v (cl_X9_remember m rg hc) (by rfl)).trans ?_
    generalize rememM (NM m) = x
    revert x; refine id ?_; intro x
    conv => lhs; whnf
    refine (callK_v (cl_X9_breakSheet x t rg) (by rfl)).trans ?_
    generalize bkM (NM x) t = y
    revert y; refine id ?_; intro y
    rfl
theorem ct_X9_tear (l : Launch) : ∀ args0 w0 v0 w1 rg, G_X9_tear args0 w0 = some (v0, w1) → pCT l yX9_tear (pWs yX9_tear cX9_tear 2 ((some FieldType.int))) rm_X9_tear args0 w0 rg (v0, w1, rg) := by
  intro args0 w0 v0 w1 rg h
  unfold G_X9_tear at h
  split at h
  next t =>
    obtain ⟨m, hw, h2⟩ := unM_some h
    clear h
    subst hw
    by_cases hc : pOK m
    · have h2 := (pif_t hc).symm.trans h2
      cases h2
      exact met_of_exM (by decide) (ok_k_X9_tear l) rfl (run_X9_tear rg m t hc) (Nat.le_of_ble_eq_true rfl) rfl rfl
    · have h2 := (pif_f hc).symm.trans h2
      cases h2
  next => cases h
def F_X9_tear : pF := faN G_X9_tear
theorem ok_F_X9_tear (l : Launch) : pFOK l yX9_tear (pWs yX9_tear cX9_tear 2 ((some FieldType.int))) rm_X9_tear F_X9_tear := pFOK_fa (fun a b c d rg h => ct_X9_tear l a b c d rg h)
theorem rc_F_X9_tear : pRcv 9 F_X9_tear := pRcv_fa (fun a b c d h => by
  unfold G_X9_tear at h
  split at h
  next =>
    obtain ⟨m, rfl, h⟩ := unM_some h
    exact ⟨_, _, _, rfl, rfl⟩
  next => cases h)
theorem cl_X9_tear (m : pLV) (t : Int32) (rg : pRg) (hc : pOK (NM m)) : F_X9_tear [.ref 0, .int t] (mdl m) rg = some (some (.int (teaR (NM m) t)), mdl (teaM (NM m) t), rg) := by
  have h : G_X9_tear [.ref 0, .int t] (mdl m) = some (some (.int (teaR (NM m) t)), mdl (teaM (NM m) t)) := pif_t hc
  unfold F_X9_tear faN
  rw [h]
end
