noncomputable section
def chgR (m : pLV) (g : Int32) : Int32 := if inI g 0 3 = 0 then -1 else rememM (NM m) 1 10
def chgM (m : pLV) (g : Int32) : pLV := if inI g 0 3 = 0 then m else cgM (NM (rememM (NM m))) g
theorem dX9_change_0 : decode cX9_change 0 = .ok (.iload_n 1, 1) := by decide +kernel
theorem dX9_change_1 : decode cX9_change 1 = .ok (.iconst 0, 1) := by decide +kernel
theorem dX9_change_2 : decode cX9_change 2 = .ok (.iconst 3, 1) := by decide +kernel
theorem dX9_change_3 : decode cX9_change 3 = .ok (.invokestatic 41, 3) := by decide +kernel
theorem dX9_change_6 : decode cX9_change 6 = .ok (.ifCond .ne 5, 3) := by decide +kernel
theorem dX9_change_9 : decode cX9_change 9 = .ok (.iconst (-1), 1) := by decide +kernel
theorem dX9_change_10 : decode cX9_change 10 = .ok (.ireturn, 1) := by decide +kernel
theorem dX9_change_11 : decode cX9_change 11 = .ok (.aload_n 0, 1) := by decide +kernel
theorem dX9_change_12 : decode cX9_change 12 = .ok (.invokevirtual 141, 3) := by decide +kernel
theorem dX9_change_15 : decode cX9_change 15 = .ok (.aload_n 0, 1) := by decide +kernel
theorem dX9_change_16 : decode cX9_change 16 = .ok (.getfield 7, 3) := by decide +kernel
theorem dX9_change_19 : decode cX9_change 19 = .ok (.bipush 10, 2) := by decide +kernel
theorem dX9_change_21 : decode cX9_change 21 = .ok (.iaload, 1) := by decide +kernel
theorem dX9_change_22 : decode cX9_change 22 = .ok (.istore_n 2, 1) := by decide +kernel
theorem dX9_change_23 : decode cX9_change 23 = .ok (.aload_n 0, 1) := by decide +kernel
theorem dX9_change_24 : decode cX9_change 24 = .ok (.iload_n 1, 1) := by decide +kernel
theorem dX9_change_25 : decode cX9_change 25 = .ok (.invokevirtual 70, 3) := by decide +kernel
theorem dX9_change_28 : decode cX9_change 28 = .ok (.iload_n 2, 1) := by decide +kernel
theorem dX9_change_29 : decode cX9_change 29 = .ok (.ireturn, 1) := by decide +kernel
def k_X9_change : List pEn := [oIload 1, oConst (0), oConst (3), oCall 3 F_X9_isIn, oIfne 7, oConst (-1), oIret, oAload 0, oCallZ 1 F_X9_remember, oAload 0, oGet 9 0, oConst (10), oIaldN 10, oIstore 2, oAload 0, oIload 1, oCallZ 2 F_X9_changeGrade, oIload 2, oIret]
def pc_X9_change (i : Nat) : Nat := ([0, 1, 2, 3, 6, 9, 10, 11, 12, 15, 16, 19, 21, 22, 23, 24, 25, 28, 29] : List Nat).getD i 0
abbrev rm_X9_change : Room := { frames := 1, cells := 0, slots := 0, locals := 22 }
theorem pl_X9_change : pPlain yX9_change 1 := by decide +kernel
set_option maxRecDepth 100000 in
set_option maxHeartbeats 4000000 in
theorem ok_k_X9_change (l : Launch) : ∀ (i : Nat) (en : pEn), k_X9_change[i]? = some en → EOK l cX9_change yX9_change.cls 3 ((some FieldType.int)) rm_X9_change 0 pc_X9_change i en := by
  refine allOK_at ?_
  refine And.intro (okIload_n dX9_change_0 rfl rfl) ?_
  refine And.intro (okIconst dX9_change_1 rfl (by first | rfl | decide)) ?_
  refine And.intro (okIconst dX9_change_2 rfl (by first | rfl | decide)) ?_
  refine And.intro (okCallS (y := yX9_isIn) (oCall_is _ _ _) dX9_change_3 rfl (ok_F_X9_isIn l) wm_3_223 wm_3_224 wm_1_10 wm_3_225 pl_X9_isIn (by decide)) ?_
  refine And.intro (okIfne dX9_change_6 rfl (by rfl)) ?_
  refine And.intro (okIconst dX9_change_9 rfl (by first | rfl | decide)) ?_
  refine And.intro (okIret dX9_change_10 rfl) ?_
  refine And.intro (okAload_n dX9_change_11 rfl rfl) ?_
  refine And.intro (okCallV (y := yX9_remember) (T := TX9) (oCallZ_is _ _ _) dX9_change_12 rfl (ok_F_X9_remember l) rc_F_X9_remember rfl wm_3_212 wm_3_214 wp_16 wm_1_10 wm_3_215 pl_X9_remember (by decide)) ?_
  refine And.intro (okAload_n dX9_change_15 rfl rfl) ?_
  refine And.intro (okGet (C := RX9) (T := TX9) (N := 22) dX9_change_16 rfl rfl (by decide) inX9 wm_3_141) ?_
  refine And.intro (okBipush dX9_change_19 rfl (by first | rfl | decide)) ?_
  refine And.intro (okIaldN dX9_change_21 rfl) ?_
  refine And.intro (okIstore_n dX9_change_22 rfl rfl (by decide)) ?_
  refine And.intro (okAload_n dX9_change_23 rfl rfl) ?_
  refine And.intro (okIload_n dX9_change_24 rfl rfl) ?_
  refine And.intro (okCallV (y := yX9_changeGrade) (T := TX9) (oCallZ_is _ _ _) dX9_change_25 rfl (ok_F_X9_changeGrade l) rc_F_X9_changeGrade rfl wm_3_238 wm_4_0 wp_18 wm_1_10 wm_4_1 pl_X9_changeGrade (by decide)) ?_
  refine And.intro (okIload_n dX9_change_28 rfl rfl) ?_
  refine And.intro (okIret dX9_change_29 rfl) ?_
  exact trivial
def G_X9_change : pG := fun args w => match args with
  | [.ref 0, .int g] => unM w (fun m => pif (pOK m) (some (some (.int (chgR m g)), mdl (chgM m g))) none)
  | _ => none
set_option maxHeartbeats 400000 in
set_option maxRecDepth 100000 in
theorem run_X9_change (rg : pRg) (m : pLV) (g : Int32) (hc : pOK m) : ∃ fu, ex k_X9_change fu 0 [(0, .ref 0), (1, .int g)] [] (mdl m) rg = some (some (.int (chgR m g)), mdl (chgM m g), rg) := by
  refine ⟨60, ?_⟩
  conv => lhs; whnf
  refine pif_c (fun h => ?_) (fun h => ?_)
  · rw [show chgR m g = _ from if_pos h, show chgM m g = _ from if_pos h] <;> rfl
  · rw [show chgR m g = _ from if_neg h, show chgM m g = _ from if_neg h]
    conv => lhs; whnf
    refine (callK_v (cl_X9_remember m rg hc) (by rfl)).trans ?_
    generalize rememM (NM m) = x
    revert x; refine id ?_; intro x
    conv => lhs; whnf
    refine (callK_v (cl_X9_changeGrade x g rg) (by rfl)).trans ?_
    generalize cgM (NM x) g = y
    revert y; refine id ?_; intro y
    rfl
theorem ct_X9_change (l : Launch) : ∀ args0 w0 v0 w1 rg, G_X9_change args0 w0 = some (v0, w1) → pCT l yX9_change (pWs yX9_change cX9_change 3 ((some FieldType.int))) rm_X9_change args0 w0 rg (v0, w1, rg) := by
  intro args0 w0 v0 w1 rg h
  unfold G_X9_change at h
  split at h
  next g =>
    obtain ⟨m, hw, h2⟩ := unM_some h
    clear h
    subst hw
    by_cases hc : pOK m
    · have h2 := (pif_t hc).symm.trans h2
      cases h2
      exact met_of_exM (by decide) (ok_k_X9_change l) rfl (run_X9_change rg m g hc) (Nat.le_of_ble_eq_true rfl) rfl rfl
    · have h2 := (pif_f hc).symm.trans h2
      cases h2
  next => cases h
def F_X9_change : pF := faN G_X9_change
theorem ok_F_X9_change (l : Launch) : pFOK l yX9_change (pWs yX9_change cX9_change 3 ((some FieldType.int))) rm_X9_change F_X9_change := pFOK_fa (fun a b c d rg h => ct_X9_change l a b c d rg h)
theorem rc_F_X9_change : pRcv 9 F_X9_change := pRcv_fa (fun a b c d h => by
  unfold G_X9_change at h
  split at h
  next =>
    obtain ⟨m, rfl, h⟩ := unM_some h
    exact ⟨_, _, _, rfl, rfl⟩
  next => cases h)
theorem cl_X9_change (m : pLV) (g : Int32) (rg : pRg) (hc : pOK (NM m)) : F_X9_change [.ref 0, .int g] (mdl m) rg = some (some (.int (chgR (NM m) g)), mdl (chgM (NM m) g), rg) := by
  have h : G_X9_change [.ref 0, .int g] (mdl m) = some (some (.int (chgR (NM m) g)), mdl (chgM (NM m) g)) := pif_t hc
  unfold F_X9_change faN
  rw [h]
end
