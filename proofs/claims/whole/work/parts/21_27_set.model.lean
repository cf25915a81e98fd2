noncomputable section
theorem isOf_b {s v : Int32} (h : ¬ isOfI s v = 0) : ¬ (s < 0 ∨ 110 ≤ s.toNatClampNeg) := by
  by_cases h0 : s = 0
  · subst h0; decide
  by_cases h1 : s = 1
  · subst h1; decide
  by_cases h2 : s = 2
  · subst h2; decide
  by_cases h3 : s = 3
  · subst h3; decide
  by_cases h4 : s = 4
  · subst h4; decide
  by_cases h5 : s = 5
  · subst h5; decide
  by_cases h6 : s = 6
  · subst h6; decide
  by_cases h7 : s = 7
  · subst h7; decide
  by_cases h8 : s = 8
  · subst h8; decide
  exact absurd ((if_neg h0).trans ((if_neg h1).trans ((if_neg h2).trans ((if_neg h3).trans ((if_neg h4).trans ((if_neg h5).trans ((if_neg h6).trans ((if_neg h7).trans (if_neg h8))))))))) h
def setR (m : pLV) (s v : Int32) : Int32 := if isOfI s v = 0 then -1 else rememM (NM m) 1 s.toNatClampNeg
def set1 (x : pLV) (s v : Int32) : pLV := vA x 1 (upd (x 1) s.toNatClampNeg v)
def setM (m : pLV) (s v : Int32) : pLV := if isOfI s v = 0 then m else set1 (rememM (NM m)) s v
theorem dX9_set_0 : decode cX9_set 0 = .ok (.iload_n 1, 1) := by decide +kernel
theorem dX9_set_1 : decode cX9_set 1 = .ok (.iload_n 2, 1) := by decide +kernel
theorem dX9_set_2 : decode cX9_set 2 = .ok (.invokestatic 144, 3) := by decide +kernel
theorem dX9_set_5 : decode cX9_set 5 = .ok (.ifCond .ne 5, 3) := by decide +kernel
theorem dX9_set_8 : decode cX9_set 8 = .ok (.iconst (-1), 1) := by decide +kernel
theorem dX9_set_9 : decode cX9_set 9 = .ok (.ireturn, 1) := by decide +kernel
theorem dX9_set_10 : decode cX9_set 10 = .ok (.aload_n 0, 1) := by decide +kernel
theorem dX9_set_11 : decode cX9_set 11 = .ok (.invokevirtual 141, 3) := by decide +kernel
theorem dX9_set_14 : decode cX9_set 14 = .ok (.aload_n 0, 1) := by decide +kernel
theorem dX9_set_15 : decode cX9_set 15 = .ok (.getfield 7, 3) := by decide +kernel
theorem dX9_set_18 : decode cX9_set 18 = .ok (.iload_n 1, 1) := by decide +kernel
theorem dX9_set_19 : decode cX9_set 19 = .ok (.iaload, 1) := by decide +kernel
theorem dX9_set_20 : decode cX9_set 20 = .ok (.istore_n 3, 1) := by decide +kernel
theorem dX9_set_21 : decode cX9_set 21 = .ok (.aload_n 0, 1) := by decide +kernel
theorem dX9_set_22 : decode cX9_set 22 = .ok (.getfield 7, 3) := by decide +kernel
theorem dX9_set_25 : decode cX9_set 25 = .ok (.iload_n 1, 1) := by decide +kernel
theorem dX9_set_26 : decode cX9_set 26 = .ok (.iload_n 2, 1) := by decide +kernel
theorem dX9_set_27 : decode cX9_set 27 = .ok (.iastore, 1) := by decide +kernel
theorem dX9_set_28 : decode cX9_set 28 = .ok (.iload_n 3, 1) := by decide +kernel
theorem dX9_set_29 : decode cX9_set 29 = .ok (.ireturn, 1) := by decide +kernel
def k_X9_set : List pEn := [oIload 1, oIload 2, oCall 2 F_X9_isOf, oIfne 6, oConst (-1), oIret, oAload 0, oCallZ 1 F_X9_remember, oAload 0, oGet 9 0, oIload 1, oIald, oIstore 3, oAload 0, oGet 9 0, oIload 1, oIload 2, oIast, oIload 3, oIret]
def pc_X9_set (i : Nat) : Nat := ([0, 1, 2, 5, 8, 9, 10, 11, 14, 15, 18, 19, 20, 21, 22, 25, 26, 27, 28, 29] : List Nat).getD i 0
abbrev rm_X9_set : Room := { frames := 2, cells := 0, slots := 0, locals := 43 }
theorem pl_X9_set : pPlain yX9_set 2 := by decide +kernel
set_option maxRecDepth 100000 in
set_option maxHeartbeats 4000000 in
theorem ok_k_X9_set (l : Launch) : ∀ (i : Nat) (en : pEn), k_X9_set[i]? = some en → EOK l cX9_set yX9_set.cls 4 ((some FieldType.int)) rm_X9_set 0 pc_X9_set i en := by
  refine allOK_at ?_
  refine And.intro (okIload_n dX9_set_0 rfl rfl) ?_
  refine And.intro (okIload_n dX9_set_1 rfl rfl) ?_
  refine And.intro (okCallS (y := yX9_isOf) (oCall_is _ _ _) dX9_set_2 rfl (ok_F_X9_isOf l) wm_3_220 wm_3_221 wm_1_10 wm_3_222 pl_X9_isOf (by decide)) ?_
  refine And.intro (okIfne dX9_set_5 rfl (by rfl)) ?_
  refine And.intro (okIconst dX9_set_8 rfl (by first | rfl | decide)) ?_
  refine And.intro (okIret dX9_set_9 rfl) ?_
  refine And.intro (okAload_n dX9_set_10 rfl rfl) ?_
  refine And.intro (okCallV (y := yX9_remember) (T := TX9) (oCallZ_is _ _ _) dX9_set_11 rfl (ok_F_X9_remember l) rc_F_X9_remember rfl wm_3_212 wm_3_214 wp_16 wm_1_10 wm_3_215 pl_X9_remember (by decide)) ?_
  refine And.intro (okAload_n dX9_set_14 rfl rfl) ?_
  refine And.intro (okGet (C := RX9) (T := TX9) (N := 22) dX9_set_15 rfl rfl (by decide) inX9 wm_3_141) ?_
  refine And.intro (okIload_n dX9_set_18 rfl rfl) ?_
  refine And.intro (okIald dX9_set_19 rfl) ?_
  refine And.intro (okIstore_n dX9_set_20 rfl rfl (by decide)) ?_
  refine And.intro (okAload_n dX9_set_21 rfl rfl) ?_
  refine And.intro (okGet (C := RX9) (T := TX9) (N := 22) dX9_set_22 rfl rfl (by decide) inX9 wm_3_141) ?_
  refine And.intro (okIload_n dX9_set_25 rfl rfl) ?_
  refine And.intro (okIload_n dX9_set_26 rfl rfl) ?_
  refine And.intro (okIast dX9_set_27 rfl) ?_
  refine And.intro (okIload_n dX9_set_28 rfl rfl) ?_
  refine And.intro (okIret dX9_set_29 rfl) ?_
  exact trivial
def G_X9_set : pG := fun args w => match args with
  | [.ref 0, .int s, .int v] => unM w (fun m => pif (pOK m) (some (some (.int (setR m s v)), mdl (setM m s v))) none)
  | _ => none
set_option maxHeartbeats 400000 in
set_option maxRecDepth 100000 in
theorem run_X9_set (rg : pRg) (m : pLV) (s v : Int32) (hc : pOK m) : ∃ fu, ex k_X9_set fu 0 [(0, .ref 0), (1, .int s), (2, .int v)] [] (mdl m) rg = some (some (.int (setR m s v)), mdl (setM m s v), rg) := by
  refine ⟨60, ?_⟩
  conv => lhs; whnf
  refine pif_c (fun h => ?_) (fun h => ?_)
  · rw [show setR m s v = _ from if_pos h, show setM m s v = _ from if_pos h] <;> rfl
  · rw [show setR m s v = _ from if_neg h, show setM m s v = _ from if_neg h]
    conv => lhs; whnf
    refine (callK_v (cl_X9_remember m rg hc) (by rfl)).trans ?_
    generalize rememM (NM m) = x
    revert x; refine id ?_; intro x
    conv => lhs; whnf
    refine (pif_f (isOf_b h)).trans ?_
    conv => lhs; whnf
    refine (pif_f (isOf_b h)).trans ?_
    rfl
theorem ct_X9_set (l : Launch) : ∀ args0 w0 v0 w1 rg, G_X9_set args0 w0 = some (v0, w1) → pCT l yX9_set (pWs yX9_set cX9_set 4 ((some FieldType.int))) rm_X9_set args0 w0 rg (v0, w1, rg) := by
  intro args0 w0 v0 w1 rg h
  unfold G_X9_set at h
  split at h
  next s v =>
    obtain ⟨m, hw, h2⟩ := unM_some h
    clear h
    subst hw
    by_cases hc : pOK m
    · have h2 := (pif_t hc).symm.trans h2
      cases h2
      exact met_of_exM (by decide) (ok_k_X9_set l) rfl (run_X9_set rg m s v hc) (Nat.le_of_ble_eq_true rfl) rfl rfl
    · have h2 := (pif_f hc).symm.trans h2
      cases h2
  next => cases h
def F_X9_set : pF := faN G_X9_set
theorem ok_F_X9_set (l : Launch) : pFOK l yX9_set (pWs yX9_set cX9_set 4 ((some FieldType.int))) rm_X9_set F_X9_set := pFOK_fa (fun a b c d rg h => ct_X9_set l a b c d rg h)
theorem rc_F_X9_set : pRcv 9 F_X9_set := pRcv_fa (fun a b c d h => by
  unfold G_X9_set at h
  split at h
  next =>
    obtain ⟨m, rfl, h⟩ := unM_some h
    exact ⟨_, _, _, rfl, rfl⟩
  next => cases h)
theorem cl_X9_set (m : pLV) (s v : Int32) (rg : pRg) (hc : pOK (NM m)) : F_X9_set [.ref 0, .int s, .int v] (mdl m) rg = some (some (.int (setR (NM m) s v)), mdl (setM (NM m) s v), rg) := by
  have h : G_X9_set [.ref 0, .int s, .int v] (mdl m) = some (some (.int (setR (NM m) s v)), mdl (setM (NM m) s v)) := pif_t hc
  unfold F_X9_set faN
  rw [h]
end
