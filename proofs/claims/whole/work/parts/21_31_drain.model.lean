noncomputable section
def dr1 (y : pLV) : pLV := vA y 1 (upd (y 1) 33 (y 1 33 + y 0 9))
def draR (m : pLV) (c t : Int32) : Int32 := if inI c 0 3 = 0 then -1 else if inI t 1 50000 = 0 then -1 else takeM c.toNatClampNeg (NM (rememM (NM m))) t 0 9
def draM (m : pLV) (c t : Int32) : pLV := if inI c 0 3 = 0 then m else if inI t 1 50000 = 0 then m else dr1 (takeM c.toNatClampNeg (NM (rememM (NM m))) t)
theorem dX9_drain_0 : decode cX9_drain 0 = .ok (.iload_n 1, 1) := by decide +kernel
theorem dX9_drain_1 : decode cX9_drain 1 = .ok (.invokestatic 148, 3) := by decide +kernel
theorem dX9_drain_4 : decode cX9_drain 4 = .ok (.ifCond .eq 13, 3) := by decide +kernel
theorem dX9_drain_7 : decode cX9_drain 7 = .ok (.iload_n 2, 1) := by decide +kernel
theorem dX9_drain_8 : decode cX9_drain 8 = .ok (.iconst 1, 1) := by decide +kernel
theorem dX9_drain_9 : decode cX9_drain 9 = .ok (.ldc 152, 2) := by decide +kernel
theorem dX9_drain_11 : decode cX9_drain 11 = .ok (.invokestatic 41, 3) := by decide +kernel
theorem dX9_drain_14 : decode cX9_drain 14 = .ok (.ifCond .ne 5, 3) := by decide +kernel
theorem dX9_drain_17 : decode cX9_drain 17 = .ok (.iconst (-1), 1) := by decide +kernel
theorem dX9_drain_18 : decode cX9_drain 18 = .ok (.ireturn, 1) := by decide +kernel
theorem dX9_drain_19 : decode cX9_drain 19 = .ok (.aload_n 0, 1) := by decide +kernel
theorem dX9_drain_20 : decode cX9_drain 20 = .ok (.invokevirtual 141, 3) := by decide +kernel
theorem dX9_drain_23 : decode cX9_drain 23 = .ok (.aload_n 0, 1) := by decide +kernel
theorem dX9_drain_24 : decode cX9_drain 24 = .ok (.iload_n 1, 1) := by decide +kernel
theorem dX9_drain_25 : decode cX9_drain 25 = .ok (.iload_n 2, 1) := by decide +kernel
theorem dX9_drain_26 : decode cX9_drain 26 = .ok (.invokevirtual 62, 3) := by decide +kernel
theorem dX9_drain_29 : decode cX9_drain 29 = .ok (.aload_n 0, 1) := by decide +kernel
theorem dX9_drain_30 : decode cX9_drain 30 = .ok (.getfield 7, 3) := by decide +kernel
theorem dX9_drain_33 : decode cX9_drain 33 = .ok (.bipush 33, 2) := by decide +kernel
theorem dX9_drain_35 : decode cX9_drain 35 = .ok (.dup2, 1) := by decide +kernel
theorem dX9_drain_36 : decode cX9_drain 36 = .ok (.iaload, 1) := by decide +kernel
theorem dX9_drain_37 : decode cX9_drain 37 = .ok (.aload_n 0, 1) := by decide +kernel
theorem dX9_drain_38 : decode cX9_drain 38 = .ok (.getfield 49, 3) := by decide +kernel
theorem dX9_drain_41 : decode cX9_drain 41 = .ok (.iadd, 1) := by decide +kernel
theorem dX9_drain_42 : decode cX9_drain 42 = .ok (.iastore, 1) := by decide +kernel
theorem dX9_drain_43 : decode cX9_drain 43 = .ok (.aload_n 0, 1) := by decide +kernel
theorem dX9_drain_44 : decode cX9_drain 44 = .ok (.getfield 49, 3) := by decide +kernel
theorem dX9_drain_47 : decode cX9_drain 47 = .ok (.ireturn, 1) := by decide +kernel
def k_X9_drain : List pEn := [oIload 1, oCall 1 F_X9_isChest, oIfeq 8, oIload 2, oConst (1), oConst (50000), oCall 3 F_X9_isIn, oIfne 10, oConst (-1), oIret, oAload 0, oCallZ 1 F_X9_remember, oAload 0, oIload 1, oIload 2, oCallZ 3 F_X9_takeFrom, oAload 0, oGet 9 0, oConst (33), oDup2, oIaldN 33, oAload 0, oGet 9 9, oAdd, oIastN 33, oAload 0, oGet 9 9, oIret]
def pc_X9_drain (i : Nat) : Nat := ([0, 1, 4, 7, 8, 9, 11, 14, 17, 18, 19, 20, 23, 24, 25, 26, 29, 30, 33, 35, 36, 37, 38, 41, 42, 43, 44, 47] : List Nat).getD i 0
abbrev rm_X9_drain : Room := { frames := 2, cells := 0, slots := 0, locals := 45 }
theorem pl_X9_drain : pPlain yX9_drain 2 := by decide +kernel
set_option maxRecDepth 100000 in
set_option maxHeartbeats 4000000 in
theorem ok_k_X9_drain (l : Launch) : ∀ (i : Nat) (en : pEn), k_X9_drain[i]? = some en → EOK l cX9_drain yX9_drain.cls 3 ((some FieldType.int)) rm_X9_drain 0 pc_X9_drain i en := by
  refine allOK_at ?_
  refine And.intro (okIload_n dX9_drain_0 rfl rfl) ?_
  refine And.intro (okCallS (y := yX9_isChest) (oCall_is _ _ _) dX9_drain_1 rfl (ok_F_X9_isChest l) wm_4_6 wm_4_7 wm_1_10 wm_4_8 pl_X9_isChest (by decide)) ?_
  refine And.intro (okIfeq dX9_drain_4 rfl (by rfl)) ?_
  refine And.intro (okIload_n dX9_drain_7 rfl rfl) ?_
  refine And.intro (okIconst dX9_drain_8 rfl (by first | rfl | decide)) ?_
  refine And.intro (okLdc dX9_drain_9 rfl wm_4_9) ?_
  refine And.intro (okCallS (y := yX9_isIn) (oCall_is _ _ _) dX9_drain_11 rfl (ok_F_X9_isIn l) wm_3_223 wm_3_224 wm_1_10 wm_3_225 pl_X9_isIn (by decide)) ?_
  refine And.intro (okIfne dX9_drain_14 rfl (by rfl)) ?_
  refine And.intro (okIconst dX9_drain_17 rfl (by first | rfl | decide)) ?_
  refine And.intro (okIret dX9_drain_18 rfl) ?_
  refine And.intro (okAload_n dX9_drain_19 rfl rfl) ?_
  refine And.intro (okCallV (y := yX9_remember) (T := TX9) (oCallZ_is _ _ _) dX9_drain_20 rfl (ok_F_X9_remember l) rc_F_X9_remember rfl wm_3_212 wm_3_214 wp_16 wm_1_10 wm_3_215 pl_X9_remember (by decide)) ?_
  refine And.intro (okAload_n dX9_drain_23 rfl rfl) ?_
  refine And.intro (okIload_n dX9_drain_24 rfl rfl) ?_
  refine And.intro (okIload_n dX9_drain_25 rfl rfl) ?_
  refine And.intro (okCallV (y := yX9_takeFrom) (T := TX9) (oCallZ_is _ _ _) dX9_drain_26 rfl (ok_F_X9_takeFrom l) rc_F_X9_takeFrom rfl wm_4_21 wm_4_23 wp_21 wm_1_10 wm_4_24 pl_X9_takeFrom (by decide)) ?_
  refine And.intro (okAload_n dX9_drain_29 rfl rfl) ?_
  refine And.intro (okGet (C := RX9) (T := TX9) (N := 22) dX9_drain_30 rfl rfl (by decide) inX9 wm_3_141) ?_
  refine And.intro (okBipush dX9_drain_33 rfl (by first | rfl | decide)) ?_
  refine And.intro (okDup2 dX9_drain_35 rfl) ?_
  refine And.intro (okIaldN dX9_drain_36 rfl) ?_
  refine And.intro (okAload_n dX9_drain_37 rfl rfl) ?_
  refine And.intro (okGet (C := RX9) (T := TX9) (N := 22) dX9_drain_38 rfl rfl (by decide) inX9 wm_3_150) ?_
  refine And.intro (okAdd dX9_drain_41 rfl) ?_
  refine And.intro (okIastN dX9_drain_42 rfl) ?_
  refine And.intro (okAload_n dX9_drain_43 rfl rfl) ?_
  refine And.intro (okGet (C := RX9) (T := TX9) (N := 22) dX9_drain_44 rfl rfl (by decide) inX9 wm_3_150) ?_
  refine And.intro (okIret dX9_drain_47 rfl) ?_
  exact trivial
def G_X9_drain : pG := fun args w => match args with
  | [.ref 0, .int c, .int t] => unM w (fun m => pif (pOK m) (some (some (.int (draR m c t)), mdl (draM m c t))) none)
  | _ => none
set_option maxHeartbeats 400000 in
set_option maxRecDepth 100000 in
theorem run_X9_drain (rg : pRg) (m : pLV) (c t : Int32) (hc : pOK m) : ∃ fu, ex k_X9_drain fu 0 [(0, .ref 0), (1, .int c), (2, .int t)] [] (mdl m) rg = some (some (.int (draR m c t)), mdl (draM m c t), rg) := by
  refine ⟨60, ?_⟩
  conv => lhs; whnf
  refine pif_c (fun h0 => ?_) (fun h0 => ?_)
  · rw [show draR m c t = _ from if_pos h0, show draM m c t = _ from if_pos h0] <;> rfl
  · conv => lhs; whnf
    refine pif_c (fun h1 => ?_) (fun h1 => ?_)
    · rw [show draR m c t = _ from (if_neg h0).trans (if_pos h1), show draM m c t = _ from (if_neg h0).trans (if_pos h1)] <;> rfl
    · rw [show draR m c t = _ from (if_neg h0).trans (if_neg h1), show draM m c t = _ from (if_neg h0).trans (if_neg h1)]
      conv => lhs; whnf
      refine (callK_v (cl_X9_remember m rg hc) (by rfl)).trans ?_
      generalize rememM (NM m) = x
      revert x; refine id ?_; intro x
      rcases inI_03 h0 with rfl | rfl | rfl | rfl
      · rw [show (0 : Int32).toNatClampNeg = 0 from rfl]
        conv => lhs; whnf
        refine (callK_v (cl_X9_takeFrom0 x t rg) (by rfl)).trans ?_
        generalize takeM 0 (NM x) t = y
        revert y; refine id ?_; intro y
        rfl
      · rw [show (1 : Int32).toNatClampNeg = 1 from rfl]
        conv => lhs; whnf
        refine (callK_v (cl_X9_takeFrom1 x t rg) (by rfl)).trans ?_
        generalize takeM 1 (NM x) t = y
        revert y; refine id ?_; intro y
        rfl
      · rw [show (2 : Int32).toNatClampNeg = 2 from rfl]
        conv => lhs; whnf
        refine (callK_v (cl_X9_takeFrom2 x t rg) (by rfl)).trans ?_
        generalize takeM 2 (NM x) t = y
        revert y; refine id ?_; intro y
        rfl
      · rw [show (3 : Int32).toNatClampNeg = 3 from rfl]
        conv => lhs; whnf
        refine (callK_v (cl_X9_takeFrom3 x t rg) (by rfl)).trans ?_
        generalize takeM 3 (NM x) t = y
        revert y; refine id ?_; intro y
        rfl
theorem ct_X9_drain (l : Launch) : ∀ args0 w0 v0 w1 rg, G_X9_drain args0 w0 = some (v0, w1) → pCT l yX9_drain (pWs yX9_drain cX9_drain 3 ((some FieldType.int))) rm_X9_drain args0 w0 rg (v0, w1, rg) := by
  intro args0 w0 v0 w1 rg h
  unfold G_X9_drain at h
  split at h
  next c t =>
    obtain ⟨m, hw, h2⟩ := unM_some h
    clear h
    subst hw
    by_cases hc : pOK m
    · have h2 := (pif_t hc).symm.trans h2
      cases h2
      exact met_of_exM (by decide) (ok_k_X9_drain l) rfl (run_X9_drain rg m c t hc) (Nat.le_of_ble_eq_true rfl) rfl rfl
    · have h2 := (pif_f hc).symm.trans h2
      cases h2
  next => cases h
def F_X9_drain : pF := faN G_X9_drain
theorem ok_F_X9_drain (l : Launch) : pFOK l yX9_drain (pWs yX9_drain cX9_drain 3 ((some FieldType.int))) rm_X9_drain F_X9_drain := pFOK_fa (fun a b c d rg h => ct_X9_drain l a b c d rg h)
theorem rc_F_X9_drain : pRcv 9 F_X9_drain := pRcv_fa (fun a b c d h => by
  unfold G_X9_drain at h
  split at h
  next =>
    obtain ⟨m, rfl, h⟩ := unM_some h
    exact ⟨_, _, _, rfl, rfl⟩
  next => cases h)
theorem cl_X9_drain (m : pLV) (c t : Int32) (rg : pRg) (hc : pOK (NM m)) : F_X9_drain [.ref 0, .int c, .int t] (mdl m) rg = some (some (.int (draR (NM m) c t)), mdl (draM (NM m) c t), rg) := by
  have h : G_X9_drain [.ref 0, .int c, .int t] (mdl m) = some (some (.int (draR (NM m) c t)), mdl (draM (NM m) c t)) := pif_t hc
  unfold F_X9_drain faN
  rw [h]
end
