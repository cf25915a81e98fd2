noncomputable section
def csM (n : Nat) (m : pLV) : Int32 := if sumM n m = 0 then 0 else m 1 (18 + 3 * n) * 1000 / sumM n m
theorem dX9_consistency_0 : decode cX9_consistency 0 = .ok (.aload_n 0, 1) := by decide +kernel
theorem dX9_consistency_1 : decode cX9_consistency 1 = .ok (.iload_n 1, 1) := by decide +kernel
theorem dX9_consistency_2 : decode cX9_consistency 2 = .ok (.invokevirtual 45, 3) := by decide +kernel
theorem dX9_consistency_5 : decode cX9_consistency 5 = .ok (.ifCond .ne 7, 3) := by decide +kernel
theorem dX9_consistency_8 : decode cX9_consistency 8 = .ok (.iconst 0, 1) := by decide +kernel
theorem dX9_consistency_9 : decode cX9_consistency 9 = .ok (.goto 24, 3) := by decide +kernel
theorem dX9_consistency_12 : decode cX9_consistency 12 = .ok (.aload_n 0, 1) := by decide +kernel
theorem dX9_consistency_13 : decode cX9_consistency 13 = .ok (.getfield 7, 3) := by decide +kernel
theorem dX9_consistency_16 : decode cX9_consistency 16 = .ok (.bipush 18, 2) := by decide +kernel
theorem dX9_consistency_18 : decode cX9_consistency 18 = .ok (.iconst 3, 1) := by decide +kernel
theorem dX9_consistency_19 : decode cX9_consistency 19 = .ok (.iload_n 1, 1) := by decide +kernel
theorem dX9_consistency_20 : decode cX9_consistency 20 = .ok (.imul, 1) := by decide +kernel
theorem dX9_consistency_21 : decode cX9_consistency 21 = .ok (.iadd, 1) := by decide +kernel
theorem dX9_consistency_22 : decode cX9_consistency 22 = .ok (.iaload, 1) := by decide +kernel
theorem dX9_consistency_23 : decode cX9_consistency 23 = .ok (.sipush 1000, 3) := by decide +kernel
theorem dX9_consistency_26 : decode cX9_consistency 26 = .ok (.imul, 1) := by decide +kernel
theorem dX9_consistency_27 : decode cX9_consistency 27 = .ok (.aload_n 0, 1) := by decide +kernel
theorem dX9_consistency_28 : decode cX9_consistency 28 = .ok (.iload_n 1, 1) := by decide +kernel
theorem dX9_consistency_29 : decode cX9_consistency 29 = .ok (.invokevirtual 45, 3) := by decide +kernel
theorem dX9_consistency_32 : decode cX9_consistency 32 = .ok (.idiv, 1) := by decide +kernel
theorem dX9_consistency_33 : decode cX9_consistency 33 = .ok (.ireturn, 1) := by decide +kernel
def k_X9_consistency : List pEn := [oAload 0, oIload 1, oCallZ 2 F_X9_sum, oIfne 6, oConst (0), oGoto 20, oAload 0, oGet 9 0, oConst (18), oConst (3), oIload 1, oMul, oAdd, oIaldP [18, 19, 20, 21, 22, 23, 24, 25, 26, 27, 28, 29], oConst (1000), oMul, oAload 0, oIload 1, oCallZ 2 F_X9_sum, oDiv, oIret]
def pc_X9_consistency (i : Nat) : Nat := ([0, 1, 2, 5, 8, 9, 12, 13, 16, 18, 19, 20, 21, 22, 23, 26, 27, 28, 29, 32, 33] : List Nat).getD i 0
abbrev rm_X9_consistency : Room := { frames := 1, cells := 0, slots := 0, locals := 21 }
theorem pl_X9_consistency : pPlain yX9_consistency 1 := by decide +kernel
set_option maxRecDepth 100000 in
set_option maxHeartbeats 4000000 in
theorem ok_k_X9_consistency (l : Launch) : ∀ (i : Nat) (en : pEn), k_X9_consistency[i]? = some en → EOK l cX9_consistency yX9_consistency.cls 2 ((some FieldType.int)) rm_X9_consistency 0 pc_X9_consistency i en := by
  refine allOK_at ?_
  refine And.intro (okAload_n dX9_consistency_0 rfl rfl) ?_
  refine And.intro (okIload_n dX9_consistency_1 rfl rfl) ?_
  refine And.intro (okCallV (y := yX9_sum) (T := TX9) (oCallZ_is _ _ _) dX9_consistency_2 rfl (ok_F_X9_sum l) rc_F_X9_sum rfl wm_4_14 wm_4_16 wp_20 wm_1_10 wm_4_17 pl_X9_sum (by decide)) ?_
  refine And.intro (okIfne dX9_consistency_5 rfl (by rfl)) ?_
  refine And.intro (okIconst dX9_consistency_8 rfl (by first | rfl | decide)) ?_
  refine And.intro (okGoto dX9_consistency_9 (by rfl)) ?_
  refine And.intro (okAload_n dX9_consistency_12 rfl rfl) ?_
  refine And.intro (okGet (C := RX9) (T := TX9) (N := 22) dX9_consistency_13 rfl rfl (by decide) inX9 wm_3_141) ?_
  refine And.intro (okBipush dX9_consistency_16 rfl (by first | rfl | decide)) ?_
  refine And.intro (okIconst dX9_consistency_18 rfl (by first | rfl | decide)) ?_
  refine And.intro (okIload_n dX9_consistency_19 rfl rfl) ?_
  refine And.intro (okMul dX9_consistency_20 rfl) ?_
  refine And.intro (okAdd dX9_consistency_21 rfl) ?_
  refine And.intro (okIaldP dX9_consistency_22 rfl) ?_
  refine And.intro (okSipush dX9_consistency_23 rfl (by first | rfl | decide)) ?_
  refine And.intro (okMul dX9_consistency_26 rfl) ?_
  refine And.intro (okAload_n dX9_consistency_27 rfl rfl) ?_
  refine And.intro (okIload_n dX9_consistency_28 rfl rfl) ?_
  refine And.intro (okCallV (y := yX9_sum) (T := TX9) (oCallZ_is _ _ _) dX9_consistency_29 rfl (ok_F_X9_sum l) rc_F_X9_sum rfl wm_4_14 wm_4_16 wp_20 wm_1_10 wm_4_17 pl_X9_sum (by decide)) ?_
  refine And.intro (okDiv dX9_consistency_32 rfl) ?_
  refine And.intro (okIret dX9_consistency_33 rfl) ?_
  exact trivial
def G_X9_consistency : pG := fun args w => match args with
  | [.ref 0, .int c] => unM w (fun m => match chI c with
    | some n => some (some (.int (csM n m)), mdl (m))
    | none => none)
  | _ => none
set_option maxHeartbeats 400000 in
set_option maxRecDepth 100000 in
theorem run_X9_consistency0 (rg : pRg) (m : pLV)  : ∃ fu, ex k_X9_consistency fu 0 [(0, .ref 0), (1, .int 0)] [] (mdl m) rg = some (some (.int (csM 0 m)), mdl (m), rg) := by
  refine ⟨60, ?_⟩
  conv => lhs; whnf
  refine (callK_r (cl_X9_sum0 m rg) rfl).trans ?_
  conv => lhs; whnf
  refine pif_c (fun h => ?_) (fun h => ?_)
  · have h : sumM 0 m = 0 := h
    simp only [csM, if_pos h] <;> rfl
  · conv => lhs; whnf
    refine (callK_r (cl_X9_sum0 (NM m) rg) rfl).trans ?_
    conv => lhs; whnf
    refine (pif_f h).trans ?_
    have h : ¬ sumM 0 m = 0 := h
    simp only [csM, if_neg h] <;> rfl
set_option maxHeartbeats 400000 in
set_option maxRecDepth 100000 in
theorem run_X9_consistency1 (rg : pRg) (m : pLV)  : ∃ fu, ex k_X9_consistency fu 0 [(0, .ref 0), (1, .int 1)] [] (mdl m) rg = some (some (.int (csM 1 m)), mdl (m), rg) := by
  refine ⟨60, ?_⟩
  conv => lhs; whnf
  refine (callK_r (cl_X9_sum1 m rg) rfl).trans ?_
  conv => lhs; whnf
  refine pif_c (fun h => ?_) (fun h => ?_)
  · have h : sumM 1 m = 0 := h
    simp only [csM, if_pos h] <;> rfl
  · conv => lhs; whnf
    refine (callK_r (cl_X9_sum1 (NM m) rg) rfl).trans ?_
    conv => lhs; whnf
    refine (pif_f h).trans ?_
    have h : ¬ sumM 1 m = 0 := h
    simp only [csM, if_neg h] <;> rfl
set_option maxHeartbeats 400000 in
set_option maxRecDepth 100000 in
theorem run_X9_consistency2 (rg : pRg) (m : pLV)  : ∃ fu, ex k_X9_consistency fu 0 [(0, .ref 0), (1, .int 2)] [] (mdl m) rg = some (some (.int (csM 2 m)), mdl (m), rg) := by
  refine ⟨60, ?_⟩
  conv => lhs; whnf
  refine (callK_r (cl_X9_sum2 m rg) rfl).trans ?_
  conv => lhs; whnf
  refine pif_c (fun h => ?_) (fun h => ?_)
  · have h : sumM 2 m = 0 := h
    simp only [csM, if_pos h] <;> rfl
  · conv => lhs; whnf
    refine (callK_r (cl_X9_sum2 (NM m) rg) rfl).trans ?_
    conv => lhs; whnf
    refine (pif_f h).trans ?_
    have h : ¬ sumM 2 m = 0 := h
    simp only [csM, if_neg h] <;> rfl
set_option maxHeartbeats 400000 in
set_option maxRecDepth 100000 in
theorem run_X9_consistency3 (rg : pRg) (m : pLV)  : ∃ fu, ex k_X9_consistency fu 0 [(0, .ref 0), (1, .int 3)] [] (mdl m) rg = some (some (.int (csM 3 m)), mdl (m), rg) := by
  refine ⟨60, ?_⟩
  conv => lhs; whnf
  refine (callK_r (cl_X9_sum3 m rg) rfl).trans ?_
  conv => lhs; whnf
  refine pif_c (fun h => ?_) (fun h => ?_)
  · have h : sumM 3 m = 0 := h
    simp only [csM, if_pos h] <;> rfl
  · conv => lhs; whnf
    refine (callK_r (cl_X9_sum3 (NM m) rg) rfl).trans ?_
    conv => lhs; whnf
    refine (pif_f h).trans ?_
    have h : ¬ sumM 3 m = 0 := h
    simp only [csM, if_neg h] <;> rfl
theorem ct_X9_consistency (l : Launch) : ∀ args0 w0 v0 w1 rg, G_X9_consistency args0 w0 = some (v0, w1) → pCT l yX9_consistency (pWs yX9_consistency cX9_consistency 2 ((some FieldType.int))) rm_X9_consistency args0 w0 rg (v0, w1, rg) := by
  intro args0 w0 v0 w1 rg h
  unfold G_X9_consistency at h
  split at h
  next c  =>
    obtain ⟨m, hw, h2⟩ := unM_some h
    clear h
    subst hw
    split at h2
    next n hn =>
      cases h2
      rcases chI_in hn with ⟨rfl, rfl⟩ | ⟨rfl, rfl⟩ | ⟨rfl, rfl⟩ | ⟨rfl, rfl⟩
      · exact met_of_exM (by decide) (ok_k_X9_consistency l) rfl (run_X9_consistency0 rg m ) (Nat.le_of_ble_eq_true rfl) rfl rfl
      · exact met_of_exM (by decide) (ok_k_X9_consistency l) rfl (run_X9_consistency1 rg m ) (Nat.le_of_ble_eq_true rfl) rfl rfl
      · exact met_of_exM (by decide) (ok_k_X9_consistency l) rfl (run_X9_consistency2 rg m ) (Nat.le_of_ble_eq_true rfl) rfl rfl
      · exact met_of_exM (by decide) (ok_k_X9_consistency l) rfl (run_X9_consistency3 rg m ) (Nat.le_of_ble_eq_true rfl) rfl rfl
    next => cases h2
  next => cases h
def F_X9_consistency : pF := faN G_X9_consistency
theorem ok_F_X9_consistency (l : Launch) : pFOK l yX9_consistency (pWs yX9_consistency cX9_consistency 2 ((some FieldType.int))) rm_X9_consistency F_X9_consistency := pFOK_fa (fun a b c d rg h => ct_X9_consistency l a b c d rg h)
theorem rc_F_X9_consistency : pRcv 9 F_X9_consistency := pRcv_fa (fun a b c d h => by
  unfold G_X9_consistency at h
  split at h
  next =>
    obtain ⟨m, rfl, h⟩ := unM_some h
    exact ⟨_, _, _, rfl, rfl⟩
  next => cases h)
theorem cl_X9_consistency0 (m : pLV)  (rg : pRg) : F_X9_consistency [.ref 0, .int 0] (mdl m) rg = some (some (.int (csM 0 (NM m))), mdl ((NM m)), rg) := rfl
theorem cl_X9_consistency1 (m : pLV)  (rg : pRg) : F_X9_consistency [.ref 0, .int 1] (mdl m) rg = some (some (.int (csM 1 (NM m))), mdl ((NM m)), rg) := rfl
theorem cl_X9_consistency2 (m : pLV)  (rg : pRg) : F_X9_consistency [.ref 0, .int 2] (mdl m) rg = some (some (.int (csM 2 (NM m))), mdl ((NM m)), rg) := rfl
theorem cl_X9_consistency3 (m : pLV)  (rg : pRg) : F_X9_consistency [.ref 0, .int 3] (mdl m) rg = some (some (.int (csM 3 (NM m))), mdl ((NM m)), rg) := rfl
end
