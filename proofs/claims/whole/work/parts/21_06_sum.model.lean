noncomputable section
def chI (c : Int32) : Option Nat := match decide (c = 0) with
  | true => some 0
  | false => match decide (c = 1) with
    | true => some 1
    | false => match decide (c = 2) with
      | true => some 2
      | false => match decide (c = 3) with
        | true => some 3
        | false => none
theorem chI_in {c : Int32} {n : Nat} (h : chI c = some n) : (c = 0 ∧ n = 0) ∨ (c = 1 ∧ n = 1) ∨ (c = 2 ∧ n = 2) ∨ (c = 3 ∧ n = 3) := by
  unfold chI at h
  split at h
  next e => cases h; exact Or.inl ⟨of_decide_eq_true e, rfl⟩
  next =>
    split at h
    next e => cases h; exact Or.inr (Or.inl ⟨of_decide_eq_true e, rfl⟩)
    next =>
      split at h
      next e => cases h; exact Or.inr (Or.inr (Or.inl ⟨of_decide_eq_true e, rfl⟩))
      next =>
        split at h
        next e => cases h; exact Or.inr (Or.inr (Or.inr ⟨of_decide_eq_true e, rfl⟩))
        next => cases h
def sumM (n : Nat) (m : pLV) : Int32 := m 1 (18 + 3 * n) + m 1 (19 + 3 * n)
theorem dX9_sum_0 : decode cX9_sum 0 = .ok (.aload_n 0, 1) := by decide +kernel
theorem dX9_sum_1 : decode cX9_sum 1 = .ok (.getfield 7, 3) := by decide +kernel
theorem dX9_sum_4 : decode cX9_sum 4 = .ok (.bipush 18, 2) := by decide +kernel
theorem dX9_sum_6 : decode cX9_sum 6 = .ok (.iconst 3, 1) := by decide +kernel
theorem dX9_sum_7 : decode cX9_sum 7 = .ok (.iload_n 1, 1) := by decide +kernel
theorem dX9_sum_8 : decode cX9_sum 8 = .ok (.imul, 1) := by decide +kernel
theorem dX9_sum_9 : decode cX9_sum 9 = .ok (.iadd, 1) := by decide +kernel
theorem dX9_sum_10 : decode cX9_sum 10 = .ok (.iaload, 1) := by decide +kernel
theorem dX9_sum_11 : decode cX9_sum 11 = .ok (.aload_n 0, 1) := by decide +kernel
theorem dX9_sum_12 : decode cX9_sum 12 = .ok (.getfield 7, 3) := by decide +kernel
theorem dX9_sum_15 : decode cX9_sum 15 = .ok (.bipush 18, 2) := by decide +kernel
theorem dX9_sum_17 : decode cX9_sum 17 = .ok (.iconst 3, 1) := by decide +kernel
theorem dX9_sum_18 : decode cX9_sum 18 = .ok (.iload_n 1, 1) := by decide +kernel
theorem dX9_sum_19 : decode cX9_sum 19 = .ok (.imul, 1) := by decide +kernel
theorem dX9_sum_20 : decode cX9_sum 20 = .ok (.iadd, 1) := by decide +kernel
theorem dX9_sum_21 : decode cX9_sum 21 = .ok (.iconst 1, 1) := by decide +kernel
theorem dX9_sum_22 : decode cX9_sum 22 = .ok (.iadd, 1) := by decide +kernel
theorem dX9_sum_23 : decode cX9_sum 23 = .ok (.iaload, 1) := by decide +kernel
theorem dX9_sum_24 : decode cX9_sum 24 = .ok (.iadd, 1) := by decide +kernel
theorem dX9_sum_25 : decode cX9_sum 25 = .ok (.ireturn, 1) := by decide +kernel
def k_X9_sum : List pEn := [oAload 0, oGet 9 0, oConst (18), oConst (3), oIload 1, oMul, oAdd, oIaldP [18, 19, 20, 21, 22, 23, 24, 25, 26, 27, 28, 29], oAload 0, oGet 9 0, oConst (18), oConst (3), oIload 1, oMul, oAdd, oConst (1), oAdd, oIaldP [18, 19, 20, 21, 22, 23, 24, 25, 26, 27, 28, 29], oAdd, oIret]
def pc_X9_sum (i : Nat) : Nat := ([0, 1, 4, 6, 7, 8, 9, 10, 11, 12, 15, 17, 18, 19, 20, 21, 22, 23, 24, 25] : List Nat).getD i 0
abbrev rm_X9_sum : Room := { frames := 0, cells := 0, slots := 0, locals := 0 }
theorem pl_X9_sum : pPlain yX9_sum 1 := by decide +kernel
set_option maxRecDepth 100000 in
set_option maxHeartbeats 4000000 in
theorem ok_k_X9_sum (l : Launch) : ∀ (i : Nat) (en : pEn), k_X9_sum[i]? = some en → EOK l cX9_sum yX9_sum.cls 2 ((some FieldType.int)) rm_X9_sum 0 pc_X9_sum i en := by
  refine allOK_at ?_
  refine And.intro (okAload_n dX9_sum_0 rfl rfl) ?_
  refine And.intro (okGet (C := RX9) (T := TX9) (N := 22) dX9_sum_1 rfl rfl (by decide) inX9 wm_3_141) ?_
  refine And.intro (okBipush dX9_sum_4 rfl (by first | rfl | decide)) ?_
  refine And.intro (okIconst dX9_sum_6 rfl (by first | rfl | decide)) ?_
  refine And.intro (okIload_n dX9_sum_7 rfl rfl) ?_
  refine And.intro (okMul dX9_sum_8 rfl) ?_
  refine And.intro (okAdd dX9_sum_9 rfl) ?_
  refine And.intro (okIaldP dX9_sum_10 rfl) ?_
  refine And.intro (okAload_n dX9_sum_11 rfl rfl) ?_
  refine And.intro (okGet (C := RX9) (T := TX9) (N := 22) dX9_sum_12 rfl rfl (by decide) inX9 wm_3_141) ?_
  refine And.intro (okBipush dX9_sum_15 rfl (by first | rfl | decide)) ?_
  refine And.intro (okIconst dX9_sum_17 rfl (by first | rfl | decide)) ?_
  refine And.intro (okIload_n dX9_sum_18 rfl rfl) ?_
  refine And.intro (okMul dX9_sum_19 rfl) ?_
  refine And.intro (okAdd dX9_sum_20 rfl) ?_
  refine And.intro (okIconst dX9_sum_21 rfl (by first | rfl | decide)) ?_
  refine And.intro (okAdd dX9_sum_22 rfl) ?_
  refine And.intro (okIaldP dX9_sum_23 rfl) ?_
  refine And.intro (okAdd dX9_sum_24 rfl) ?_
  refine And.intro (okIret dX9_sum_25 rfl) ?_
  exact trivial
def G_X9_sum : pG := fun args w => match args with
  | [.ref 0, .int c] => unM w (fun m => match chI c with
    | some n => some (some (.int (sumM n m)), mdl (m))
    | none => none)
  | _ => none
set_option maxHeartbeats 400000 in
set_option maxRecDepth 100000 in
theorem run_X9_sum0 (rg : pRg) (m : pLV)  : ∃ fu, ex k_X9_sum fu 0 [(0, .ref 0), (1, .int 0)] [] (mdl m) rg = some (some (.int (sumM 0 m)), mdl (m), rg) := by
  refine ⟨60, ?_⟩
  rfl
set_option maxHeartbeats 400000 in
set_option maxRecDepth 100000 in
theorem run_X9_sum1 (rg : pRg) (m : pLV)  : ∃ fu, ex k_X9_sum fu 0 [(0, .ref 0), (1, .int 1)] [] (mdl m) rg = some (some (.int (sumM 1 m)), mdl (m), rg) := by
  refine ⟨60, ?_⟩
  rfl
set_option maxHeartbeats 400000 in
set_option maxRecDepth 100000 in
theorem run_X9_sum2 (rg : pRg) (m : pLV)  : ∃ fu, ex k_X9_sum fu 0 [(0, .ref 0), (1, .int 2)] [] (mdl m) rg = some (some (.int (sumM 2 m)), mdl (m), rg) := by
  refine ⟨60, ?_⟩
  rfl
set_option maxHeartbeats 400000 in
set_option maxRecDepth 100000 in
theorem run_X9_sum3 (rg : pRg) (m : pLV)  : ∃ fu, ex k_X9_sum fu 0 [(0, .ref 0), (1, .int 3)] [] (mdl m) rg = some (some (.int (sumM 3 m)), mdl (m), rg) := by
  refine ⟨60, ?_⟩
  rfl
theorem ct_X9_sum (l : Launch) : ∀ args0 w0 v0 w1 rg, G_X9_sum args0 w0 = some (v0, w1) → pCT l yX9_sum (pWs yX9_sum cX9_sum 2 ((some FieldType.int))) rm_X9_sum args0 w0 rg (v0, w1, rg) := by
  intro args0 w0 v0 w1 rg h
  unfold G_X9_sum at h
  split at h
  next c  =>
    obtain ⟨m, hw, h2⟩ := unM_some h
    clear h
    subst hw
    split at h2
    next n hn =>
      cases h2
      rcases chI_in hn with ⟨rfl, rfl⟩ | ⟨rfl, rfl⟩ | ⟨rfl, rfl⟩ | ⟨rfl, rfl⟩
      · exact met_of_exM (by decide) (ok_k_X9_sum l) rfl (run_X9_sum0 rg m ) (Nat.le_of_ble_eq_true rfl) rfl rfl
      · exact met_of_exM (by decide) (ok_k_X9_sum l) rfl (run_X9_sum1 rg m ) (Nat.le_of_ble_eq_true rfl) rfl rfl
      · exact met_of_exM (by decide) (ok_k_X9_sum l) rfl (run_X9_sum2 rg m ) (Nat.le_of_ble_eq_true rfl) rfl rfl
      · exact met_of_exM (by decide) (ok_k_X9_sum l) rfl (run_X9_sum3 rg m ) (Nat.le_of_ble_eq_true rfl) rfl rfl
    next => cases h2
  next => cases h
def F_X9_sum : pF := faN G_X9_sum
theorem ok_F_X9_sum (l : Launch) : pFOK l yX9_sum (pWs yX9_sum cX9_sum 2 ((some FieldType.int))) rm_X9_sum F_X9_sum := pFOK_fa (fun a b c d rg h => ct_X9_sum l a b c d rg h)
theorem rc_F_X9_sum : pRcv 9 F_X9_sum := pRcv_fa (fun a b c d h => by
  unfold G_X9_sum at h
  split at h
  next =>
    obtain ⟨m, rfl, h⟩ := unM_some h
    exact ⟨_, _, _, rfl, rfl⟩
  next => cases h)
theorem cl_X9_sum0 (m : pLV)  (rg : pRg) : F_X9_sum [.ref 0, .int 0] (mdl m) rg = some (some (.int (sumM 0 (NM m))), mdl ((NM m)), rg) := rfl
theorem cl_X9_sum1 (m : pLV)  (rg : pRg) : F_X9_sum [.ref 0, .int 1] (mdl m) rg = some (some (.int (sumM 1 (NM m))), mdl ((NM m)), rg) := rfl
theorem cl_X9_sum2 (m : pLV)  (rg : pRg) : F_X9_sum [.ref 0, .int 2] (mdl m) rg = some (some (.int (sumM 2 (NM m))), mdl ((NM m)), rg) := rfl
theorem cl_X9_sum3 (m : pLV)  (rg : pRg) : F_X9_sum [.ref 0, .int 3] (mdl m) rg = some (some (.int (sumM 3 (NM m))), mdl ((NM m)), rg) := rfl
end
