noncomputable section
/-! CHESTS: what a method answers and leaves of one chest -/
theorem ne0_of_pos {x : Int32} (h : 0 < x) : ¬ x.toInt64 = 0 := by
  intro e
  have h1 := Int32.lt_iff_toInt_lt.mp h
  have h2 : x.toInt64.toInt = x.toInt := Int32.toInt_toInt64 x
  rw [e] at h2
  simp at h1 h2
  omega
/-- the fibre in a mass m that is taken of f and g -/
def tkR (f g m : Int32) : Int32 := if 0 < f + g then (m.toInt64 * f.toInt64 / (f + g).toInt64).toInt32 else 0
/-- the water behind it -/
def tkG (f g m : Int32) : Int32 := if 0 < f + g then g - (m - tkR f g m) else g
/-- the fibre that is spilled as a and b are filled in, and what stays -/
def puR (r f g a b : Int32) : Int32 := if f + a + (g + b) - r ≤ 0 then 0 else tkR (f + a) (g + b) (f + a + (g + b) - r)
def puF (r f g a b : Int32) : Int32 := f + a - puR r f g a b
def puG (r f g a b : Int32) : Int32 := if f + a + (g + b) - r ≤ 0 then g + b else tkG (f + a) (g + b) (f + a + (g + b) - r)
def csC (f g : Int32) : Int32 := if f + g ≤ 0 then 0 else f * 1000 / (f + g)
def mnI (x y : Int32) : Int32 := if y < x then y else x
def mxI (x y : Int32) : Int32 := if x < y then y else x
abbrev chW (r f g z : Int32) : pWd := [.inr (1, [.int r, .int f, .int g, .int z])]
theorem dX1_startWith_0 : decode cX1_startWith 0 = .ok (.aload_n 0, 1) := by decide +kernel
theorem dX1_startWith_1 : decode cX1_startWith 1 = .ok (.iload_n 1, 1) := by decide +kernel
theorem dX1_startWith_2 : decode cX1_startWith 2 = .ok (.putfield 7, 3) := by decide +kernel
theorem dX1_startWith_5 : decode cX1_startWith 5 = .ok (.aload_n 0, 1) := by decide +kernel
theorem dX1_startWith_6 : decode cX1_startWith 6 = .ok (.iload_n 2, 1) := by decide +kernel
theorem dX1_startWith_7 : decode cX1_startWith 7 = .ok (.putfield 13, 3) := by decide +kernel
theorem dX1_startWith_10 : decode cX1_startWith 10 = .ok (.aload_n 0, 1) := by decide +kernel
theorem dX1_startWith_11 : decode cX1_startWith 11 = .ok (.iconst 0, 1) := by decide +kernel
theorem dX1_startWith_12 : decode cX1_startWith 12 = .ok (.putfield 16, 3) := by decide +kernel
theorem dX1_startWith_15 : decode cX1_startWith 15 = .ok (.return_, 1) := by decide +kernel
def k_X1_startWith : List pEn := [oAload 0, oIload 1, oPut 1 1, oAload 0, oIload 2, oPut 1 2, oAload 0, oConst (0), oPut 1 3, oVret]
def pc_X1_startWith (i : Nat) : Nat := ([0, 1, 2, 5, 6, 7, 10, 11, 12, 15] : List Nat).getD i 0
abbrev rm_X1_startWith : Room := { frames := 0, cells := 0, slots := 0, locals := 0 }
theorem pl_X1_startWith : pPlain yX1_startWith 2 := by decide +kernel
set_option maxRecDepth 100000 in
set_option maxHeartbeats 4000000 in
theorem ok_k_X1_startWith (l : Launch) : ∀ (i : Nat) (en : pEn), k_X1_startWith[i]? = some en → EOK l cX1_startWith yX1_startWith.cls 3 (none) rm_X1_startWith 0 pc_X1_startWith i en := by
  refine allOK_at ?_
  refine And.intro (okAload_n dX1_startWith_0 rfl rfl) ?_
  refine And.intro (okIload_n dX1_startWith_1 rfl rfl) ?_
  refine And.intro (okPut (C := RX1) (T := TX1) (N := 4) dX1_startWith_2 rfl rfl (by decide) inX1 tyX1_ok nmX1 rfl rfl wm_1_33) ?_
  refine And.intro (okAload_n dX1_startWith_5 rfl rfl) ?_
  refine And.intro (okIload_n dX1_startWith_6 rfl rfl) ?_
  refine And.intro (okPut (C := RX1) (T := TX1) (N := 4) dX1_startWith_7 rfl rfl (by decide) inX1 tyX1_ok nmX1 rfl rfl wm_1_36) ?_
  refine And.intro (okAload_n dX1_startWith_10 rfl rfl) ?_
  refine And.intro (okIconst dX1_startWith_11 rfl (by first | rfl | decide)) ?_
  refine And.intro (okPut (C := RX1) (T := TX1) (N := 4) dX1_startWith_12 rfl rfl (by decide) inX1 tyX1_ok nmX1 rfl rfl wm_1_38) ?_
  refine And.intro (okVret dX1_startWith_15 rfl) ?_
  exact trivial
def G_X1_startWith : pG := fun args w => match args, w with
  | [.ref 0, .int a, .int b], [.inr (1, [.int r, .int f, .int g, .int z])] => some (none, [.inr (1, [.int r, .int a, .int b, .int 0])])
  | _, _ => none
set_option maxHeartbeats 400000 in
set_option maxRecDepth 100000 in
theorem run_X1_startWith (rg : pRg) (r f g z : Int32) (a b : Int32) : ∃ fu, ex k_X1_startWith fu 0 [(0, .ref 0), (1, .int a), (2, .int b)] [] [.inr (1, [.int r, .int f, .int g, .int z])] rg = some (none, [.inr (1, [.int r, .int a, .int b, .int 0])], rg) := by
  refine ⟨40, ?_⟩
  rfl
theorem ct_X1_startWith (l : Launch) : ∀ args0 w0 v0 w1 rg, G_X1_startWith args0 w0 = some (v0, w1) → pCT l yX1_startWith (pWs yX1_startWith cX1_startWith 3 (none)) rm_X1_startWith args0 w0 rg (v0, w1, rg) := by
  intro args0 w0 v0 w1 rg h
  unfold G_X1_startWith at h
  split at h
  next =>
    cases h
    exact met_of_ex (by decide) (ok_k_X1_startWith l) rfl (run_X1_startWith rg _ _ _ _ _ _) (Nat.le_of_ble_eq_true rfl) rfl (Nat.le_refl _) (Nat.le_of_ble_eq_true rfl) (Nat.zero_le _) rfl rfl
  next => cases h
def F_X1_startWith : pF := frN G_X1_startWith
theorem ok_F_X1_startWith (l : Launch) : pFOK l yX1_startWith (pWs yX1_startWith cX1_startWith 3 (none)) rm_X1_startWith F_X1_startWith := pFOK_fr (fun a b c d h => ct_X1_startWith l a b c d rg00 h) (fun a b c d h => by
  unfold G_X1_startWith at h
  split at h
  next => simp
  next => cases h)
theorem rc_F_X1_startWith : pRcv 1 F_X1_startWith := pRcv_fr (fun a b c d h => by
  unfold G_X1_startWith at h
  split at h
  next => simp
  next => cases h) (fun a b c d h => by
  unfold G_X1_startWith at h
  split at h
  next => exact ⟨_, _, _, rfl, rfl⟩
  next => cases h)
theorem dX1_copyFrom_0 : decode cX1_copyFrom 0 = .ok (.aload_n 0, 1) := by decide +kernel
theorem dX1_copyFrom_1 : decode cX1_copyFrom 1 = .ok (.aload_n 1, 1) := by decide +kernel
theorem dX1_copyFrom_2 : decode cX1_copyFrom 2 = .ok (.getfield 7, 3) := by decide +kernel
theorem dX1_copyFrom_5 : decode cX1_copyFrom 5 = .ok (.putfield 7, 3) := by decide +kernel
theorem dX1_copyFrom_8 : decode cX1_copyFrom 8 = .ok (.aload_n 0, 1) := by decide +kernel
theorem dX1_copyFrom_9 : decode cX1_copyFrom 9 = .ok (.aload_n 1, 1) := by decide +kernel
theorem dX1_copyFrom_10 : decode cX1_copyFrom 10 = .ok (.getfield 13, 3) := by decide +kernel
theorem dX1_copyFrom_13 : decode cX1_copyFrom 13 = .ok (.putfield 13, 3) := by decide +kernel
theorem dX1_copyFrom_16 : decode cX1_copyFrom 16 = .ok (.aload_n 0, 1) := by decide +kernel
theorem dX1_copyFrom_17 : decode cX1_copyFrom 17 = .ok (.aload_n 1, 1) := by decide +kernel
theorem dX1_copyFrom_18 : decode cX1_copyFrom 18 = .ok (.getfield 16, 3) := by decide +kernel
theorem dX1_copyFrom_21 : decode cX1_copyFrom 21 = .ok (.putfield 16, 3) := by decide +kernel
theorem dX1_copyFrom_24 : decode cX1_copyFrom 24 = .ok (.return_, 1) := by decide +kernel
def k_X1_copyFrom : List pEn := [oAload 0, oAload 1, oGet 1 1, oPut 1 1, oAload 0, oAload 1, oGet 1 2, oPut 1 2, oAload 0, oAload 1, oGet 1 3, oPut 1 3, oVret]
def pc_X1_copyFrom (i : Nat) : Nat := ([0, 1, 2, 5, 8, 9, 10, 13, 16, 17, 18, 21, 24] : List Nat).getD i 0
abbrev rm_X1_copyFrom : Room := { frames := 0, cells := 0, slots := 0, locals := 0 }
theorem pl_X1_copyFrom : pPlain yX1_copyFrom 1 := by decide +kernel
set_option maxRecDepth 100000 in
set_option maxHeartbeats 4000000 in
theorem ok_k_X1_copyFrom (l : Launch) : ∀ (i : Nat) (en : pEn), k_X1_copyFrom[i]? = some en → EOK l cX1_copyFrom yX1_copyFrom.cls 2 (none) rm_X1_copyFrom 0 pc_X1_copyFrom i en := by
  refine allOK_at ?_
  refine And.intro (okAload_n dX1_copyFrom_0 rfl rfl) ?_
  refine And.intro (okAload_n dX1_copyFrom_1 rfl rfl) ?_
  refine And.intro (okGet (C := RX1) (T := TX1) (N := 4) dX1_copyFrom_2 rfl rfl (by decide) inX1 wm_1_33) ?_
  refine And.intro (okPut (C := RX1) (T := TX1) (N := 4) dX1_copyFrom_5 rfl rfl (by decide) inX1 tyX1_ok nmX1 rfl rfl wm_1_33) ?_
  refine And.intro (okAload_n dX1_copyFrom_8 rfl rfl) ?_
  refine And.intro (okAload_n dX1_copyFrom_9 rfl rfl) ?_
  refine And.intro (okGet (C := RX1) (T := TX1) (N := 4) dX1_copyFrom_10 rfl rfl (by decide) inX1 wm_1_36) ?_
  refine And.intro (okPut (C := RX1) (T := TX1) (N := 4) dX1_copyFrom_13 rfl rfl (by decide) inX1 tyX1_ok nmX1 rfl rfl wm_1_36) ?_
  refine And.intro (okAload_n dX1_copyFrom_16 rfl rfl) ?_
  refine And.intro (okAload_n dX1_copyFrom_17 rfl rfl) ?_
  refine And.intro (okGet (C := RX1) (T := TX1) (N := 4) dX1_copyFrom_18 rfl rfl (by decide) inX1 wm_1_38) ?_
  refine And.intro (okPut (C := RX1) (T := TX1) (N := 4) dX1_copyFrom_21 rfl rfl (by decide) inX1 tyX1_ok nmX1 rfl rfl wm_1_38) ?_
  refine And.intro (okVret dX1_copyFrom_24 rfl) ?_
  exact trivial
def G_X1_copyFrom : pG := fun args w => match args, w with
  | [.ref 0, .ref 1], [.inr (1, [.int r, .int f, .int g, .int z]), .inr (1, [.int r2, .int f2, .int g2, .int z2])] => some (none, [.inr (1, [.int r, .int f2, .int g2, .int z2]), .inr (1, [.int r2, .int f2, .int g2, .int z2])])
  | _, _ => none
set_option maxHeartbeats 400000 in
set_option maxRecDepth 100000 in
theorem run_X1_copyFrom (rg : pRg) (r f g z : Int32) (r2 f2 g2 z2 : Int32) : ∃ fu, ex k_X1_copyFrom fu 0 [(0, .ref 0), (1, .ref 1)] [] [.inr (1, [.int r, .int f, .int g, .int z]), .inr (1, [.int r2, .int f2, .int g2, .int z2])] rg = some (none, [.inr (1, [.int r, .int f2, .int g2, .int z2]), .inr (1, [.int r2, .int f2, .int g2, .int z2])], rg) := by
  refine ⟨40, ?_⟩
  rfl
theorem ct_X1_copyFrom (l : Launch) : ∀ args0 w0 v0 w1 rg, G_X1_copyFrom args0 w0 = some (v0, w1) → pCT l yX1_copyFrom (pWs yX1_copyFrom cX1_copyFrom 2 (none)) rm_X1_copyFrom args0 w0 rg (v0, w1, rg) := by
  intro args0 w0 v0 w1 rg h
  unfold G_X1_copyFrom at h
  split at h
  next =>
    cases h
    exact met_of_ex (by decide) (ok_k_X1_copyFrom l) rfl (run_X1_copyFrom rg _ _ _ _ _ _ _ _) (Nat.le_of_ble_eq_true rfl) rfl (Nat.le_refl _) (Nat.le_of_ble_eq_true rfl) (Nat.zero_le _) rfl rfl
  next => cases h
def F_X1_copyFrom : pF := frN G_X1_copyFrom
theorem ok_F_X1_copyFrom (l : Launch) : pFOK l yX1_copyFrom (pWs yX1_copyFrom cX1_copyFrom 2 (none)) rm_X1_copyFrom F_X1_copyFrom := pFOK_fr (fun a b c d h => ct_X1_copyFrom l a b c d rg00 h) (fun a b c d h => by
  unfold G_X1_copyFrom at h
  split at h
  next => simp
  next => cases h)
theorem rc_F_X1_copyFrom : pRcv 1 F_X1_copyFrom := pRcv_fr (fun a b c d h => by
  unfold G_X1_copyFrom at h
  split at h
  next => simp
  next => cases h) (fun a b c d h => by
  unfold G_X1_copyFrom at h
  split at h
  next => exact ⟨_, _, _, rfl, rfl⟩
  next => cases h)
theorem dX1_missing_0 : decode cX1_missing 0 = .ok (.aload_n 0, 1) := by decide +kernel
theorem dX1_missing_1 : decode cX1_missing 1 = .ok (.getfield 19, 3) := by decide +kernel
theorem dX1_missing_4 : decode cX1_missing 4 = .ok (.aload_n 0, 1) := by decide +kernel
theorem dX1_missing_5 : decode cX1_missing 5 = .ok (.getfield 7, 3) := by decide +kernel
theorem dX1_missing_8 : decode cX1_missing 8 = .ok (.isub, 1) := by decide +kernel
theorem dX1_missing_9 : decode cX1_missing 9 = .ok (.aload_n 0, 1) := by decide +kernel
theorem dX1_missing_10 : decode cX1_missing 10 = .ok (.getfield 13, 3) := by decide +kernel
theorem dX1_missing_13 : decode cX1_missing 13 = .ok (.isub, 1) := by decide +kernel
theorem dX1_missing_14 : decode cX1_missing 14 = .ok (.ireturn, 1) := by decide +kernel
def k_X1_missing : List pEn := [oAload 0, oGet 1 0, oAload 0, oGet 1 1, oSub, oAload 0, oGet 1 2, oSub, oIret]
def pc_X1_missing (i : Nat) : Nat := ([0, 1, 4, 5, 8, 9, 10, 13, 14] : List Nat).getD i 0
abbrev rm_X1_missing : Room := { frames := 0, cells := 0, slots := 0, locals := 0 }
theorem pl_X1_missing : pPlain yX1_missing 0 := by decide +kernel
set_option maxRecDepth 100000 in
set_option maxHeartbeats 4000000 in
theorem ok_k_X1_missing (l : Launch) : ∀ (i : Nat) (en : pEn), k_X1_missing[i]? = some en → EOK l cX1_missing yX1_missing.cls 1 ((some FieldType.int)) rm_X1_missing 0 pc_X1_missing i en := by
  refine allOK_at ?_
  refine And.intro (okAload_n dX1_missing_0 rfl rfl) ?_
  refine And.intro (okGet (C := RX1) (T := TX1) (N := 4) dX1_missing_1 rfl rfl (by decide) inX1 wm_1_32) ?_
  refine And.intro (okAload_n dX1_missing_4 rfl rfl) ?_
  refine And.intro (okGet (C := RX1) (T := TX1) (N := 4) dX1_missing_5 rfl rfl (by decide) inX1 wm_1_33) ?_
  refine And.intro (okSub dX1_missing_8 rfl) ?_
  refine And.intro (okAload_n dX1_missing_9 rfl rfl) ?_
  refine And.intro (okGet (C := RX1) (T := TX1) (N := 4) dX1_missing_10 rfl rfl (by decide) inX1 wm_1_36) ?_
  refine And.intro (okSub dX1_missing_13 rfl) ?_
  refine And.intro (okIret dX1_missing_14 rfl) ?_
  exact trivial
def G_X1_missing : pG := fun args w => match args, w with
  | [.ref 0], [.inr (1, [.int r, .int f, .int g, .int z])] => some (some (.int (r - f - g)), [.inr (1, [.int r, .int f, .int g, .int z])])
  | _, _ => none
set_option maxHeartbeats 400000 in
set_option maxRecDepth 100000 in
theorem run_X1_missing (rg : pRg) (r f g z : Int32) : ∃ fu, ex k_X1_missing fu 0 [(0, .ref 0)] [] [.inr (1, [.int r, .int f, .int g, .int z])] rg = some (some (.int (r - f - g)), [.inr (1, [.int r, .int f, .int g, .int z])], rg) := by
  refine ⟨40, ?_⟩
  rfl
theorem ct_X1_missing (l : Launch) : ∀ args0 w0 v0 w1 rg, G_X1_missing args0 w0 = some (v0, w1) → pCT l yX1_missing (pWs yX1_missing cX1_missing 1 ((some FieldType.int))) rm_X1_missing args0 w0 rg (v0, w1, rg) := by
  intro args0 w0 v0 w1 rg h
  unfold G_X1_missing at h
  split at h
  next =>
    cases h
    exact met_of_ex (by decide) (ok_k_X1_missing l) rfl (run_X1_missing rg _ _ _ _) (Nat.le_of_ble_eq_true rfl) rfl (Nat.le_refl _) (Nat.le_of_ble_eq_true rfl) (Nat.zero_le _) rfl rfl
  next => cases h
def F_X1_missing : pF := frN G_X1_missing
theorem ok_F_X1_missing (l : Launch) : pFOK l yX1_missing (pWs yX1_missing cX1_missing 1 ((some FieldType.int))) rm_X1_missing F_X1_missing := pFOK_fr (fun a b c d h => ct_X1_missing l a b c d rg00 h) (fun a b c d h => by
  unfold G_X1_missing at h
  split at h
  next => simp
  next => cases h)
theorem rc_F_X1_missing : pRcv 1 F_X1_missing := pRcv_fr (fun a b c d h => by
  unfold G_X1_missing at h
  split at h
  next => simp
  next => cases h) (fun a b c d h => by
  unfold G_X1_missing at h
  split at h
  next => exact ⟨_, _, _, rfl, rfl⟩
  next => cases h)
theorem dX1_consistency_0 : decode cX1_consistency 0 = .ok (.aload_n 0, 1) := by decide +kernel
theorem dX1_consistency_1 : decode cX1_consistency 1 = .ok (.getfield 7, 3) := by decide +kernel
theorem dX1_consistency_4 : decode cX1_consistency 4 = .ok (.aload_n 0, 1) := by decide +kernel
theorem dX1_consistency_5 : decode cX1_consistency 5 = .ok (.getfield 13, 3) := by decide +kernel
theorem dX1_consistency_8 : decode cX1_consistency 8 = .ok (.iadd, 1) := by decide +kernel
theorem dX1_consistency_9 : decode cX1_consistency 9 = .ok (.istore_n 1, 1) := by decide +kernel
theorem dX1_consistency_10 : decode cX1_consistency 10 = .ok (.iload_n 1, 1) := by decide +kernel
theorem dX1_consistency_11 : decode cX1_consistency 11 = .ok (.ifCond .gt 7, 3) := by decide +kernel
theorem dX1_consistency_14 : decode cX1_consistency 14 = .ok (.iconst 0, 1) := by decide +kernel
theorem dX1_consistency_15 : decode cX1_consistency 15 = .ok (.goto 13, 3) := by decide +kernel
theorem dX1_consistency_18 : decode cX1_consistency 18 = .ok (.aload_n 0, 1) := by decide +kernel
theorem dX1_consistency_19 : decode cX1_consistency 19 = .ok (.getfield 7, 3) := by decide +kernel
theorem dX1_consistency_22 : decode cX1_consistency 22 = .ok (.sipush 1000, 3) := by decide +kernel
theorem dX1_consistency_25 : decode cX1_consistency 25 = .ok (.imul, 1) := by decide +kernel
theorem dX1_consistency_26 : decode cX1_consistency 26 = .ok (.iload_n 1, 1) := by decide +kernel
theorem dX1_consistency_27 : decode cX1_consistency 27 = .ok (.idiv, 1) := by decide +kernel
theorem dX1_consistency_28 : decode cX1_consistency 28 = .ok (.ireturn, 1) := by decide +kernel
def k_X1_consistency : List pEn := [oAload 0, oGet 1 1, oAload 0, oGet 1 2, oAdd, oIstore 1, oIload 1, oIfgt 10, oConst (0), oGoto 16, oAload 0, oGet 1 1, oConst (1000), oMul, oIload 1, oDiv, oIret]
def pc_X1_consistency (i : Nat) : Nat := ([0, 1, 4, 5, 8, 9, 10, 11, 14, 15, 18, 19, 22, 25, 26, 27, 28] : List Nat).getD i 0
abbrev rm_X1_consistency : Room := { frames := 0, cells := 0, slots := 0, locals := 0 }
theorem pl_X1_consistency : pPlain yX1_consistency 0 := by decide +kernel
set_option maxRecDepth 100000 in
set_option maxHeartbeats 4000000 in
theorem ok_k_X1_consistency (l : Launch) : ∀ (i : Nat) (en : pEn), k_X1_consistency[i]? = some en → EOK l cX1_consistency yX1_consistency.cls 2 ((some FieldType.int)) rm_X1_consistency 0 pc_X1_consistency i en := by
  refine allOK_at ?_
  refine And.intro (okAload_n dX1_consistency_0 rfl rfl) ?_
  refine And.intro (okGet (C := RX1) (T := TX1) (N := 4) dX1_consistency_1 rfl rfl (by decide) inX1 wm_1_33) ?_
  refine And.intro (okAload_n dX1_consistency_4 rfl rfl) ?_
  refine And.intro (okGet (C := RX1) (T := TX1) (N := 4) dX1_consistency_5 rfl rfl (by decide) inX1 wm_1_36) ?_
  refine And.intro (okAdd dX1_consistency_8 rfl) ?_
  refine And.intro (okIstore_n dX1_consistency_9 rfl rfl (by decide)) ?_
  refine And.intro (okIload_n dX1_consistency_10 rfl rfl) ?_
  refine And.intro (okIfgt dX1_consistency_11 rfl (by rfl)) ?_
  refine And.intro (okIconst dX1_consistency_14 rfl (by first | rfl | decide)) ?_
  refine And.intro (okGoto dX1_consistency_15 (by rfl)) ?_
  refine And.intro (okAload_n dX1_consistency_18 rfl rfl) ?_
  refine And.intro (okGet (C := RX1) (T := TX1) (N := 4) dX1_consistency_19 rfl rfl (by decide) inX1 wm_1_33) ?_
  refine And.intro (okSipush dX1_consistency_22 rfl (by first | rfl | decide)) ?_
  refine And.intro (okMul dX1_consistency_25 rfl) ?_
  refine And.intro (okIload_n dX1_consistency_26 rfl rfl) ?_
  refine And.intro (okDiv dX1_consistency_27 rfl) ?_
  refine And.intro (okIret dX1_consistency_28 rfl) ?_
  exact trivial
def G_X1_consistency : pG := fun args w => match args, w with
  | [.ref 0], [.inr (1, [.int r, .int f, .int g, .int z])] => some (some (.int (csC f g)), [.inr (1, [.int r, .int f, .int g, .int z])])
  | _, _ => none
set_option maxHeartbeats 400000 in
set_option maxRecDepth 100000 in
theorem run_X1_consistency (rg : pRg) (r f g z : Int32) : ∃ fu, ex k_X1_consistency fu 0 [(0, .ref 0)] [] [.inr (1, [.int r, .int f, .int g, .int z])] rg = some (some (.int (csC f g)), [.inr (1, [.int r, .int f, .int g, .int z])], rg) := by
  refine ⟨40, ?_⟩
  conv => lhs; whnf
  refine pif_c (fun h => ?_) (fun h => ?_)
  · conv => lhs; whnf
    refine (pif_f (fun e => absurd h (by rw [e]; decide))).trans ?_
    have h2 : ¬ f + g ≤ 0 := Int32.not_le.mpr h
    simp only [csC, if_neg h2]
    rfl
  · have h2 : f + g ≤ 0 := Int32.not_lt.mp h
    simp only [csC, if_pos h2]
    rfl
theorem ct_X1_consistency (l : Launch) : ∀ args0 w0 v0 w1 rg, G_X1_consistency args0 w0 = some (v0, w1) → pCT l yX1_consistency (pWs yX1_consistency cX1_consistency 2 ((some FieldType.int))) rm_X1_consistency args0 w0 rg (v0, w1, rg) := by
  intro args0 w0 v0 w1 rg h
  unfold G_X1_consistency at h
  split at h
  next =>
    cases h
    exact met_of_ex (by decide) (ok_k_X1_consistency l) rfl (run_X1_consistency rg _ _ _ _) (Nat.le_of_ble_eq_true rfl) rfl (Nat.le_refl _) (Nat.le_of_ble_eq_true rfl) (Nat.zero_le _) rfl rfl
  next => cases h
def F_X1_consistency : pF := frN G_X1_consistency
theorem ok_F_X1_consistency (l : Launch) : pFOK l yX1_consistency (pWs yX1_consistency cX1_consistency 2 ((some FieldType.int))) rm_X1_consistency F_X1_consistency := pFOK_fr (fun a b c d h => ct_X1_consistency l a b c d rg00 h) (fun a b c d h => by
  unfold G_X1_consistency at h
  split at h
  next => simp
  next => cases h)
theorem rc_F_X1_consistency : pRcv 1 F_X1_consistency := pRcv_fr (fun a b c d h => by
  unfold G_X1_consistency at h
  split at h
  next => simp
  next => cases h) (fun a b c d h => by
  unfold G_X1_consistency at h
  split at h
  next => exact ⟨_, _, _, rfl, rfl⟩
  next => cases h)
theorem dX1_there_0 : decode cX1_there 0 = .ok (.iload_n 1, 1) := by decide +kernel
theorem dX1_there_1 : decode cX1_there 1 = .ok (.aload_n 0, 1) := by decide +kernel
theorem dX1_there_2 : decode cX1_there 2 = .ok (.getfield 7, 3) := by decide +kernel
theorem dX1_there_5 : decode cX1_there 5 = .ok (.aload_n 0, 1) := by decide +kernel
theorem dX1_there_6 : decode cX1_there 6 = .ok (.getfield 13, 3) := by decide +kernel
theorem dX1_there_9 : decode cX1_there 9 = .ok (.iadd, 1) := by decide +kernel
theorem dX1_there_10 : decode cX1_there 10 = .ok (.invokestatic 22, 3) := by decide +kernel
theorem dX1_there_13 : decode cX1_there 13 = .ok (.ireturn, 1) := by decide +kernel
def k_X1_there : List pEn := [oIload 1, oAload 0, oGet 1 1, oAload 0, oGet 1 2, oAdd, oMin, oIret]
def pc_X1_there (i : Nat) : Nat := ([0, 1, 2, 5, 6, 9, 10, 13] : List Nat).getD i 0
abbrev rm_X1_there : Room := { frames := 1, cells := 0, slots := 0, locals := 21 }
theorem pl_X1_there : pPlain yX1_there 1 := by decide +kernel
set_option maxRecDepth 100000 in
set_option maxHeartbeats 4000000 in
theorem ok_k_X1_there (l : Launch) : ∀ (i : Nat) (en : pEn), k_X1_there[i]? = some en → EOK l cX1_there yX1_there.cls 2 ((some FieldType.int)) rm_X1_there 0 pc_X1_there i en := by
  refine allOK_at ?_
  refine And.intro (okIload_n dX1_there_0 rfl rfl) ?_
  refine And.intro (okAload_n dX1_there_1 rfl rfl) ?_
  refine And.intro (okGet (C := RX1) (T := TX1) (N := 4) dX1_there_2 rfl rfl (by decide) inX1 wm_1_33) ?_
  refine And.intro (okAload_n dX1_there_5 rfl rfl) ?_
  refine And.intro (okGet (C := RX1) (T := TX1) (N := 4) dX1_there_6 rfl rfl (by decide) inX1 wm_1_36) ?_
  refine And.intro (okAdd dX1_there_9 rfl) ?_
  refine And.intro (okMin dX1_there_10 rfl wm_2_154 wm_2_95 wm_1_11 wm_2_96 (by decide) (by decide)) ?_
  refine And.intro (okIret dX1_there_13 rfl) ?_
  exact trivial
def G_X1_there : pG := fun args w => match args, w with
  | [.ref 0, .int m], [.inr (1, [.int r, .int f, .int g, .int z])] => some (some (.int (mnI m (f + g))), [.inr (1, [.int r, .int f, .int g, .int z])])
  | _, _ => none
set_option maxHeartbeats 400000 in
set_option maxRecDepth 100000 in
theorem run_X1_there (rg : pRg) (r f g z : Int32) (m : Int32) : ∃ fu, ex k_X1_there fu 0 [(0, .ref 0), (1, .int m)] [] [.inr (1, [.int r, .int f, .int g, .int z])] rg = some (some (.int (mnI m (f + g))), [.inr (1, [.int r, .int f, .int g, .int z])], rg) := by
  refine ⟨40, ?_⟩
  rfl
theorem ct_X1_there (l : Launch) : ∀ args0 w0 v0 w1 rg, G_X1_there args0 w0 = some (v0, w1) → pCT l yX1_there (pWs yX1_there cX1_there 2 ((some FieldType.int))) rm_X1_there args0 w0 rg (v0, w1, rg) := by
  intro args0 w0 v0 w1 rg h
  unfold G_X1_there at h
  split at h
  next =>
    cases h
    exact met_of_ex (by decide) (ok_k_X1_there l) rfl (run_X1_there rg _ _ _ _ _) (Nat.le_of_ble_eq_true rfl) rfl (Nat.le_refl _) (Nat.le_of_ble_eq_true rfl) (Nat.zero_le _) rfl rfl
  next => cases h
def F_X1_there : pF := frN G_X1_there
theorem ok_F_X1_there (l : Launch) : pFOK l yX1_there (pWs yX1_there cX1_there 2 ((some FieldType.int))) rm_X1_there F_X1_there := pFOK_fr (fun a b c d h => ct_X1_there l a b c d rg00 h) (fun a b c d h => by
  unfold G_X1_there at h
  split at h
  next => simp
  next => cases h)
theorem rc_F_X1_there : pRcv 1 F_X1_there := pRcv_fr (fun a b c d h => by
  unfold G_X1_there at h
  split at h
  next => simp
  next => cases h) (fun a b c d h => by
  unfold G_X1_there at h
  split at h
  next => exact ⟨_, _, _, rfl, rfl⟩
  next => cases h)
theorem dX1_takeOut_0 : decode cX1_takeOut 0 = .ok (.aload_n 0, 1) := by decide +kernel
theorem dX1_takeOut_1 : decode cX1_takeOut 1 = .ok (.getfield 7, 3) := by decide +kernel
theorem dX1_takeOut_4 : decode cX1_takeOut 4 = .ok (.aload_n 0, 1) := by decide +kernel
theorem dX1_takeOut_5 : decode cX1_takeOut 5 = .ok (.getfield 13, 3) := by decide +kernel
theorem dX1_takeOut_8 : decode cX1_takeOut 8 = .ok (.iadd, 1) := by decide +kernel
theorem dX1_takeOut_9 : decode cX1_takeOut 9 = .ok (.istore_n 2, 1) := by decide +kernel
theorem dX1_takeOut_10 : decode cX1_takeOut 10 = .ok (.iload_n 2, 1) := by decide +kernel
theorem dX1_takeOut_11 : decode cX1_takeOut 11 = .ok (.ifCond .gt 5, 3) := by decide +kernel
theorem dX1_takeOut_14 : decode cX1_takeOut 14 = .ok (.iconst 0, 1) := by decide +kernel
theorem dX1_takeOut_15 : decode cX1_takeOut 15 = .ok (.ireturn, 1) := by decide +kernel
theorem dX1_takeOut_16 : decode cX1_takeOut 16 = .ok (.iload_n 1, 1) := by decide +kernel
theorem dX1_takeOut_17 : decode cX1_takeOut 17 = .ok (.i2l, 1) := by decide +kernel
theorem dX1_takeOut_18 : decode cX1_takeOut 18 = .ok (.aload_n 0, 1) := by decide +kernel
theorem dX1_takeOut_19 : decode cX1_takeOut 19 = .ok (.getfield 7, 3) := by decide +kernel
theorem dX1_takeOut_22 : decode cX1_takeOut 22 = .ok (.i2l, 1) := by decide +kernel
theorem dX1_takeOut_23 : decode cX1_takeOut 23 = .ok (.lmul, 1) := by decide +kernel
theorem dX1_takeOut_24 : decode cX1_takeOut 24 = .ok (.iload_n 2, 1) := by decide +kernel
theorem dX1_takeOut_25 : decode cX1_takeOut 25 = .ok (.i2l, 1) := by decide +kernel
theorem dX1_takeOut_26 : decode cX1_takeOut 26 = .ok (.ldiv, 1) := by decide +kernel
theorem dX1_takeOut_27 : decode cX1_takeOut 27 = .ok (.l2i, 1) := by decide +kernel
theorem dX1_takeOut_28 : decode cX1_takeOut 28 = .ok (.istore_n 3, 1) := by decide +kernel
theorem dX1_takeOut_29 : decode cX1_takeOut 29 = .ok (.aload_n 0, 1) := by decide +kernel
theorem dX1_takeOut_30 : decode cX1_takeOut 30 = .ok (.dup, 1) := by decide +kernel
theorem dX1_takeOut_31 : decode cX1_takeOut 31 = .ok (.getfield 7, 3) := by decide +kernel
theorem dX1_takeOut_34 : decode cX1_takeOut 34 = .ok (.iload_n 3, 1) := by decide +kernel
theorem dX1_takeOut_35 : decode cX1_takeOut 35 = .ok (.isub, 1) := by decide +kernel
theorem dX1_takeOut_36 : decode cX1_takeOut 36 = .ok (.putfield 7, 3) := by decide +kernel
theorem dX1_takeOut_39 : decode cX1_takeOut 39 = .ok (.aload_n 0, 1) := by decide +kernel
theorem dX1_takeOut_40 : decode cX1_takeOut 40 = .ok (.dup, 1) := by decide +kernel
theorem dX1_takeOut_41 : decode cX1_takeOut 41 = .ok (.getfield 13, 3) := by decide +kernel
theorem dX1_takeOut_44 : decode cX1_takeOut 44 = .ok (.iload_n 1, 1) := by decide +kernel
theorem dX1_takeOut_45 : decode cX1_takeOut 45 = .ok (.iload_n 3, 1) := by decide +kernel
theorem dX1_takeOut_46 : decode cX1_takeOut 46 = .ok (.isub, 1) := by decide +kernel
theorem dX1_takeOut_47 : decode cX1_takeOut 47 = .ok (.isub, 1) := by decide +kernel
theorem dX1_takeOut_48 : decode cX1_takeOut 48 = .ok (.putfield 13, 3) := by decide +kernel
theorem dX1_takeOut_51 : decode cX1_takeOut 51 = .ok (.iload_n 3, 1) := by decide +kernel
theorem dX1_takeOut_52 : decode cX1_takeOut 52 = .ok (.ireturn, 1) := by decide +kernel
def k_X1_takeOut : List pEn := [oAload 0, oGet 1 1, oAload 0, oGet 1 2, oAdd, oIstore 2, oIload 2, oIfgt 10, oConst (0), oIret, oIload 1, oI2l, oAload 0, oGet 1 1, oI2l, oLmul, oIload 2, oI2l, oLdiv, oL2i, oIstore 3, oAload 0, oDup, oGet 1 1, oIload 3, oSub, oPut 1 1, oAload 0, oDup, oGet 1 2, oIload 1, oIload 3, oSub, oSub, oPut 1 2, oIload 3, oIret]
def pc_X1_takeOut (i : Nat) : Nat := ([0, 1, 4, 5, 8, 9, 10, 11, 14, 15, 16, 17, 18, 19, 22, 23, 24, 25, 26, 27, 28, 29, 30, 31, 34, 35, 36, 39, 40, 41, 44, 45, 46, 47, 48, 51, 52] : List Nat).getD i 0
abbrev rm_X1_takeOut : Room := { frames := 0, cells := 0, slots := 0, locals := 0 }
theorem pl_X1_takeOut : pPlain yX1_takeOut 1 := by decide +kernel
set_option maxRecDepth 100000 in
set_option maxHeartbeats 4000000 in
theorem ok_k_X1_takeOut (l : Launch) : ∀ (i : Nat) (en : pEn), k_X1_takeOut[i]? = some en → EOK l cX1_takeOut yX1_takeOut.cls 4 ((some FieldType.int)) rm_X1_takeOut 0 pc_X1_takeOut i en := by
  refine allOK_at ?_
  refine And.intro (okAload_n dX1_takeOut_0 rfl rfl) ?_
  refine And.intro (okGet (C := RX1) (T := TX1) (N := 4) dX1_takeOut_1 rfl rfl (by decide) inX1 wm_1_33) ?_
  refine And.intro (okAload_n dX1_takeOut_4 rfl rfl) ?_
  refine And.intro (okGet (C := RX1) (T := TX1) (N := 4) dX1_takeOut_5 rfl rfl (by decide) inX1 wm_1_36) ?_
  refine And.intro (okAdd dX1_takeOut_8 rfl) ?_
  refine And.intro (okIstore_n dX1_takeOut_9 rfl rfl (by decide)) ?_
  refine And.intro (okIload_n dX1_takeOut_10 rfl rfl) ?_
  refine And.intro (okIfgt dX1_takeOut_11 rfl (by rfl)) ?_
  refine And.intro (okIconst dX1_takeOut_14 rfl (by first | rfl | decide)) ?_
  refine And.intro (okIret dX1_takeOut_15 rfl) ?_
  refine And.intro (okIload_n dX1_takeOut_16 rfl rfl) ?_
  refine And.intro (okI2l dX1_takeOut_17 rfl) ?_
  refine And.intro (okAload_n dX1_takeOut_18 rfl rfl) ?_
  refine And.intro (okGet (C := RX1) (T := TX1) (N := 4) dX1_takeOut_19 rfl rfl (by decide) inX1 wm_1_33) ?_
  refine And.intro (okI2l dX1_takeOut_22 rfl) ?_
  refine And.intro (okLmul dX1_takeOut_23 rfl) ?_
  refine And.intro (okIload_n dX1_takeOut_24 rfl rfl) ?_
  refine And.intro (okI2l dX1_takeOut_25 rfl) ?_
  refine And.intro (okLdiv dX1_takeOut_26 rfl) ?_
  refine And.intro (okL2i dX1_takeOut_27 rfl) ?_
  refine And.intro (okIstore_n dX1_takeOut_28 rfl rfl (by decide)) ?_
  refine And.intro (okAload_n dX1_takeOut_29 rfl rfl) ?_
  refine And.intro (okDup dX1_takeOut_30 rfl) ?_
  refine And.intro (okGet (C := RX1) (T := TX1) (N := 4) dX1_takeOut_31 rfl rfl (by decide) inX1 wm_1_33) ?_
  refine And.intro (okIload_n dX1_takeOut_34 rfl rfl) ?_
  refine And.intro (okSub dX1_takeOut_35 rfl) ?_
  refine And.intro (okPut (C := RX1) (T := TX1) (N := 4) dX1_takeOut_36 rfl rfl (by decide) inX1 tyX1_ok nmX1 rfl rfl wm_1_33) ?_
  refine And.intro (okAload_n dX1_takeOut_39 rfl rfl) ?_
  refine And.intro (okDup dX1_takeOut_40 rfl) ?_
  refine And.intro (okGet (C := RX1) (T := TX1) (N := 4) dX1_takeOut_41 rfl rfl (by decide) inX1 wm_1_36) ?_
  refine And.intro (okIload_n dX1_takeOut_44 rfl rfl) ?_
  refine And.intro (okIload_n dX1_takeOut_45 rfl rfl) ?_
  refine And.intro (okSub dX1_takeOut_46 rfl) ?_
  refine And.intro (okSub dX1_takeOut_47 rfl) ?_
  refine And.intro (okPut (C := RX1) (T := TX1) (N := 4) dX1_takeOut_48 rfl rfl (by decide) inX1 tyX1_ok nmX1 rfl rfl wm_1_36) ?_
  refine And.intro (okIload_n dX1_takeOut_51 rfl rfl) ?_
  refine And.intro (okIret dX1_takeOut_52 rfl) ?_
  exact trivial
def G_X1_takeOut : pG := fun args w => match args, w with
  | [.ref 0, .int m], [.inr (1, [.int r, .int f, .int g, .int z])] => some (some (.int (tkR f g m)), [.inr (1, [.int r, .int (f - tkR f g m), .int (tkG f g m), .int z])])
  | _, _ => none
set_option maxHeartbeats 400000 in
set_option maxRecDepth 100000 in
theorem run_X1_takeOut (rg : pRg) (r f g z : Int32) (m : Int32) : ∃ fu, ex k_X1_takeOut fu 0 [(0, .ref 0), (1, .int m)] [] [.inr (1, [.int r, .int f, .int g, .int z])] rg = some (some (.int (tkR f g m)), [.inr (1, [.int r, .int (f - tkR f g m), .int (tkG f g m), .int z])], rg) := by
  refine ⟨40, ?_⟩
  conv => lhs; whnf
  refine pif_c (fun h => ?_) (fun h => ?_)
  · conv => lhs; whnf
    refine (pif_f (ne0_of_pos h)).trans ?_
    simp only [tkR, tkG, if_pos h]
    rfl
  · simp only [tkR, tkG, if_neg h, Int32.sub_zero]
    rfl
theorem ct_X1_takeOut (l : Launch) : ∀ args0 w0 v0 w1 rg, G_X1_takeOut args0 w0 = some (v0, w1) → pCT l yX1_takeOut (pWs yX1_takeOut cX1_takeOut 4 ((some FieldType.int))) rm_X1_takeOut args0 w0 rg (v0, w1, rg) := by
  intro args0 w0 v0 w1 rg h
  unfold G_X1_takeOut at h
  split at h
  next =>
    cases h
    exact met_of_ex (by decide) (ok_k_X1_takeOut l) rfl (run_X1_takeOut rg _ _ _ _ _) (Nat.le_of_ble_eq_true rfl) rfl (Nat.le_refl _) (Nat.le_of_ble_eq_true rfl) (Nat.zero_le _) rfl rfl
  next => cases h
def F_X1_takeOut : pF := frN G_X1_takeOut
theorem ok_F_X1_takeOut (l : Launch) : pFOK l yX1_takeOut (pWs yX1_takeOut cX1_takeOut 4 ((some FieldType.int))) rm_X1_takeOut F_X1_takeOut := pFOK_fr (fun a b c d h => ct_X1_takeOut l a b c d rg00 h) (fun a b c d h => by
  unfold G_X1_takeOut at h
  split at h
  next => simp
  next => cases h)
theorem rc_F_X1_takeOut : pRcv 1 F_X1_takeOut := pRcv_fr (fun a b c d h => by
  unfold G_X1_takeOut at h
  split at h
  next => simp
  next => cases h) (fun a b c d h => by
  unfold G_X1_takeOut at h
  split at h
  next => exact ⟨_, _, _, rfl, rfl⟩
  next => cases h)
theorem dX1_putIn_0 : decode cX1_putIn 0 = .ok (.aload_n 0, 1) := by decide +kernel
theorem dX1_putIn_1 : decode cX1_putIn 1 = .ok (.dup, 1) := by decide +kernel
theorem dX1_putIn_2 : decode cX1_putIn 2 = .ok (.getfield 7, 3) := by decide +kernel
theorem dX1_putIn_5 : decode cX1_putIn 5 = .ok (.iload_n 1, 1) := by decide +kernel
theorem dX1_putIn_6 : decode cX1_putIn 6 = .ok (.iadd, 1) := by decide +kernel
theorem dX1_putIn_7 : decode cX1_putIn 7 = .ok (.putfield 7, 3) := by decide +kernel
theorem dX1_putIn_10 : decode cX1_putIn 10 = .ok (.aload_n 0, 1) := by decide +kernel
theorem dX1_putIn_11 : decode cX1_putIn 11 = .ok (.dup, 1) := by decide +kernel
theorem dX1_putIn_12 : decode cX1_putIn 12 = .ok (.getfield 13, 3) := by decide +kernel
theorem dX1_putIn_15 : decode cX1_putIn 15 = .ok (.iload_n 2, 1) := by decide +kernel
theorem dX1_putIn_16 : decode cX1_putIn 16 = .ok (.iadd, 1) := by decide +kernel
theorem dX1_putIn_17 : decode cX1_putIn 17 = .ok (.putfield 13, 3) := by decide +kernel
theorem dX1_putIn_20 : decode cX1_putIn 20 = .ok (.aload_n 0, 1) := by decide +kernel
theorem dX1_putIn_21 : decode cX1_putIn 21 = .ok (.getfield 7, 3) := by decide +kernel
theorem dX1_putIn_24 : decode cX1_putIn 24 = .ok (.aload_n 0, 1) := by decide +kernel
theorem dX1_putIn_25 : decode cX1_putIn 25 = .ok (.getfield 13, 3) := by decide +kernel
theorem dX1_putIn_28 : decode cX1_putIn 28 = .ok (.iadd, 1) := by decide +kernel
theorem dX1_putIn_29 : decode cX1_putIn 29 = .ok (.aload_n 0, 1) := by decide +kernel
theorem dX1_putIn_30 : decode cX1_putIn 30 = .ok (.getfield 19, 3) := by decide +kernel
theorem dX1_putIn_33 : decode cX1_putIn 33 = .ok (.isub, 1) := by decide +kernel
theorem dX1_putIn_34 : decode cX1_putIn 34 = .ok (.istore_n 3, 1) := by decide +kernel
theorem dX1_putIn_35 : decode cX1_putIn 35 = .ok (.iload_n 3, 1) := by decide +kernel
theorem dX1_putIn_36 : decode cX1_putIn 36 = .ok (.ifCond .le 11, 3) := by decide +kernel
theorem dX1_putIn_39 : decode cX1_putIn 39 = .ok (.aload_n 0, 1) := by decide +kernel
theorem dX1_putIn_40 : decode cX1_putIn 40 = .ok (.iload_n 3, 1) := by decide +kernel
theorem dX1_putIn_41 : decode cX1_putIn 41 = .ok (.invokevirtual 28, 3) := by decide +kernel
theorem dX1_putIn_44 : decode cX1_putIn 44 = .ok (.goto 4, 3) := by decide +kernel
theorem dX1_putIn_47 : decode cX1_putIn 47 = .ok (.iconst 0, 1) := by decide +kernel
theorem dX1_putIn_48 : decode cX1_putIn 48 = .ok (.ireturn, 1) := by decide +kernel
def k_X1_putIn : List pEn := [oAload 0, oDup, oGet 1 1, oIload 1, oAdd, oPut 1 1, oAload 0, oDup, oGet 1 2, oIload 2, oAdd, oPut 1 2, oAload 0, oGet 1 1, oAload 0, oGet 1 2, oAdd, oAload 0, oGet 1 0, oSub, oIstore 3, oIload 3, oIfle 27, oAload 0, oIload 3, oCall 2 F_X1_takeOut, oGoto 28, oConst (0), oIret]
def pc_X1_putIn (i : Nat) : Nat := ([0, 1, 2, 5, 6, 7, 10, 11, 12, 15, 16, 17, 20, 21, 24, 25, 28, 29, 30, 33, 34, 35, 36, 39, 40, 41, 44, 47, 48] : List Nat).getD i 0
abbrev rm_X1_putIn : Room := { frames := 1, cells := 0, slots := 0, locals := 23 }
theorem pl_X1_putIn : pPlain yX1_putIn 2 := by decide +kernel
set_option maxRecDepth 100000 in
set_option maxHeartbeats 4000000 in
theorem ok_k_X1_putIn (l : Launch) : ∀ (i : Nat) (en : pEn), k_X1_putIn[i]? = some en → EOK l cX1_putIn yX1_putIn.cls 4 ((some FieldType.int)) rm_X1_putIn 0 pc_X1_putIn i en := by
  refine allOK_at ?_
  refine And.intro (okAload_n dX1_putIn_0 rfl rfl) ?_
  refine And.intro (okDup dX1_putIn_1 rfl) ?_
  refine And.intro (okGet (C := RX1) (T := TX1) (N := 4) dX1_putIn_2 rfl rfl (by decide) inX1 wm_1_33) ?_
  refine And.intro (okIload_n dX1_putIn_5 rfl rfl) ?_
  refine And.intro (okAdd dX1_putIn_6 rfl) ?_
  refine And.intro (okPut (C := RX1) (T := TX1) (N := 4) dX1_putIn_7 rfl rfl (by decide) inX1 tyX1_ok nmX1 rfl rfl wm_1_33) ?_
  refine And.intro (okAload_n dX1_putIn_10 rfl rfl) ?_
  refine And.intro (okDup dX1_putIn_11 rfl) ?_
  refine And.intro (okGet (C := RX1) (T := TX1) (N := 4) dX1_putIn_12 rfl rfl (by decide) inX1 wm_1_36) ?_
  refine And.intro (okIload_n dX1_putIn_15 rfl rfl) ?_
  refine And.intro (okAdd dX1_putIn_16 rfl) ?_
  refine And.intro (okPut (C := RX1) (T := TX1) (N := 4) dX1_putIn_17 rfl rfl (by decide) inX1 tyX1_ok nmX1 rfl rfl wm_1_36) ?_
  refine And.intro (okAload_n dX1_putIn_20 rfl rfl) ?_
  refine And.intro (okGet (C := RX1) (T := TX1) (N := 4) dX1_putIn_21 rfl rfl (by decide) inX1 wm_1_33) ?_
  refine And.intro (okAload_n dX1_putIn_24 rfl rfl) ?_
  refine And.intro (okGet (C := RX1) (T := TX1) (N := 4) dX1_putIn_25 rfl rfl (by decide) inX1 wm_1_36) ?_
  refine And.intro (okAdd dX1_putIn_28 rfl) ?_
  refine And.intro (okAload_n dX1_putIn_29 rfl rfl) ?_
  refine And.intro (okGet (C := RX1) (T := TX1) (N := 4) dX1_putIn_30 rfl rfl (by decide) inX1 wm_1_32) ?_
  refine And.intro (okSub dX1_putIn_33 rfl) ?_
  refine And.intro (okIstore_n dX1_putIn_34 rfl rfl (by decide)) ?_
  refine And.intro (okIload_n dX1_putIn_35 rfl rfl) ?_
  refine And.intro (okIfle dX1_putIn_36 rfl (by rfl)) ?_
  refine And.intro (okAload_n dX1_putIn_39 rfl rfl) ?_
  refine And.intro (okIload_n dX1_putIn_40 rfl rfl) ?_
  refine And.intro (okCallV (y := yX1_takeOut) (T := TX1) (oCall_is _ _ _) dX1_putIn_41 rfl (ok_F_X1_takeOut l) rc_F_X1_takeOut rfl wm_2_142 wm_2_143 wm_2_144 wm_1_3 wm_2_145 pl_X1_takeOut (by decide)) ?_
  refine And.intro (okGoto dX1_putIn_44 (by rfl)) ?_
  refine And.intro (okIconst dX1_putIn_47 rfl (by first | rfl | decide)) ?_
  refine And.intro (okIret dX1_putIn_48 rfl) ?_
  exact trivial
def G_X1_putIn : pG := fun args w => match args, w with
  | [.ref 0, .int a, .int b], [.inr (1, [.int r, .int f, .int g, .int z])] => some (some (.int (puR r f g a b)), [.inr (1, [.int r, .int (puF r f g a b), .int (puG r f g a b), .int z])])
  | _, _ => none
set_option maxHeartbeats 400000 in
set_option maxRecDepth 100000 in
theorem run_X1_putIn (rg : pRg) (r f g z : Int32) (a b : Int32) : ∃ fu, ex k_X1_putIn fu 0 [(0, .ref 0), (1, .int a), (2, .int b)] [] [.inr (1, [.int r, .int f, .int g, .int z])] rg = some (some (.int (puR r f g a b)), [.inr (1, [.int r, .int (puF r f g a b), .int (puG r f g a b), .int z])], rg) := by
  refine ⟨40, ?_⟩
  conv => lhs; whnf
  refine pif_c (fun h => ?_) (fun h => ?_)
  · simp only [puR, puF, puG, if_pos h, Int32.sub_zero]
    rfl
  · simp only [puR, puF, puG, if_neg h]
    rfl
theorem ct_X1_putIn (l : Launch) : ∀ args0 w0 v0 w1 rg, G_X1_putIn args0 w0 = some (v0, w1) → pCT l yX1_putIn (pWs yX1_putIn cX1_putIn 4 ((some FieldType.int))) rm_X1_putIn args0 w0 rg (v0, w1, rg) := by
  intro args0 w0 v0 w1 rg h
  unfold G_X1_putIn at h
  split at h
  next =>
    cases h
    exact met_of_ex (by decide) (ok_k_X1_putIn l) rfl (run_X1_putIn rg _ _ _ _ _ _) (Nat.le_of_ble_eq_true rfl) rfl (Nat.le_refl _) (Nat.le_of_ble_eq_true rfl) (Nat.zero_le _) rfl rfl
  next => cases h
def F_X1_putIn : pF := frN G_X1_putIn
theorem ok_F_X1_putIn (l : Launch) : pFOK l yX1_putIn (pWs yX1_putIn cX1_putIn 4 ((some FieldType.int))) rm_X1_putIn F_X1_putIn := pFOK_fr (fun a b c d h => ct_X1_putIn l a b c d rg00 h) (fun a b c d h => by
  unfold G_X1_putIn at h
  split at h
  next => simp
  next => cases h)
theorem rc_F_X1_putIn : pRcv 1 F_X1_putIn := pRcv_fr (fun a b c d h => by
  unfold G_X1_putIn at h
  split at h
  next => simp
  next => cases h) (fun a b c d h => by
  unfold G_X1_putIn at h
  split at h
  next => exact ⟨_, _, _, rfl, rfl⟩
  next => cases h)
theorem dX1_noteSum_0 : decode cX1_noteSum 0 = .ok (.aload_n 0, 1) := by decide +kernel
theorem dX1_noteSum_1 : decode cX1_noteSum 1 = .ok (.aload_n 0, 1) := by decide +kernel
theorem dX1_noteSum_2 : decode cX1_noteSum 2 = .ok (.getfield 16, 3) := by decide +kernel
theorem dX1_noteSum_5 : decode cX1_noteSum 5 = .ok (.aload_n 0, 1) := by decide +kernel
theorem dX1_noteSum_6 : decode cX1_noteSum 6 = .ok (.getfield 7, 3) := by decide +kernel
theorem dX1_noteSum_9 : decode cX1_noteSum 9 = .ok (.aload_n 0, 1) := by decide +kernel
theorem dX1_noteSum_10 : decode cX1_noteSum 10 = .ok (.getfield 13, 3) := by decide +kernel
theorem dX1_noteSum_13 : decode cX1_noteSum 13 = .ok (.iadd, 1) := by decide +kernel
theorem dX1_noteSum_14 : decode cX1_noteSum 14 = .ok (.invokestatic 32, 3) := by decide +kernel
theorem dX1_noteSum_17 : decode cX1_noteSum 17 = .ok (.putfield 16, 3) := by decide +kernel
theorem dX1_noteSum_20 : decode cX1_noteSum 20 = .ok (.return_, 1) := by decide +kernel
def k_X1_noteSum : List pEn := [oAload 0, oAload 0, oGet 1 3, oAload 0, oGet 1 1, oAload 0, oGet 1 2, oAdd, oMax, oPut 1 3, oVret]
def pc_X1_noteSum (i : Nat) : Nat := ([0, 1, 2, 5, 6, 9, 10, 13, 14, 17, 20] : List Nat).getD i 0
abbrev rm_X1_noteSum : Room := { frames := 1, cells := 0, slots := 0, locals := 21 }
theorem pl_X1_noteSum : pPlain yX1_noteSum 0 := by decide +kernel
set_option maxRecDepth 100000 in
set_option maxHeartbeats 4000000 in
theorem ok_k_X1_noteSum (l : Launch) : ∀ (i : Nat) (en : pEn), k_X1_noteSum[i]? = some en → EOK l cX1_noteSum yX1_noteSum.cls 1 (none) rm_X1_noteSum 0 pc_X1_noteSum i en := by
  refine allOK_at ?_
  refine And.intro (okAload_n dX1_noteSum_0 rfl rfl) ?_
  refine And.intro (okAload_n dX1_noteSum_1 rfl rfl) ?_
  refine And.intro (okGet (C := RX1) (T := TX1) (N := 4) dX1_noteSum_2 rfl rfl (by decide) inX1 wm_1_38) ?_
  refine And.intro (okAload_n dX1_noteSum_5 rfl rfl) ?_
  refine And.intro (okGet (C := RX1) (T := TX1) (N := 4) dX1_noteSum_6 rfl rfl (by decide) inX1 wm_1_33) ?_
  refine And.intro (okAload_n dX1_noteSum_9 rfl rfl) ?_
  refine And.intro (okGet (C := RX1) (T := TX1) (N := 4) dX1_noteSum_10 rfl rfl (by decide) inX1 wm_1_36) ?_
  refine And.intro (okAdd dX1_noteSum_13 rfl) ?_
  refine And.intro (okMax dX1_noteSum_14 rfl wm_3_41 wm_2_115 wm_1_11 wm_2_116 (by decide) (by decide)) ?_
  refine And.intro (okPut (C := RX1) (T := TX1) (N := 4) dX1_noteSum_17 rfl rfl (by decide) inX1 tyX1_ok nmX1 rfl rfl wm_1_38) ?_
  refine And.intro (okVret dX1_noteSum_20 rfl) ?_
  exact trivial
def G_X1_noteSum : pG := fun args w => match args, w with
  | [.ref 0], [.inr (1, [.int r, .int f, .int g, .int z])] => some (none, [.inr (1, [.int r, .int f, .int g, .int (mxI z (f + g))])])
  | _, _ => none
set_option maxHeartbeats 400000 in
set_option maxRecDepth 100000 in
theorem run_X1_noteSum (rg : pRg) (r f g z : Int32) : ∃ fu, ex k_X1_noteSum fu 0 [(0, .ref 0)] [] [.inr (1, [.int r, .int f, .int g, .int z])] rg = some (none, [.inr (1, [.int r, .int f, .int g, .int (mxI z (f + g))])], rg) := by
  refine ⟨40, ?_⟩
  rfl
theorem ct_X1_noteSum (l : Launch) : ∀ args0 w0 v0 w1 rg, G_X1_noteSum args0 w0 = some (v0, w1) → pCT l yX1_noteSum (pWs yX1_noteSum cX1_noteSum 1 (none)) rm_X1_noteSum args0 w0 rg (v0, w1, rg) := by
  intro args0 w0 v0 w1 rg h
  unfold G_X1_noteSum at h
  split at h
  next =>
    cases h
    exact met_of_ex (by decide) (ok_k_X1_noteSum l) rfl (run_X1_noteSum rg _ _ _ _) (Nat.le_of_ble_eq_true rfl) rfl (Nat.le_refl _) (Nat.le_of_ble_eq_true rfl) (Nat.zero_le _) rfl rfl
  next => cases h
def F_X1_noteSum : pF := frN G_X1_noteSum
theorem ok_F_X1_noteSum (l : Launch) : pFOK l yX1_noteSum (pWs yX1_noteSum cX1_noteSum 1 (none)) rm_X1_noteSum F_X1_noteSum := pFOK_fr (fun a b c d h => ct_X1_noteSum l a b c d rg00 h) (fun a b c d h => by
  unfold G_X1_noteSum at h
  split at h
  next => simp
  next => cases h)
theorem rc_F_X1_noteSum : pRcv 1 F_X1_noteSum := pRcv_fr (fun a b c d h => by
  unfold G_X1_noteSum at h
  split at h
  next => simp
  next => cases h) (fun a b c d h => by
  unfold G_X1_noteSum at h
  split at h
  next => exact ⟨_, _, _, rfl, rfl⟩
  next => cases h)
end
