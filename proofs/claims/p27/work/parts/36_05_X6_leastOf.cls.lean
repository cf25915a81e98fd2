noncomputable section
theorem dX6_leastOf_0 : decode cX6_leastOf 0 = .ok (.iload_n 0, 1) := by decide +kernel
theorem dX6_leastOf_1 : decode cX6_leastOf 1 = .ok (.ifCond .ne 7, 3) := by decide +kernel
theorem dX6_leastOf_4 : decode cX6_leastOf 4 = .ok (.iconst 1, 1) := by decide +kernel
theorem dX6_leastOf_5 : decode cX6_leastOf 5 = .ok (.goto 4, 3) := by decide +kernel
theorem dX6_leastOf_8 : decode cX6_leastOf 8 = .ok (.iconst 0, 1) := by decide +kernel
theorem dX6_leastOf_9 : decode cX6_leastOf 9 = .ok (.ireturn, 1) := by decide +kernel
def k_X6_leastOf : List pEn := [oIload 0, oIfne 4, oConst (1), oGoto 5, oConst (0), oIret]
def pc_X6_leastOf (i : Nat) : Nat := ([0, 1, 4, 5, 8, 9] : List Nat).getD i 0
abbrev rm_X6_leastOf : Room := { frames := 0, cells := 0, slots := 0, locals := 0 }
theorem pl_X6_leastOf : pPlain yX6_leastOf 1 := by decide +kernel
set_option maxRecDepth 100000 in
set_option maxHeartbeats 4000000 in
theorem ok_k_X6_leastOf (l : Launch) : ∀ (i : Nat) (en : pEn), k_X6_leastOf[i]? = some en → EOK l cX6_leastOf yX6_leastOf.cls 1 ((some FieldType.int)) rm_X6_leastOf 0 pc_X6_leastOf i en := by
  refine allOK_at ?_
  refine And.intro (okIload_n dX6_leastOf_0 rfl rfl) ?_
  refine And.intro (okIfne dX6_leastOf_1 rfl (by rfl)) ?_
  refine And.intro (okIconst dX6_leastOf_4 rfl (by first | rfl | decide)) ?_
  refine And.intro (okGoto dX6_leastOf_5 (by rfl)) ?_
  refine And.intro (okIconst dX6_leastOf_8 rfl (by first | rfl | decide)) ?_
  refine And.intro (okIret dX6_leastOf_9 rfl) ?_
  exact trivial
def G_X6_leastOf : pG := fun args w => match args, w with
  | [.int k], [] => some (some (.int (lsI k)), [])
  | _, _ => none
set_option maxHeartbeats 400000 in
set_option maxRecDepth 100000 in
theorem run_X6_leastOf (rg : pRg) (k : Int32) : ∃ fu, ex k_X6_leastOf fu 0 [(0, .int k)] [] [] rg = some (some (.int (lsI k)), [], rg) := by
  refine ⟨40, ?_⟩
  conv => lhs; whnf
  refine pif_c (fun h0 => ?_) (fun h0 => ?_)
  · rw [show lsI k = _ from if_pos h0]
    rfl
  · rw [show lsI k = _ from if_neg h0]
    rfl
theorem ct_X6_leastOf (l : Launch) : ∀ args0 w0 v0 w1 rg, G_X6_leastOf args0 w0 = some (v0, w1) → pCT l yX6_leastOf (pWs yX6_leastOf cX6_leastOf 1 ((some FieldType.int))) rm_X6_leastOf args0 w0 rg (v0, w1, rg) := by
  intro args0 w0 v0 w1 rg h
  unfold G_X6_leastOf at h
  split at h
  next =>
    cases h
    exact met_of_ex (by decide) (ok_k_X6_leastOf l) rfl (run_X6_leastOf rg _) (Nat.le_of_ble_eq_true rfl) rfl (Nat.le_refl _) (Nat.le_of_ble_eq_true rfl) (Nat.zero_le _) rfl rfl
  next => cases h
def F_X6_leastOf : pF := frN G_X6_leastOf
theorem ok_F_X6_leastOf (l : Launch) : pFOK l yX6_leastOf (pWs yX6_leastOf cX6_leastOf 1 ((some FieldType.int))) rm_X6_leastOf F_X6_leastOf := pFOK_fr (fun a b c d h => ct_X6_leastOf l a b c d rg00 h) (fun a b c d h => by
  unfold G_X6_leastOf at h
  split at h
  next => simp
  next => cases h)
end
