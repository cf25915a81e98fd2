noncomputable section
theorem dX6_mostOf_0 : decode cX6_mostOf 0 = .ok (.iload_n 0, 1) := by decide +kernel
theorem dX6_mostOf_1 : decode cX6_mostOf 1 = .ok (.lookupswitch 32 #[(0, 27), (1, 30)], 27) := by decide +kernel
theorem dX6_mostOf_28 : decode cX6_mostOf 28 = .ok (.bipush 50, 2) := by decide +kernel
theorem dX6_mostOf_30 : decode cX6_mostOf 30 = .ok (.ireturn, 1) := by decide +kernel
theorem dX6_mostOf_31 : decode cX6_mostOf 31 = .ok (.iconst 3, 1) := by decide +kernel
theorem dX6_mostOf_32 : decode cX6_mostOf 32 = .ok (.ireturn, 1) := by decide +kernel
theorem dX6_mostOf_33 : decode cX6_mostOf 33 = .ok (.sipush 2000, 3) := by decide +kernel
theorem dX6_mostOf_36 : decode cX6_mostOf 36 = .ok (.ireturn, 1) := by decide +kernel
def k_X6_mostOf : List pEn := [oIload 0, oSw [(0, 2), (1, 4)] 6, oConst (50), oIret, oConst (3), oIret, oConst (2000), oIret]
def pc_X6_mostOf (i : Nat) : Nat := ([0, 1, 28, 30, 31, 32, 33, 36] : List Nat).getD i 0
abbrev rm_X6_mostOf : Room := { frames := 0, cells := 0, slots := 0, locals := 0 }
theorem pl_X6_mostOf : pPlain yX6_mostOf 1 := by decide +kernel
set_option maxRecDepth 100000 in
set_option maxHeartbeats 4000000 in
theorem ok_k_X6_mostOf (l : Launch) : ∀ (i : Nat) (en : pEn), k_X6_mostOf[i]? = some en → EOK l cX6_mostOf yX6_mostOf.cls 1 ((some FieldType.int)) rm_X6_mostOf 0 pc_X6_mostOf i en := by
  refine allOK_at ?_
  refine And.intro (okIload_n dX6_mostOf_0 rfl rfl) ?_
  refine And.intro (okLsw dX6_mostOf_1 (by decide) (by decide) (by rfl)) ?_
  refine And.intro (okBipush dX6_mostOf_28 rfl (by first | rfl | decide)) ?_
  refine And.intro (okIret dX6_mostOf_30 rfl) ?_
  refine And.intro (okIconst dX6_mostOf_31 rfl (by first | rfl | decide)) ?_
  refine And.intro (okIret dX6_mostOf_32 rfl) ?_
  refine And.intro (okSipush dX6_mostOf_33 rfl (by first | rfl | decide)) ?_
  refine And.intro (okIret dX6_mostOf_36 rfl) ?_
  exact trivial
def G_X6_mostOf : pG := fun args w => match args, w with
  | [.int k], [] => some (some (.int (msI k)), [])
  | _, _ => none
set_option maxHeartbeats 400000 in
set_option maxRecDepth 100000 in
theorem run_X6_mostOf (rg : pRg) (k : Int32) : ∃ fu, ex k_X6_mostOf fu 0 [(0, .int k)] [] [] rg = some (some (.int (msI k)), [], rg) := by
  refine ⟨40, ?_⟩
  conv => lhs; whnf
  refine pif_c (fun h0 => ?_) (fun h0 => ?_)
  · rw [show msI k = _ from if_pos h0]
    rfl
  · conv => lhs; whnf
    refine pif_c (fun h1 => ?_) (fun h1 => ?_)
    · rw [show msI k = _ from (if_neg h0).trans (if_pos h1)]
      rfl
    · rw [show msI k = _ from (if_neg h0).trans (if_neg h1)]
      rfl
theorem ct_X6_mostOf (l : Launch) : ∀ args0 w0 v0 w1 rg, G_X6_mostOf args0 w0 = some (v0, w1) → pCT l yX6_mostOf (pWs yX6_mostOf cX6_mostOf 1 ((some FieldType.int))) rm_X6_mostOf args0 w0 rg (v0, w1, rg) := by
  intro args0 w0 v0 w1 rg h
  unfold G_X6_mostOf at h
  split at h
  next =>
    cases h
    exact met_of_ex (by decide) (ok_k_X6_mostOf l) rfl (run_X6_mostOf rg _) (Nat.le_of_ble_eq_true rfl) rfl (Nat.le_refl _) (Nat.le_of_ble_eq_true rfl) (Nat.zero_le _) rfl rfl
  next => cases h
def F_X6_mostOf : pF := frN G_X6_mostOf
theorem ok_F_X6_mostOf (l : Launch) : pFOK l yX6_mostOf (pWs yX6_mostOf cX6_mostOf 1 ((some FieldType.int))) rm_X6_mostOf F_X6_mostOf := pFOK_fr (fun a b c d h => ct_X6_mostOf l a b c d rg00 h) (fun a b c d h => by
  unfold G_X6_mostOf at h
  split at h
  next => simp
  next => cases h)
end
