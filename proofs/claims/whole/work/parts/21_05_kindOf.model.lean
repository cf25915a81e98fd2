noncomputable section
def kdI (c : Int32) : Int32 := if c = 98 then 0 else if c = 103 then 1 else if c = 102 then 2 else -9
theorem dX9_kindOf_0 : decode cX9_kindOf 0 = .ok (.iload_n 0, 1) := by decide +kernel
theorem dX9_kindOf_1 : decode cX9_kindOf 1 = .ok (.bipush 98, 2) := by decide +kernel
theorem dX9_kindOf_3 : decode cX9_kindOf 3 = .ok (.if_icmp .ne 7, 3) := by decide +kernel
theorem dX9_kindOf_6 : decode cX9_kindOf 6 = .ok (.iconst 0, 1) := by decide +kernel
theorem dX9_kindOf_7 : decode cX9_kindOf 7 = .ok (.goto 25, 3) := by decide +kernel
theorem dX9_kindOf_10 : decode cX9_kindOf 10 = .ok (.iload_n 0, 1) := by decide +kernel
theorem dX9_kindOf_11 : decode cX9_kindOf 11 = .ok (.bipush 103, 2) := by decide +kernel
theorem dX9_kindOf_13 : decode cX9_kindOf 13 = .ok (.if_icmp .ne 7, 3) := by decide +kernel
theorem dX9_kindOf_16 : decode cX9_kindOf 16 = .ok (.iconst 1, 1) := by decide +kernel
theorem dX9_kindOf_17 : decode cX9_kindOf 17 = .ok (.goto 15, 3) := by decide +kernel
theorem dX9_kindOf_20 : decode cX9_kindOf 20 = .ok (.iload_n 0, 1) := by decide +kernel
theorem dX9_kindOf_21 : decode cX9_kindOf 21 = .ok (.bipush 102, 2) := by decide +kernel
theorem dX9_kindOf_23 : decode cX9_kindOf 23 = .ok (.if_icmp .ne 7, 3) := by decide +kernel
theorem dX9_kindOf_26 : decode cX9_kindOf 26 = .ok (.iconst 2, 1) := by decide +kernel
theorem dX9_kindOf_27 : decode cX9_kindOf 27 = .ok (.goto 5, 3) := by decide +kernel
theorem dX9_kindOf_30 : decode cX9_kindOf 30 = .ok (.bipush (-9), 2) := by decide +kernel
theorem dX9_kindOf_32 : decode cX9_kindOf 32 = .ok (.ireturn, 1) := by decide +kernel
def k_X9_kindOf : List pEn := [oIload 0, oConst (98), oCne 5, oConst (0), oGoto 16, oIload 0, oConst (103), oCne 10, oConst (1), oGoto 16, oIload 0, oConst (102), oCne 15, oConst (2), oGoto 16, oConst (-9), oIret]
def pc_X9_kindOf (i : Nat) : Nat := ([0, 1, 3, 6, 7, 10, 11, 13, 16, 17, 20, 21, 23, 26, 27, 30, 32] : List Nat).getD i 0
abbrev rm_X9_kindOf : Room := { frames := 0, cells := 0, slots := 0, locals := 0 }
theorem pl_X9_kindOf : pPlain yX9_kindOf 1 := by decide +kernel
set_option maxRecDepth 100000 in
set_option maxHeartbeats 4000000 in
theorem ok_k_X9_kindOf (l : Launch) : ∀ (i : Nat) (en : pEn), k_X9_kindOf[i]? = some en → EOK l cX9_kindOf yX9_kindOf.cls 1 ((some FieldType.int)) rm_X9_kindOf 0 pc_X9_kindOf i en := by
  refine allOK_at ?_
  refine And.intro (okIload_n dX9_kindOf_0 rfl rfl) ?_
  refine And.intro (okBipush dX9_kindOf_1 rfl (by first | rfl | decide)) ?_
  refine And.intro (okCne dX9_kindOf_3 rfl (by rfl)) ?_
  refine And.intro (okIconst dX9_kindOf_6 rfl (by first | rfl | decide)) ?_
  refine And.intro (okGoto dX9_kindOf_7 (by rfl)) ?_
  refine And.intro (okIload_n dX9_kindOf_10 rfl rfl) ?_
  refine And.intro (okBipush dX9_kindOf_11 rfl (by first | rfl | decide)) ?_
  refine And.intro (okCne dX9_kindOf_13 rfl (by rfl)) ?_
  refine And.intro (okIconst dX9_kindOf_16 rfl (by first | rfl | decide)) ?_
  refine And.intro (okGoto dX9_kindOf_17 (by rfl)) ?_
  refine And.intro (okIload_n dX9_kindOf_20 rfl rfl) ?_
  refine And.intro (okBipush dX9_kindOf_21 rfl (by first | rfl | decide)) ?_
  refine And.intro (okCne dX9_kindOf_23 rfl (by rfl)) ?_
  refine And.intro (okIconst dX9_kindOf_26 rfl (by first | rfl | decide)) ?_
  refine And.intro (okGoto dX9_kindOf_27 (by rfl)) ?_
  refine And.intro (okBipush dX9_kindOf_30 rfl (by first | rfl | decide)) ?_
  refine And.intro (okIret dX9_kindOf_32 rfl) ?_
  exact trivial
def G_X9_kindOf : pG := fun args w => match args, w with
  | [.int v], [] => some (some (.int (kdI v)), [])
  | _, _ => none
set_option maxHeartbeats 400000 in
set_option maxRecDepth 100000 in
theorem run_X9_kindOf (rg : pRg) (v : Int32) : ∃ fu, ex k_X9_kindOf fu 0 [(0, .int v)] [] [] rg = some (some (.int (kdI v)), [], rg) := by
  refine ⟨40, ?_⟩
  conv => lhs; whnf
  refine pif_c (fun h => ?_) (fun h => ?_)
  · simp only [kdI, if_pos h] <;> rfl
  · conv => lhs; whnf
    refine pif_c (fun h2 => ?_) (fun h2 => ?_)
    · simp only [kdI, if_neg h, if_pos h2] <;> rfl
    · conv => lhs; whnf
      refine pif_c (fun h3 => ?_) (fun h3 => ?_)
      · simp only [kdI, if_neg h, if_neg h2, if_pos h3] <;> rfl
      · simp only [kdI, if_neg h, if_neg h2, if_neg h3] <;> rfl
theorem ct_X9_kindOf (l : Launch) : ∀ args0 w0 v0 w1 rg, G_X9_kindOf args0 w0 = some (v0, w1) → pCT l yX9_kindOf (pWs yX9_kindOf cX9_kindOf 1 ((some FieldType.int))) rm_X9_kindOf args0 w0 rg (v0, w1, rg) := by
  intro args0 w0 v0 w1 rg h
  unfold G_X9_kindOf at h
  split at h
  next =>
    cases h
    exact met_of_ex (by decide) (ok_k_X9_kindOf l) rfl (run_X9_kindOf rg _) (Nat.le_of_ble_eq_true rfl) rfl (Nat.le_refl _) (Nat.le_of_ble_eq_true rfl) (Nat.zero_le _) rfl rfl
  next => cases h
def F_X9_kindOf : pF := frN G_X9_kindOf
theorem ok_F_X9_kindOf (l : Launch) : pFOK l yX9_kindOf (pWs yX9_kindOf cX9_kindOf 1 ((some FieldType.int))) rm_X9_kindOf F_X9_kindOf := pFOK_fr (fun a b c d h => ct_X9_kindOf l a b c d rg00 h) (fun a b c d h => by
  unfold G_X9_kindOf at h
  split at h
  next => simp
  next => cases h)
end
