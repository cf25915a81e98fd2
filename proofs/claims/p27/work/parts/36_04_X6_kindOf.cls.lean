noncomputable section
def rkI (c : Int32) : Int32 := if c = 98 then 0 else if c = 102 then 2 else if c = 103 then 1 else -9
def lsI (k : Int32) : Int32 := if k = 0 then 1 else 0
def msI (k : Int32) : Int32 := if k = 0 then 50 else if k = 1 then 3 else 2000
theorem dX6_kindOf_0 : decode cX6_kindOf 0 = .ok (.iload_n 0, 1) := by decide +kernel
theorem dX6_kindOf_1 : decode cX6_kindOf 1 = .ok (.lookupswitch 41 #[(98, 35), (102, 39), (103, 37)], 35) := by decide +kernel
theorem dX6_kindOf_36 : decode cX6_kindOf 36 = .ok (.iconst 0, 1) := by decide +kernel
theorem dX6_kindOf_37 : decode cX6_kindOf 37 = .ok (.ireturn, 1) := by decide +kernel
theorem dX6_kindOf_38 : decode cX6_kindOf 38 = .ok (.iconst 1, 1) := by decide +kernel
theorem dX6_kindOf_39 : decode cX6_kindOf 39 = .ok (.ireturn, 1) := by decide +kernel
theorem dX6_kindOf_40 : decode cX6_kindOf 40 = .ok (.iconst 2, 1) := by decide +kernel
theorem dX6_kindOf_41 : decode cX6_kindOf 41 = .ok (.ireturn, 1) := by decide +kernel
theorem dX6_kindOf_42 : decode cX6_kindOf 42 = .ok (.bipush (-9), 2) := by decide +kernel
theorem dX6_kindOf_44 : decode cX6_kindOf 44 = .ok (.ireturn, 1) := by decide +kernel
def k_X6_kindOf : List pEn := [oIload 0, oSw [(98, 2), (102, 6), (103, 4)] 8, oConst (0), oIret, oConst (1), oIret, oConst (2), oIret, oConst (-9), oIret]
def pc_X6_kindOf (i : Nat) : Nat := ([0, 1, 36, 37, 38, 39, 40, 41, 42, 44] : List Nat).getD i 0
abbrev rm_X6_kindOf : Room := { frames := 0, cells := 0, slots := 0, locals := 0 }
theorem pl_X6_kindOf : pPlain yX6_kindOf 1 := by decide +kernel
set_option maxRecDepth 100000 in
set_option maxHeartbeats 4000000 in
theorem ok_k_X6_kindOf (l : Launch) : ∀ (i : Nat) (en : pEn), k_X6_kindOf[i]? = some en → EOK l cX6_kindOf yX6_kindOf.cls 1 ((some FieldType.int)) rm_X6_kindOf 0 pc_X6_kindOf i en := by
  refine allOK_at ?_
  refine And.intro (okIload_n dX6_kindOf_0 rfl rfl) ?_
  refine And.intro (okLsw dX6_kindOf_1 (by decide) (by decide) (by rfl)) ?_
  refine And.intro (okIconst dX6_kindOf_36 rfl (by first | rfl | decide)) ?_
  refine And.intro (okIret dX6_kindOf_37 rfl) ?_
  refine And.intro (okIconst dX6_kindOf_38 rfl (by first | rfl | decide)) ?_
  refine And.intro (okIret dX6_kindOf_39 rfl) ?_
  refine And.intro (okIconst dX6_kindOf_40 rfl (by first | rfl | decide)) ?_
  refine And.intro (okIret dX6_kindOf_41 rfl) ?_
  refine And.intro (okBipush dX6_kindOf_42 rfl (by first | rfl | decide)) ?_
  refine And.intro (okIret dX6_kindOf_44 rfl) ?_
  exact trivial
def G_X6_kindOf : pG := fun args w => match args, w with
  | [.int c], [] => some (some (.int (rkI c)), [])
  | _, _ => none
set_option maxHeartbeats 400000 in
set_option maxRecDepth 100000 in
theorem run_X6_kindOf (rg : pRg) (c : Int32) : ∃ fu, ex k_X6_kindOf fu 0 [(0, .int c)] [] [] rg = some (some (.int (rkI c)), [], rg) := by
  refine ⟨40, ?_⟩
  conv => lhs; whnf
  refine pif_c (fun h0 => ?_) (fun h0 => ?_)
  · rw [show rkI c = _ from if_pos h0]
    rfl
  · conv => lhs; whnf
    refine pif_c (fun h1 => ?_) (fun h1 => ?_)
    · rw [show rkI c = _ from (if_neg h0).trans (if_pos h1)]
      rfl
    · conv => lhs; whnf
      refine pif_c (fun h2 => ?_) (fun h2 => ?_)
      · rw [show rkI c = _ from (if_neg h0).trans ((if_neg h1).trans (if_pos h2))]
        rfl
      · rw [show rkI c = _ from (if_neg h0).trans ((if_neg h1).trans (if_neg h2))]
        rfl
theorem ct_X6_kindOf (l : Launch) : ∀ args0 w0 v0 w1 rg, G_X6_kindOf args0 w0 = some (v0, w1) → pCT l yX6_kindOf (pWs yX6_kindOf cX6_kindOf 1 ((some FieldType.int))) rm_X6_kindOf args0 w0 rg (v0, w1, rg) := by
  intro args0 w0 v0 w1 rg h
  unfold G_X6_kindOf at h
  split at h
  next =>
    cases h
    exact met_of_ex (by decide) (ok_k_X6_kindOf l) rfl (run_X6_kindOf rg _) (Nat.le_of_ble_eq_true rfl) rfl (Nat.le_refl _) (Nat.le_of_ble_eq_true rfl) (Nat.zero_le _) rfl rfl
  next => cases h
def F_X6_kindOf : pF := frN G_X6_kindOf
theorem ok_F_X6_kindOf (l : Launch) : pFOK l yX6_kindOf (pWs yX6_kindOf cX6_kindOf 1 ((some FieldType.int))) rm_X6_kindOf F_X6_kindOf := pFOK_fr (fun a b c d h => ct_X6_kindOf l a b c d rg00 h) (fun a b c d h => by
  unfold G_X6_kindOf at h
  split at h
  next => simp
  next => cases h)
end
