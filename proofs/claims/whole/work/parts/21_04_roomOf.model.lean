noncomputable section
def rmI (c : Int32) : Int32 := if c = 0 then 20000 else if c = 1 then 30000 else 10000
theorem dX9_roomOf_0 : decode cX9_roomOf 0 = .ok (.iload_n 0, 1) := by decide +kernel
theorem dX9_roomOf_1 : decode cX9_roomOf 1 = .ok (.ifCond .ne 9, 3) := by decide +kernel
theorem dX9_roomOf_4 : decode cX9_roomOf 4 = .ok (.sipush 20000, 3) := by decide +kernel
theorem dX9_roomOf_7 : decode cX9_roomOf 7 = .ok (.goto 17, 3) := by decide +kernel
theorem dX9_roomOf_10 : decode cX9_roomOf 10 = .ok (.iload_n 0, 1) := by decide +kernel
theorem dX9_roomOf_11 : decode cX9_roomOf 11 = .ok (.iconst 1, 1) := by decide +kernel
theorem dX9_roomOf_12 : decode cX9_roomOf 12 = .ok (.if_icmp .ne 9, 3) := by decide +kernel
theorem dX9_roomOf_15 : decode cX9_roomOf 15 = .ok (.sipush 30000, 3) := by decide +kernel
theorem dX9_roomOf_18 : decode cX9_roomOf 18 = .ok (.goto 6, 3) := by decide +kernel
theorem dX9_roomOf_21 : decode cX9_roomOf 21 = .ok (.sipush 10000, 3) := by decide +kernel
theorem dX9_roomOf_24 : decode cX9_roomOf 24 = .ok (.ireturn, 1) := by decide +kernel
def k_X9_roomOf : List pEn := [oIload 0, oIfne 4, oConst (20000), oGoto 10, oIload 0, oConst (1), oCne 9, oConst (30000), oGoto 10, oConst (10000), oIret]
def pc_X9_roomOf (i : Nat) : Nat := ([0, 1, 4, 7, 10, 11, 12, 15, 18, 21, 24] : List Nat).getD i 0
abbrev rm_X9_roomOf : Room := { frames := 0, cells := 0, slots := 0, locals := 0 }
theorem pl_X9_roomOf : pPlain yX9_roomOf 1 := by decide +kernel
set_option maxRecDepth 100000 in
set_option maxHeartbeats 4000000 in
theorem ok_k_X9_roomOf (l : Launch) : ∀ (i : Nat) (en : pEn), k_X9_roomOf[i]? = some en → EOK l cX9_roomOf yX9_roomOf.cls 1 ((some FieldType.int)) rm_X9_roomOf 0 pc_X9_roomOf i en := by
  refine allOK_at ?_
  refine And.intro (okIload_n dX9_roomOf_0 rfl rfl) ?_
  refine And.intro (okIfne dX9_roomOf_1 rfl (by rfl)) ?_
  refine And.intro (okSipush dX9_roomOf_4 rfl (by first | rfl | decide)) ?_
  refine And.intro (okGoto dX9_roomOf_7 (by rfl)) ?_
  refine And.intro (okIload_n dX9_roomOf_10 rfl rfl) ?_
  refine And.intro (okIconst dX9_roomOf_11 rfl (by first | rfl | decide)) ?_
  refine And.intro (okCne dX9_roomOf_12 rfl (by rfl)) ?_
  refine And.intro (okSipush dX9_roomOf_15 rfl (by first | rfl | decide)) ?_
  refine And.intro (okGoto dX9_roomOf_18 (by rfl)) ?_
  refine And.intro (okSipush dX9_roomOf_21 rfl (by first | rfl | decide)) ?_
  refine And.intro (okIret dX9_roomOf_24 rfl) ?_
  exact trivial
def G_X9_roomOf : pG := fun args w => match args, w with
  | [.int v], [] => some (some (.int (rmI v)), [])
  | _, _ => none
set_option maxHeartbeats 400000 in
set_option maxRecDepth 100000 in
theorem run_X9_roomOf (rg : pRg) (v : Int32) : ∃ fu, ex k_X9_roomOf fu 0 [(0, .int v)] [] [] rg = some (some (.int (rmI v)), [], rg) := by
  refine ⟨40, ?_⟩
  conv => lhs; whnf
  refine pif_c (fun h => ?_) (fun h => ?_)
  · simp only [rmI, if_pos h] <;> rfl
  · conv => lhs; whnf
    refine pif_c (fun h2 => ?_) (fun h2 => ?_)
    · simp only [rmI, if_neg h, if_pos h2] <;> rfl
    · simp only [rmI, if_neg h, if_neg h2] <;> rfl
theorem ct_X9_roomOf (l : Launch) : ∀ args0 w0 v0 w1 rg, G_X9_roomOf args0 w0 = some (v0, w1) → pCT l yX9_roomOf (pWs yX9_roomOf cX9_roomOf 1 ((some FieldType.int))) rm_X9_roomOf args0 w0 rg (v0, w1, rg) := by
  intro args0 w0 v0 w1 rg h
  unfold G_X9_roomOf at h
  split at h
  next =>
    cases h
    exact met_of_ex (by decide) (ok_k_X9_roomOf l) rfl (run_X9_roomOf rg _) (Nat.le_of_ble_eq_true rfl) rfl (Nat.le_refl _) (Nat.le_of_ble_eq_true rfl) (Nat.zero_le _) rfl rfl
  next => cases h
def F_X9_roomOf : pF := frN G_X9_roomOf
theorem ok_F_X9_roomOf (l : Launch) : pFOK l yX9_roomOf (pWs yX9_roomOf cX9_roomOf 1 ((some FieldType.int))) rm_X9_roomOf F_X9_roomOf := pFOK_fr (fun a b c d h => ct_X9_roomOf l a b c d rg00 h) (fun a b c d h => by
  unfold G_X9_roomOf at h
  split at h
  next => simp
  next => cases h)
end
