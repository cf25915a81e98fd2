noncomputable section
/-! THE REFERENCE -/
def inI (v a b : Int32) : Int32 := if v < a then 0 else if b < v then 0 else 1
theorem inI_01 (v a b : Int32) : inI v a b = 0 ∨ inI v a b = 1 := by
  unfold inI
  split
  · exact Or.inl rfl
  · split
    · exact Or.inl rfl
    · exact Or.inr rfl
theorem dX9_isIn_0 : decode cX9_isIn 0 = .ok (.iload_n 0, 1) := by decide +kernel
theorem dX9_isIn_1 : decode cX9_isIn 1 = .ok (.iload_n 1, 1) := by decide +kernel
theorem dX9_isIn_2 : decode cX9_isIn 2 = .ok (.if_icmp .lt 12, 3) := by decide +kernel
theorem dX9_isIn_5 : decode cX9_isIn 5 = .ok (.iload_n 0, 1) := by decide +kernel
theorem dX9_isIn_6 : decode cX9_isIn 6 = .ok (.iload_n 2, 1) := by decide +kernel
theorem dX9_isIn_7 : decode cX9_isIn 7 = .ok (.if_icmp .gt 7, 3) := by decide +kernel
theorem dX9_isIn_10 : decode cX9_isIn 10 = .ok (.iconst 1, 1) := by decide +kernel
theorem dX9_isIn_11 : decode cX9_isIn 11 = .ok (.goto 4, 3) := by decide +kernel
theorem dX9_isIn_14 : decode cX9_isIn 14 = .ok (.iconst 0, 1) := by decide +kernel
theorem dX9_isIn_15 : decode cX9_isIn 15 = .ok (.ireturn, 1) := by decide +kernel
def k_X9_isIn : List pEn := [oIload 0, oIload 1, oClt 8, oIload 0, oIload 2, oCgt 8, oConst (1), oGoto 9, oConst (0), oZret]
def pc_X9_isIn (i : Nat) : Nat := ([0, 1, 2, 5, 6, 7, 10, 11, 14, 15] : List Nat).getD i 0
abbrev rm_X9_isIn : Room := { frames := 0, cells := 0, slots := 0, locals := 0 }
theorem pl_X9_isIn : pPlain yX9_isIn 3 := by decide +kernel
set_option maxRecDepth 100000 in
set_option maxHeartbeats 4000000 in
theorem ok_k_X9_isIn (l : Launch) : ∀ (i : Nat) (en : pEn), k_X9_isIn[i]? = some en → EOK l cX9_isIn yX9_isIn.cls 3 ((some FieldType.boolean)) rm_X9_isIn 0 pc_X9_isIn i en := by
  refine allOK_at ?_
  refine And.intro (okIload_n dX9_isIn_0 rfl rfl) ?_
  refine And.intro (okIload_n dX9_isIn_1 rfl rfl) ?_
  refine And.intro (okClt dX9_isIn_2 rfl (by rfl)) ?_
  refine And.intro (okIload_n dX9_isIn_5 rfl rfl) ?_
  refine And.intro (okIload_n dX9_isIn_6 rfl rfl) ?_
  refine And.intro (okCgt dX9_isIn_7 rfl (by rfl)) ?_
  refine And.intro (okIconst dX9_isIn_10 rfl (by first | rfl | decide)) ?_
  refine And.intro (okGoto dX9_isIn_11 (by rfl)) ?_
  refine And.intro (okIconst dX9_isIn_14 rfl (by first | rfl | decide)) ?_
  refine And.intro (okZret dX9_isIn_15 rfl) ?_
  exact trivial
def G_X9_isIn : pG := fun args w => match args, w with
  | [.int v, .int a, .int b], [] => some (some (.int (inI v a b)), [])
  | _, _ => none
set_option maxHeartbeats 400000 in
set_option maxRecDepth 100000 in
theorem run_X9_isIn (rg : pRg) (v a b : Int32) : ∃ fu, ex k_X9_isIn fu 0 [(0, .int v), (1, .int a), (2, .int b)] [] [] rg = some (some (.int (inI v a b)), [], rg) := by
  refine ⟨40, ?_⟩
  conv => lhs; whnf
  refine pif_c (fun h => ?_) (fun h => ?_)
  · conv => lhs; whnf
    refine (pif_t (by decide)).trans ?_
    simp only [inI, if_pos h] <;> rfl
  · conv => lhs; whnf
    refine pif_c (fun h2 => ?_) (fun h2 => ?_)
    · conv => lhs; whnf
      refine (pif_t (by decide)).trans ?_
      simp only [inI, if_neg h, if_pos h2] <;> rfl
    · conv => lhs; whnf
      refine (pif_t (by decide)).trans ?_
      simp only [inI, if_neg h, if_neg h2] <;> rfl
theorem ct_X9_isIn (l : Launch) : ∀ args0 w0 v0 w1 rg, G_X9_isIn args0 w0 = some (v0, w1) → pCT l yX9_isIn (pWs yX9_isIn cX9_isIn 3 ((some FieldType.boolean))) rm_X9_isIn args0 w0 rg (v0, w1, rg) := by
  intro args0 w0 v0 w1 rg h
  unfold G_X9_isIn at h
  split at h
  next =>
    cases h
    exact met_of_ex (by decide) (ok_k_X9_isIn l) rfl (run_X9_isIn rg _ _ _) (Nat.le_of_ble_eq_true rfl) rfl (Nat.le_refl _) (Nat.le_of_ble_eq_true rfl) (Nat.zero_le _) rfl rfl
  next => cases h
def F_X9_isIn : pF := frN G_X9_isIn
theorem ok_F_X9_isIn (l : Launch) : pFOK l yX9_isIn (pWs yX9_isIn cX9_isIn 3 ((some FieldType.boolean))) rm_X9_isIn F_X9_isIn := pFOK_fr (fun a b c d h => ct_X9_isIn l a b c d rg00 h) (fun a b c d h => by
  unfold G_X9_isIn at h
  split at h
  next => simp
  next => cases h)
end
