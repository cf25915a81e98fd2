noncomputable section
theorem dX6_isDigit_0 : decode cX6_isDigit 0 = .ok (.iload_n 0, 1) := by decide +kernel
theorem dX6_isDigit_1 : decode cX6_isDigit 1 = .ok (.bipush 48, 2) := by decide +kernel
theorem dX6_isDigit_3 : decode cX6_isDigit 3 = .ok (.if_icmp .lt 13, 3) := by decide +kernel
theorem dX6_isDigit_6 : decode cX6_isDigit 6 = .ok (.iload_n 0, 1) := by decide +kernel
theorem dX6_isDigit_7 : decode cX6_isDigit 7 = .ok (.bipush 57, 2) := by decide +kernel
theorem dX6_isDigit_9 : decode cX6_isDigit 9 = .ok (.if_icmp .gt 7, 3) := by decide +kernel
theorem dX6_isDigit_12 : decode cX6_isDigit 12 = .ok (.iconst 1, 1) := by decide +kernel
theorem dX6_isDigit_13 : decode cX6_isDigit 13 = .ok (.goto 4, 3) := by decide +kernel
theorem dX6_isDigit_16 : decode cX6_isDigit 16 = .ok (.iconst 0, 1) := by decide +kernel
theorem dX6_isDigit_17 : decode cX6_isDigit 17 = .ok (.ireturn, 1) := by decide +kernel
def k_X6_isDigit : List pEn := [oIload 0, oConst (48), oClt 8, oIload 0, oConst (57), oCgt 8, oConst (1), oGoto 9, oConst (0), oZret]
def pc_X6_isDigit (i : Nat) : Nat := ([0, 1, 3, 6, 7, 9, 12, 13, 16, 17] : List Nat).getD i 0
abbrev rm_X6_isDigit : Room := { frames := 0, cells := 0, slots := 0, locals := 0 }
theorem pl_X6_isDigit : pPlain yX6_isDigit 1 := by decide +kernel
set_option maxRecDepth 100000 in
set_option maxHeartbeats 4000000 in
theorem ok_k_X6_isDigit (l : Launch) : ∀ (i : Nat) (en : pEn), k_X6_isDigit[i]? = some en → EOK l cX6_isDigit yX6_isDigit.cls 1 ((some FieldType.boolean)) rm_X6_isDigit 0 pc_X6_isDigit i en := by
  refine allOK_at ?_
  refine And.intro (okIload_n dX6_isDigit_0 rfl rfl) ?_
  refine And.intro (okBipush dX6_isDigit_1 rfl (by first | rfl | decide)) ?_
  refine And.intro (okClt dX6_isDigit_3 rfl (by rfl)) ?_
  refine And.intro (okIload_n dX6_isDigit_6 rfl rfl) ?_
  refine And.intro (okBipush dX6_isDigit_7 rfl (by first | rfl | decide)) ?_
  refine And.intro (okCgt dX6_isDigit_9 rfl (by rfl)) ?_
  refine And.intro (okIconst dX6_isDigit_12 rfl (by first | rfl | decide)) ?_
  refine And.intro (okGoto dX6_isDigit_13 (by rfl)) ?_
  refine And.intro (okIconst dX6_isDigit_16 rfl (by first | rfl | decide)) ?_
  refine And.intro (okZret dX6_isDigit_17 rfl) ?_
  exact trivial
def G_X6_isDigit : pG := fun args w => match args, w with
  | [.int c], [] => some (some (.int (inI c 48 57)), [])
  | _, _ => none
set_option maxHeartbeats 400000 in
set_option maxRecDepth 100000 in
theorem run_X6_isDigit (rg : pRg) (c : Int32) : ∃ fu, ex k_X6_isDigit fu 0 [(0, .int c)] [] [] rg = some (some (.int (inI c 48 57)), [], rg) := by
  refine ⟨40, ?_⟩
  conv => lhs; whnf
  refine pif_c (fun h => ?_) (fun h => ?_)
  · conv => lhs; whnf
    refine (pif_t (by decide)).trans ?_
    rw [show inI c 48 57 = _ from if_pos h] <;> rfl
  · conv => lhs; whnf
    refine pif_c (fun h2 => ?_) (fun h2 => ?_)
    · conv => lhs; whnf
      refine (pif_t (by decide)).trans ?_
      rw [show inI c 48 57 = _ from (if_neg h).trans (if_pos h2)] <;> rfl
    · conv => lhs; whnf
      refine (pif_t (by decide)).trans ?_
      rw [show inI c 48 57 = _ from (if_neg h).trans (if_neg h2)] <;> rfl
theorem ct_X6_isDigit (l : Launch) : ∀ args0 w0 v0 w1 rg, G_X6_isDigit args0 w0 = some (v0, w1) → pCT l yX6_isDigit (pWs yX6_isDigit cX6_isDigit 1 ((some FieldType.boolean))) rm_X6_isDigit args0 w0 rg (v0, w1, rg) := by
  intro args0 w0 v0 w1 rg h
  unfold G_X6_isDigit at h
  split at h
  next =>
    cases h
    exact met_of_ex (by decide) (ok_k_X6_isDigit l) rfl (run_X6_isDigit rg _) (Nat.le_of_ble_eq_true rfl) rfl (Nat.le_refl _) (Nat.le_of_ble_eq_true rfl) (Nat.zero_le _) rfl rfl
  next => cases h
def F_X6_isDigit : pF := frN G_X6_isDigit
theorem ok_F_X6_isDigit (l : Launch) : pFOK l yX6_isDigit (pWs yX6_isDigit cX6_isDigit 1 ((some FieldType.boolean))) rm_X6_isDigit F_X6_isDigit := pFOK_fr (fun a b c d h => ct_X6_isDigit l a b c d rg00 h) (fun a b c d h => by
  unfold G_X6_isDigit at h
  split at h
  next => simp
  next => cases h)
end
