noncomputable section
theorem dX9_isChest_0 : decode cX9_isChest 0 = .ok (.iload_n 0, 1) := by decide +kernel
theorem dX9_isChest_1 : decode cX9_isChest 1 = .ok (.iconst 0, 1) := by decide +kernel
theorem dX9_isChest_2 : decode cX9_isChest 2 = .ok (.iconst 3, 1) := by decide +kernel
theorem dX9_isChest_3 : decode cX9_isChest 3 = .ok (.invokestatic 41, 3) := by decide +kernel
theorem dX9_isChest_6 : decode cX9_isChest 6 = .ok (.ireturn, 1) := by decide +kernel
def k_X9_isChest : List pEn := [oIload 0, oConst (0), oConst (3), oCall 3 F_X9_isIn, oZret]
def pc_X9_isChest (i : Nat) : Nat := ([0, 1, 2, 3, 6] : List Nat).getD i 0
abbrev rm_X9_isChest : Room := { frames := 1, cells := 0, slots := 0, locals := 22 }
theorem pl_X9_isChest : pPlain yX9_isChest 1 := by decide +kernel
set_option maxRecDepth 100000 in
set_option maxHeartbeats 4000000 in
theorem ok_k_X9_isChest (l : Launch) : ∀ (i : Nat) (en : pEn), k_X9_isChest[i]? = some en → EOK l cX9_isChest yX9_isChest.cls 1 ((some FieldType.boolean)) rm_X9_isChest 0 pc_X9_isChest i en := by
  refine allOK_at ?_
  refine And.intro (okIload_n dX9_isChest_0 rfl rfl) ?_
  refine And.intro (okIconst dX9_isChest_1 rfl (by first | rfl | decide)) ?_
  refine And.intro (okIconst dX9_isChest_2 rfl (by first | rfl | decide)) ?_
  refine And.intro (okCallS (y := yX9_isIn) (oCall_is _ _ _) dX9_isChest_3 rfl (ok_F_X9_isIn l) wm_3_223 wm_3_224 wm_1_10 wm_3_225 pl_X9_isIn (by decide)) ?_
  refine And.intro (okZret dX9_isChest_6 rfl) ?_
  exact trivial
def G_X9_isChest : pG := fun args w => match args, w with
  | [.int v], [] => some (some (.int (inI v 0 3)), [])
  | _, _ => none
set_option maxHeartbeats 400000 in
set_option maxRecDepth 100000 in
theorem run_X9_isChest (rg : pRg) (v : Int32) : ∃ fu, ex k_X9_isChest fu 0 [(0, .int v)] [] [] rg = some (some (.int (inI v 0 3)), [], rg) := by
  refine ⟨40, ?_⟩
  conv => lhs; whnf
  refine (pif_t (inI_01 v 0 3)).trans ?_
  rfl
theorem ct_X9_isChest (l : Launch) : ∀ args0 w0 v0 w1 rg, G_X9_isChest args0 w0 = some (v0, w1) → pCT l yX9_isChest (pWs yX9_isChest cX9_isChest 1 ((some FieldType.boolean))) rm_X9_isChest args0 w0 rg (v0, w1, rg) := by
  intro args0 w0 v0 w1 rg h
  unfold G_X9_isChest at h
  split at h
  next =>
    cases h
    exact met_of_ex (by decide) (ok_k_X9_isChest l) rfl (run_X9_isChest rg _) (Nat.le_of_ble_eq_true rfl) rfl (Nat.le_refl _) (Nat.le_of_ble_eq_true rfl) (Nat.zero_le _) rfl rfl
  next => cases h
def F_X9_isChest : pF := frN G_X9_isChest
theorem ok_F_X9_isChest (l : Launch) : pFOK l yX9_isChest (pWs yX9_isChest cX9_isChest 1 ((some FieldType.boolean))) rm_X9_isChest F_X9_isChest := pFOK_fr (fun a b c d h => ct_X9_isChest l a b c d rg00 h) (fun a b c d h => by
  unfold G_X9_isChest at h
  split at h
  next => simp
  next => cases h)
end
