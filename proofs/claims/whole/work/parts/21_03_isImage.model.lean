noncomputable section
theorem dX9_isImage_0 : decode cX9_isImage 0 = .ok (.iload_n 0, 1) := by decide +kernel
theorem dX9_isImage_1 : decode cX9_isImage 1 = .ok (.iconst 0, 1) := by decide +kernel
theorem dX9_isImage_2 : decode cX9_isImage 2 = .ok (.iconst 1, 1) := by decide +kernel
theorem dX9_isImage_3 : decode cX9_isImage 3 = .ok (.invokestatic 41, 3) := by decide +kernel
theorem dX9_isImage_6 : decode cX9_isImage 6 = .ok (.ireturn, 1) := by decide +kernel
def k_X9_isImage : List pEn := [oIload 0, oConst (0), oConst (1), oCall 3 F_X9_isIn, oZret]
def pc_X9_isImage (i : Nat) : Nat := ([0, 1, 2, 3, 6] : List Nat).getD i 0
abbrev rm_X9_isImage : Room := { frames := 1, cells := 0, slots := 0, locals := 22 }
theorem pl_X9_isImage : pPlain yX9_isImage 1 := by decide +kernel
set_option maxRecDepth 100000 in
set_option maxHeartbeats 4000000 in
theorem ok_k_X9_isImage (l : Launch) : ∀ (i : Nat) (en : pEn), k_X9_isImage[i]? = some en → EOK l cX9_isImage yX9_isImage.cls 1 ((some FieldType.boolean)) rm_X9_isImage 0 pc_X9_isImage i en := by
  refine allOK_at ?_
  refine And.intro (okIload_n dX9_isImage_0 rfl rfl) ?_
  refine And.intro (okIconst dX9_isImage_1 rfl (by first | rfl | decide)) ?_
  refine And.intro (okIconst dX9_isImage_2 rfl (by first | rfl | decide)) ?_
  refine And.intro (okCallS (y := yX9_isIn) (oCall_is _ _ _) dX9_isImage_3 rfl (ok_F_X9_isIn l) wm_3_223 wm_3_224 wm_1_10 wm_3_225 pl_X9_isIn (by decide)) ?_
  refine And.intro (okZret dX9_isImage_6 rfl) ?_
  exact trivial
def G_X9_isImage : pG := fun args w => match args, w with
  | [.int v], [] => some (some (.int (inI v 0 1)), [])
  | _, _ => none
set_option maxHeartbeats 400000 in
set_option maxRecDepth 100000 in
theorem run_X9_isImage (rg : pRg) (v : Int32) : ∃ fu, ex k_X9_isImage fu 0 [(0, .int v)] [] [] rg = some (some (.int (inI v 0 1)), [], rg) := by
  refine ⟨40, ?_⟩
  conv => lhs; whnf
  refine (pif_t (inI_01 v 0 1)).trans ?_
  rfl
theorem ct_X9_isImage (l : Launch) : ∀ args0 w0 v0 w1 rg, G_X9_isImage args0 w0 = some (v0, w1) → pCT l yX9_isImage (pWs yX9_isImage cX9_isImage 1 ((some FieldType.boolean))) rm_X9_isImage args0 w0 rg (v0, w1, rg) := by
  intro args0 w0 v0 w1 rg h
  unfold G_X9_isImage at h
  split at h
  next =>
    cases h
    exact met_of_ex (by decide) (ok_k_X9_isImage l) rfl (run_X9_isImage rg _) (Nat.le_of_ble_eq_true rfl) rfl (Nat.le_refl _) (Nat.le_of_ble_eq_true rfl) (Nat.zero_le _) rfl rfl
  next => cases h
def F_X9_isImage : pF := frN G_X9_isImage
theorem ok_F_X9_isImage (l : Launch) : pFOK l yX9_isImage (pWs yX9_isImage cX9_isImage 1 ((some FieldType.boolean))) rm_X9_isImage F_X9_isImage := pFOK_fr (fun a b c d h => ct_X9_isImage l a b c d rg00 h) (fun a b c d h => by
  unfold G_X9_isImage at h
  split at h
  next => simp
  next => cases h)
end
