noncomputable section
theorem dX6_note_0 : decode cX6_note 0 = .ok (.aload_n 0, 1) := by decide +kernel
theorem dX6_note_1 : decode cX6_note 1 = .ok (.iload_n 1, 1) := by decide +kernel
theorem dX6_note_2 : decode cX6_note 2 = .ok (.putfield 18, 3) := by decide +kernel
theorem dX6_note_5 : decode cX6_note 5 = .ok (.aload_n 0, 1) := by decide +kernel
theorem dX6_note_6 : decode cX6_note 6 = .ok (.iload_n 2, 1) := by decide +kernel
theorem dX6_note_7 : decode cX6_note 7 = .ok (.putfield 22, 3) := by decide +kernel
theorem dX6_note_10 : decode cX6_note 10 = .ok (.return_, 1) := by decide +kernel
def k_X6_note : List pEn := [oAload 0, oIload 1, oPut 6 1, oAload 0, oIload 2, oPut 6 2, oVret]
def pc_X6_note (i : Nat) : Nat := ([0, 1, 2, 5, 6, 7, 10] : List Nat).getD i 0
abbrev rm_X6_note : Room := { frames := 0, cells := 0, slots := 0, locals := 0 }
theorem pl_X6_note : pPlain yX6_note 2 := by decide +kernel
set_option maxRecDepth 100000 in
set_option maxHeartbeats 4000000 in
theorem ok_k_X6_note (l : Launch) : ∀ (i : Nat) (en : pEn), k_X6_note[i]? = some en → EOK l cX6_note yX6_note.cls 3 (none) rm_X6_note 0 pc_X6_note i en := by
  refine allOK_at ?_
  refine And.intro (okAload_n dX6_note_0 rfl rfl) ?_
  refine And.intro (okIload_n dX6_note_1 rfl rfl) ?_
  refine And.intro (okPut (C := RX6) (T := TX6) (N := 4) dX6_note_2 rfl rfl (by decide) inX6 tyX6_ok nmX6 rfl rfl wm_2_18) ?_
  refine And.intro (okAload_n dX6_note_5 rfl rfl) ?_
  refine And.intro (okIload_n dX6_note_6 rfl rfl) ?_
  refine And.intro (okPut (C := RX6) (T := TX6) (N := 4) dX6_note_7 rfl rfl (by decide) inX6 tyX6_ok nmX6 rfl rfl wm_2_20) ?_
  refine And.intro (okVret dX6_note_10 rfl) ?_
  exact trivial
def G_X6_note : pG := fun args w => match args with
  | [.ref 0, .int k, .int p] => unQ w (fun r => some (none, qW (qNt r k p)))
  | _ => none
set_option maxHeartbeats 1000000 in
set_option maxRecDepth 100000 in
theorem run_X6_note (rg : pRg) (r : pLV) (k p : Int32)  : ∃ fu, ex k_X6_note fu 0 [(0, .ref 0), (1, .int k), (2, .int p)] [] (qW r) rg = some (none, qW (qNt r k p), rg) := by
  refine ⟨60, ?_⟩
  rfl
theorem ct_X6_note (l : Launch) : ∀ args0 w0 v0 w1 rg, G_X6_note args0 w0 = some (v0, w1) → pCT l yX6_note (pWs yX6_note cX6_note 3 (none)) rm_X6_note args0 w0 rg (v0, w1, rg) := by
  intro args0 w0 v0 w1 rg h
  unfold G_X6_note at h
  split at h
  next k p =>
    obtain ⟨r, hw, h2⟩ := unQ_some h
    clear h
    subst hw
    cases h2
    exact met_of_exQ (by decide) (ok_k_X6_note l) rfl (run_X6_note rg r k p ) (Nat.le_of_ble_eq_true rfl) rfl rfl
  next => cases h
def F_X6_note : pF := faN G_X6_note
theorem ok_F_X6_note (l : Launch) : pFOK l yX6_note (pWs yX6_note cX6_note 3 (none)) rm_X6_note F_X6_note := pFOK_fa (fun a b c d rg h => ct_X6_note l a b c d rg h)
theorem rc_F_X6_note : pRcv 6 F_X6_note := pRcv_fa (fun a b c d h => by
  unfold G_X6_note at h
  split at h
  next =>
    obtain ⟨m, rfl, h⟩ := unQ_some h
    exact ⟨_, _, _, rfl, rfl⟩
  next => cases h)
theorem cl_X6_note (r : pLV) (k p : Int32) (rg : pRg) : F_X6_note [.ref 0, .int k, .int p] (qW r) rg = some (none, qW (qNt (NQ r) k p), rg) := rfl
end
