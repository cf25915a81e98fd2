noncomputable section
theorem dX6_noteWrongByte_0 : decode cX6_noteWrongByte 0 = .ok (.aload_n 0, 1) := by decide +kernel
theorem dX6_noteWrongByte_1 : decode cX6_noteWrongByte 1 = .ok (.aload_n 0, 1) := by decide +kernel
theorem dX6_noteWrongByte_2 : decode cX6_noteWrongByte 2 = .ok (.getfield 25, 3) := by decide +kernel
theorem dX6_noteWrongByte_5 : decode cX6_noteWrongByte 5 = .ok (.iload_n 1, 1) := by decide +kernel
theorem dX6_noteWrongByte_6 : decode cX6_noteWrongByte 6 = .ok (.if_icmp .ge 7, 3) := by decide +kernel
theorem dX6_noteWrongByte_9 : decode cX6_noteWrongByte 9 = .ok (.iconst 1, 1) := by decide +kernel
theorem dX6_noteWrongByte_10 : decode cX6_noteWrongByte 10 = .ok (.goto 4, 3) := by decide +kernel
theorem dX6_noteWrongByte_13 : decode cX6_noteWrongByte 13 = .ok (.iconst 3, 1) := by decide +kernel
theorem dX6_noteWrongByte_14 : decode cX6_noteWrongByte 14 = .ok (.aload_n 0, 1) := by decide +kernel
theorem dX6_noteWrongByte_15 : decode cX6_noteWrongByte 15 = .ok (.getfield 25, 3) := by decide +kernel
theorem dX6_noteWrongByte_18 : decode cX6_noteWrongByte 18 = .ok (.invokevirtual 46, 3) := by decide +kernel
theorem dX6_noteWrongByte_21 : decode cX6_noteWrongByte 21 = .ok (.return_, 1) := by decide +kernel
def k_X6_noteWrongByte : List pEn := [oAload 0, oAload 0, oGet 6 3, oIload 1, oCge 7, oConst (1), oGoto 8, oConst (3), oAload 0, oGet 6 3, oCallZ 3 F_X6_note, oVret]
def pc_X6_noteWrongByte (i : Nat) : Nat := ([0, 1, 2, 5, 6, 9, 10, 13, 14, 15, 18, 21] : List Nat).getD i 0
abbrev rm_X6_noteWrongByte : Room := { frames := 1, cells := 0, slots := 0, locals := 22 }
theorem pl_X6_noteWrongByte : pPlain yX6_noteWrongByte 1 := by decide +kernel
set_option maxRecDepth 100000 in
set_option maxHeartbeats 4000000 in
theorem ok_k_X6_noteWrongByte (l : Launch) : ∀ (i : Nat) (en : pEn), k_X6_noteWrongByte[i]? = some en → EOK l cX6_noteWrongByte yX6_noteWrongByte.cls 2 (none) rm_X6_noteWrongByte 0 pc_X6_noteWrongByte i en := by
  refine allOK_at ?_
  refine And.intro (okAload_n dX6_noteWrongByte_0 rfl rfl) ?_
  refine And.intro (okAload_n dX6_noteWrongByte_1 rfl rfl) ?_
  refine And.intro (okGet (C := RX6) (T := TX6) (N := 4) dX6_noteWrongByte_2 rfl rfl (by decide) inX6 wm_2_22) ?_
  refine And.intro (okIload_n dX6_noteWrongByte_5 rfl rfl) ?_
  refine And.intro (okCge dX6_noteWrongByte_6 rfl (by rfl)) ?_
  refine And.intro (okIconst dX6_noteWrongByte_9 rfl (by first | rfl | decide)) ?_
  refine And.intro (okGoto dX6_noteWrongByte_10 (by rfl)) ?_
  refine And.intro (okIconst dX6_noteWrongByte_13 rfl (by first | rfl | decide)) ?_
  refine And.intro (okAload_n dX6_noteWrongByte_14 rfl rfl) ?_
  refine And.intro (okGet (C := RX6) (T := TX6) (N := 4) dX6_noteWrongByte_15 rfl rfl (by decide) inX6 wm_2_22) ?_
  refine And.intro (okCallV (y := yX6_note) (T := TX6) (oCallZ_is _ _ _) dX6_noteWrongByte_18 rfl (ok_F_X6_note l) rc_F_X6_note rfl wm_2_179 wm_2_181 wp_3 wm_1_9 wm_2_182 pl_X6_note (by decide)) ?_
  refine And.intro (okVret dX6_noteWrongByte_21 rfl) ?_
  exact trivial
def G_X6_noteWrongByte : pG := fun args w => match args with
  | [.ref 0, .int L] => unQ w (fun r => some (none, qW (qNw r L)))
  | _ => none
set_option maxHeartbeats 1000000 in
set_option maxRecDepth 100000 in
theorem run_X6_noteWrongByte (rg : pRg) (r : pLV) (L : Int32)  : ∃ fu, ex k_X6_noteWrongByte fu 0 [(0, .ref 0), (1, .int L)] [] (qW r) rg = some (none, qW (qNw r L), rg) := by
  refine ⟨60, ?_⟩
  conv => lhs; whnf
  refine pif_c (fun h0 => ?_) (fun h0 => ?_)
  · rw [show qNw r L = _ from if_pos h0]
    conv => lhs; whnf
    refine (callK_v (cl_X6_note r 3 (r 0 2) rg) (by rfl)).trans ?_
    rfl
  · rw [show qNw r L = _ from if_neg h0]
    conv => lhs; whnf
    refine (callK_v (cl_X6_note r 1 (r 0 2) rg) (by rfl)).trans ?_
    rfl
theorem ct_X6_noteWrongByte (l : Launch) : ∀ args0 w0 v0 w1 rg, G_X6_noteWrongByte args0 w0 = some (v0, w1) → pCT l yX6_noteWrongByte (pWs yX6_noteWrongByte cX6_noteWrongByte 2 (none)) rm_X6_noteWrongByte args0 w0 rg (v0, w1, rg) := by
  intro args0 w0 v0 w1 rg h
  unfold G_X6_noteWrongByte at h
  split at h
  next L =>
    obtain ⟨r, hw, h2⟩ := unQ_some h
    clear h
    subst hw
    cases h2
    exact met_of_exQ (by decide) (ok_k_X6_noteWrongByte l) rfl (run_X6_noteWrongByte rg r L ) (Nat.le_of_ble_eq_true rfl) rfl rfl
  next => cases h
def F_X6_noteWrongByte : pF := faN G_X6_noteWrongByte
theorem ok_F_X6_noteWrongByte (l : Launch) : pFOK l yX6_noteWrongByte (pWs yX6_noteWrongByte cX6_noteWrongByte 2 (none)) rm_X6_noteWrongByte F_X6_noteWrongByte := pFOK_fa (fun a b c d rg h => ct_X6_noteWrongByte l a b c d rg h)
theorem rc_F_X6_noteWrongByte : pRcv 6 F_X6_noteWrongByte := pRcv_fa (fun a b c d h => by
  unfold G_X6_noteWrongByte at h
  split at h
  next =>
    obtain ⟨m, rfl, h⟩ := unQ_some h
    exact ⟨_, _, _, rfl, rfl⟩
  next => cases h)
theorem cl_X6_noteWrongByte (r : pLV) (L : Int32) (rg : pRg) : F_X6_noteWrongByte [.ref 0, .int L] (qW r) rg = some (none, qW (qNw (NQ r) L), rg) := rfl
end
