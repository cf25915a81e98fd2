noncomputable section
theorem dX6_codeAt_0 : decode cX6_codeAt 0 = .ok (.aload_n 0, 1) := by decide +kernel
theorem dX6_codeAt_1 : decode cX6_codeAt 1 = .ok (.getfield 25, 3) := by decide +kernel
theorem dX6_codeAt_4 : decode cX6_codeAt 4 = .ok (.ifCond .lt 29, 3) := by decide +kernel
theorem dX6_codeAt_7 : decode cX6_codeAt 7 = .ok (.aload_n 0, 1) := by decide +kernel
theorem dX6_codeAt_8 : decode cX6_codeAt 8 = .ok (.getfield 25, 3) := by decide +kernel
theorem dX6_codeAt_11 : decode cX6_codeAt 11 = .ok (.iload_n 2, 1) := by decide +kernel
theorem dX6_codeAt_12 : decode cX6_codeAt 12 = .ok (.if_icmp .ge 21, 3) := by decide +kernel
theorem dX6_codeAt_15 : decode cX6_codeAt 15 = .ok (.aload_n 0, 1) := by decide +kernel
theorem dX6_codeAt_16 : decode cX6_codeAt 16 = .ok (.getfield 25, 3) := by decide +kernel
theorem dX6_codeAt_19 : decode cX6_codeAt 19 = .ok (.aload_n 1, 1) := by decide +kernel
theorem dX6_codeAt_20 : decode cX6_codeAt 20 = .ok (.arraylength, 1) := by decide +kernel
theorem dX6_codeAt_21 : decode cX6_codeAt 21 = .ok (.if_icmp .ge 12, 3) := by decide +kernel
theorem dX6_codeAt_24 : decode cX6_codeAt 24 = .ok (.aload_n 1, 1) := by decide +kernel
theorem dX6_codeAt_25 : decode cX6_codeAt 25 = .ok (.aload_n 0, 1) := by decide +kernel
theorem dX6_codeAt_26 : decode cX6_codeAt 26 = .ok (.getfield 25, 3) := by decide +kernel
theorem dX6_codeAt_29 : decode cX6_codeAt 29 = .ok (.iaload, 1) := by decide +kernel
theorem dX6_codeAt_30 : decode cX6_codeAt 30 = .ok (.goto 5, 3) := by decide +kernel
theorem dX6_codeAt_33 : decode cX6_codeAt 33 = .ok (.bipush (-9), 2) := by decide +kernel
theorem dX6_codeAt_35 : decode cX6_codeAt 35 = .ok (.ireturn, 1) := by decide +kernel
def k_X6_codeAt : List pEn := [oAload 0, oGet 6 3, oIflt 17, oAload 0, oGet 6 3, oIload 2, oCge 17, oAload 0, oGet 6 3, oAload 1, oAlen, oCge 17, oAload 1, oAload 0, oGet 6 3, oIald, oGoto 18, oConst (-9), oIret]
def pc_X6_codeAt (i : Nat) : Nat := ([0, 1, 4, 7, 8, 11, 12, 15, 16, 19, 20, 21, 24, 25, 26, 29, 30, 33, 35] : List Nat).getD i 0
abbrev rm_X6_codeAt : Room := { frames := 0, cells := 0, slots := 0, locals := 0 }
theorem pl_X6_codeAt : pPlain yX6_codeAt 2 := by decide +kernel
set_option maxRecDepth 100000 in
set_option maxHeartbeats 4000000 in
theorem ok_k_X6_codeAt (l : Launch) : ∀ (i : Nat) (en : pEn), k_X6_codeAt[i]? = some en → EOK l cX6_codeAt yX6_codeAt.cls 3 ((some FieldType.int)) rm_X6_codeAt 0 pc_X6_codeAt i en := by
  refine allOK_at ?_
  refine And.intro (okAload_n dX6_codeAt_0 rfl rfl) ?_
  refine And.intro (okGet (C := RX6) (T := TX6) (N := 4) dX6_codeAt_1 rfl rfl (by decide) inX6 wm_2_22) ?_
  refine And.intro (okIflt dX6_codeAt_4 rfl (by rfl)) ?_
  refine And.intro (okAload_n dX6_codeAt_7 rfl rfl) ?_
  refine And.intro (okGet (C := RX6) (T := TX6) (N := 4) dX6_codeAt_8 rfl rfl (by decide) inX6 wm_2_22) ?_
  refine And.intro (okIload_n dX6_codeAt_11 rfl rfl) ?_
  refine And.intro (okCge dX6_codeAt_12 rfl (by rfl)) ?_
  refine And.intro (okAload_n dX6_codeAt_15 rfl rfl) ?_
  refine And.intro (okGet (C := RX6) (T := TX6) (N := 4) dX6_codeAt_16 rfl rfl (by decide) inX6 wm_2_22) ?_
  refine And.intro (okAload_n dX6_codeAt_19 rfl rfl) ?_
  refine And.intro (okAlen dX6_codeAt_20 rfl) ?_
  refine And.intro (okCge dX6_codeAt_21 rfl (by rfl)) ?_
  refine And.intro (okAload_n dX6_codeAt_24 rfl rfl) ?_
  refine And.intro (okAload_n dX6_codeAt_25 rfl rfl) ?_
  refine And.intro (okGet (C := RX6) (T := TX6) (N := 4) dX6_codeAt_26 rfl rfl (by decide) inX6 wm_2_22) ?_
  refine And.intro (okIald dX6_codeAt_29 rfl) ?_
  refine And.intro (okGoto dX6_codeAt_30 (by rfl)) ?_
  refine And.intro (okBipush dX6_codeAt_33 rfl (by first | rfl | decide)) ?_
  refine And.intro (okIret dX6_codeAt_35 rfl) ?_
  exact trivial
def G_X6_codeAt : pG := fun args w => match args with
  | [.ref 0, .ref 5, .int L] => unQ w (fun r => some (some (.int (qCd r L)), qW (r)))
  | _ => none
set_option maxHeartbeats 1000000 in
set_option maxRecDepth 100000 in
theorem run_X6_codeAt (rg : pRg) (r : pLV) (L : Int32)  : ∃ fu, ex k_X6_codeAt fu 0 [(0, .ref 0), (1, .ref 5), (2, .int L)] [] (qW r) rg = some (some (.int (qCd r L)), qW (r), rg) := by
  refine ⟨60, ?_⟩
  conv => lhs; whnf
  refine pif_c (fun h0 => ?_) (fun h0 => ?_)
  · rw [show qCd r L = _ from if_pos h0]
    rfl
  · conv => lhs; whnf
    refine pif_c (fun h1 => ?_) (fun h1 => ?_)
    · rw [show qCd r L = _ from (if_neg h0).trans (if_pos h1)]
      rfl
    · conv => lhs; whnf
      refine pif_c (fun h2 => ?_) (fun h2 => ?_)
      · rw [show qCd r L = _ from (if_neg h0).trans ((if_neg h1).trans (if_pos h2))]
        rfl
      · conv => lhs; whnf
        refine (pif_f (in_of (y := 120) (n := 120) rfl h0 h2)).trans ?_
        rw [show qCd r L = _ from (if_neg h0).trans ((if_neg h1).trans (if_neg h2))]
        rfl
theorem ct_X6_codeAt (l : Launch) : ∀ args0 w0 v0 w1 rg, G_X6_codeAt args0 w0 = some (v0, w1) → pCT l yX6_codeAt (pWs yX6_codeAt cX6_codeAt 3 ((some FieldType.int))) rm_X6_codeAt args0 w0 rg (v0, w1, rg) := by
  intro args0 w0 v0 w1 rg h
  unfold G_X6_codeAt at h
  split at h
  next L =>
    obtain ⟨r, hw, h2⟩ := unQ_some h
    clear h
    subst hw
    cases h2
    exact met_of_exQ (by decide) (ok_k_X6_codeAt l) rfl (run_X6_codeAt rg r L ) (Nat.le_of_ble_eq_true rfl) rfl rfl
  next => cases h
def F_X6_codeAt : pF := faN G_X6_codeAt
theorem ok_F_X6_codeAt (l : Launch) : pFOK l yX6_codeAt (pWs yX6_codeAt cX6_codeAt 3 ((some FieldType.int))) rm_X6_codeAt F_X6_codeAt := pFOK_fa (fun a b c d rg h => ct_X6_codeAt l a b c d rg h)
theorem rc_F_X6_codeAt : pRcv 6 F_X6_codeAt := pRcv_fa (fun a b c d h => by
  unfold G_X6_codeAt at h
  split at h
  next =>
    obtain ⟨m, rfl, h⟩ := unQ_some h
    exact ⟨_, _, _, rfl, rfl⟩
  next => cases h)
theorem cl_X6_codeAt (r : pLV) (L : Int32) (rg : pRg) : F_X6_codeAt [.ref 0, .ref 5, .int L] (qW r) rg = some (some (.int (qCd (NQ r) L)), qW ((NQ r)), rg) := rfl
end
