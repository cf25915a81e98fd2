noncomputable section
def turnV (v : pLV) (g : Int32) : pLV := if g = v 0 1 then v else vS (vS v 1 g) 3 (v 1 8)
theorem dX5_turnTo_0 : decode cX5_turnTo 0 = .ok (.iload_n 1, 1) := by decide +kernel
theorem dX5_turnTo_1 : decode cX5_turnTo 1 = .ok (.aload_n 0, 1) := by decide +kernel
theorem dX5_turnTo_2 : decode cX5_turnTo 2 = .ok (.getfield 15, 3) := by decide +kernel
theorem dX5_turnTo_5 : decode cX5_turnTo 5 = .ok (.if_icmp .eq 19, 3) := by decide +kernel
theorem dX5_turnTo_8 : decode cX5_turnTo 8 = .ok (.aload_n 0, 1) := by decide +kernel
theorem dX5_turnTo_9 : decode cX5_turnTo 9 = .ok (.iload_n 1, 1) := by decide +kernel
theorem dX5_turnTo_10 : decode cX5_turnTo 10 = .ok (.putfield 15, 3) := by decide +kernel
theorem dX5_turnTo_13 : decode cX5_turnTo 13 = .ok (.aload_n 0, 1) := by decide +kernel
theorem dX5_turnTo_14 : decode cX5_turnTo 14 = .ok (.aload_n 0, 1) := by decide +kernel
theorem dX5_turnTo_15 : decode cX5_turnTo 15 = .ok (.getfield 72, 3) := by decide +kernel
theorem dX5_turnTo_18 : decode cX5_turnTo 18 = .ok (.bipush 8, 2) := by decide +kernel
theorem dX5_turnTo_20 : decode cX5_turnTo 20 = .ok (.iaload, 1) := by decide +kernel
theorem dX5_turnTo_21 : decode cX5_turnTo 21 = .ok (.putfield 21, 3) := by decide +kernel
theorem dX5_turnTo_24 : decode cX5_turnTo 24 = .ok (.return_, 1) := by decide +kernel
def k_X5_turnTo : List pEn := [oIload 1, oAload 0, oGet 5 1, oCeq 13, oAload 0, oIload 1, oPut 5 1, oAload 0, oAload 0, oGet 5 14, oConst (8), oIaldN 8, oPut 5 3, oVret]
def pc_X5_turnTo (i : Nat) : Nat := ([0, 1, 2, 5, 8, 9, 10, 13, 14, 15, 18, 20, 21, 24] : List Nat).getD i 0
abbrev rm_X5_turnTo : Room := { frames := 0, cells := 0, slots := 0, locals := 0 }
theorem pl_X5_turnTo : pPlain yX5_turnTo 1 := by decide +kernel
set_option maxRecDepth 100000 in
set_option maxHeartbeats 4000000 in
theorem ok_k_X5_turnTo (l : Launch) : ∀ (i : Nat) (en : pEn), k_X5_turnTo[i]? = some en → EOK l cX5_turnTo yX5_turnTo.cls 2 (none) rm_X5_turnTo 0 pc_X5_turnTo i en := by
  refine allOK_at ?_
  refine And.intro (okIload_n dX5_turnTo_0 rfl rfl) ?_
  refine And.intro (okAload_n dX5_turnTo_1 rfl rfl) ?_
  refine And.intro (okGet (C := RX5) (T := TX5) (N := 15) dX5_turnTo_2 rfl rfl (by decide) inX5 wm_1_154) ?_
  refine And.intro (okCeq dX5_turnTo_5 rfl (by rfl)) ?_
  refine And.intro (okAload_n dX5_turnTo_8 rfl rfl) ?_
  refine And.intro (okIload_n dX5_turnTo_9 rfl rfl) ?_
  refine And.intro (okPut (C := RX5) (T := TX5) (N := 15) dX5_turnTo_10 rfl rfl (by decide) inX5 tyX5_ok nmX5 rfl rfl wm_1_154) ?_
  refine And.intro (okAload_n dX5_turnTo_13 rfl rfl) ?_
  refine And.intro (okAload_n dX5_turnTo_14 rfl rfl) ?_
  refine And.intro (okGet (C := RX5) (T := TX5) (N := 15) dX5_turnTo_15 rfl rfl (by decide) inX5 wm_1_178) ?_
  refine And.intro (okBipush dX5_turnTo_18 rfl (by first | rfl | decide)) ?_
  refine And.intro (okIaldN dX5_turnTo_20 rfl) ?_
  refine And.intro (okPut (C := RX5) (T := TX5) (N := 15) dX5_turnTo_21 rfl rfl (by decide) inX5 tyX5_ok nmX5 rfl rfl wm_1_158) ?_
  refine And.intro (okVret dX5_turnTo_24 rfl) ?_
  exact trivial
def G_X5_turnTo : pG := fun args w => match args with
  | [.ref 0, .int g] => unL 0 w (fun v => some (none, loopCells 0 (turnV v g)))
  | _ => none
set_option maxHeartbeats 400000 in
set_option maxRecDepth 100000 in
theorem run_X5_turnTo (rg : pRg) (v : pLV) (g : Int32) : ∃ fu, ex k_X5_turnTo fu 0 [(0, .ref 0), (1, .int g)] [] (loopCells 0 v) rg = some (none, loopCells 0 (turnV v g), rg) := by
  refine ⟨60, ?_⟩
  conv => lhs; whnf
  refine pif_c (fun h => ?_) (fun h => ?_)
  · simp only [turnV, if_pos h]; rfl
  · simp only [turnV, if_neg h]; rfl
theorem ct_X5_turnTo (l : Launch) : ∀ args0 w0 v0 w1 rg, G_X5_turnTo args0 w0 = some (v0, w1) → pCT l yX5_turnTo (pWs yX5_turnTo cX5_turnTo 2 (none)) rm_X5_turnTo args0 w0 rg (v0, w1, rg) := by
  intro args0 w0 v0 w1 rg h
  unfold G_X5_turnTo at h
  split at h
  next g =>
    obtain ⟨v, hw, h2⟩ := unL_some h
    clear h
    subst hw
    cases h2
    exact met_of_exL (by decide) (ok_k_X5_turnTo l) rfl (run_X5_turnTo rg v g) (Nat.le_of_ble_eq_true rfl) rfl rfl
  next => cases h
def F_X5_turnTo : pF := fz (faN G_X5_turnTo)
theorem ok_F_X5_turnTo (l : Launch) : pFOK l yX5_turnTo (pWs yX5_turnTo cX5_turnTo 2 (none)) rm_X5_turnTo F_X5_turnTo := pFOK_fz (pFOK_fa (fun a b c d rg h => ct_X5_turnTo l a b c d rg h))
theorem rc_F_X5_turnTo : pRcv 5 F_X5_turnTo := pRcv_fz (pRcv_fa (fun a b c d h => by
  unfold G_X5_turnTo at h
  split at h
  next =>
    obtain ⟨v, rfl, h⟩ := unL_some h
    exact ⟨_, _, _, rfl, rfl⟩
  next => cases h))
theorem cl_X5_turnTo (v : pLV) (g : Int32) (rg : pRg) : F_X5_turnTo [.ref 0, .int g] (loopCells 0 v) rg = some (none, loopCells 0 (turnV (NL v) g), rg) := (fz_eq _ _ _ _).trans rfl
def Fb_X5_turnTo : pF := frN G_X5_turnTo
theorem ok_Fb_X5_turnTo (l : Launch) : pFOK l yX5_turnTo (pWs yX5_turnTo cX5_turnTo 2 (none)) rm_X5_turnTo Fb_X5_turnTo := pFOK_fr (fun a b c d h => ct_X5_turnTo l a b c d rg00 h) (fun a b c d h => by
  unfold G_X5_turnTo at h
  split at h
  next =>
    obtain ⟨v, rfl, h⟩ := unL_some h
    exact Nat.le_of_ble_eq_true rfl
  next => cases h)
theorem rc_Fb_X5_turnTo : pRcv 5 Fb_X5_turnTo := pRcv_fr (fun a b c d h => by
  unfold G_X5_turnTo at h
  split at h
  next =>
    obtain ⟨v, rfl, h⟩ := unL_some h
    exact Nat.le_of_ble_eq_true rfl
  next => cases h) (fun a b c d h => by
  unfold G_X5_turnTo at h
  split at h
  next =>
    obtain ⟨v, rfl, h⟩ := unL_some h
    exact ⟨_, _, _, rfl, rfl⟩
  next => cases h)
end
