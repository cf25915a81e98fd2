noncomputable section
def coV (v : pLV) (k n : Int32) : pLV := if k = 0 then brkV (NL v) n else if k = 1 then turnV (NL v) n else vA v 1 (upd (v 1) 2 n)
theorem dX5_carryOut_0 : decode cX5_carryOut 0 = .ok (.iload_n 1, 1) := by decide +kernel
theorem dX5_carryOut_1 : decode cX5_carryOut 1 = .ok (.lookupswitch 43 #[(0, 27), (1, 35)], 27) := by decide +kernel
theorem dX5_carryOut_28 : decode cX5_carryOut 28 = .ok (.aload_n 0, 1) := by decide +kernel
theorem dX5_carryOut_29 : decode cX5_carryOut 29 = .ok (.iload_n 2, 1) := by decide +kernel
theorem dX5_carryOut_30 : decode cX5_carryOut 30 = .ok (.invokevirtual 177, 3) := by decide +kernel
theorem dX5_carryOut_33 : decode cX5_carryOut 33 = .ok (.goto 18, 3) := by decide +kernel
theorem dX5_carryOut_36 : decode cX5_carryOut 36 = .ok (.aload_n 0, 1) := by decide +kernel
theorem dX5_carryOut_37 : decode cX5_carryOut 37 = .ok (.iload_n 2, 1) := by decide +kernel
theorem dX5_carryOut_38 : decode cX5_carryOut 38 = .ok (.invokevirtual 180, 3) := by decide +kernel
theorem dX5_carryOut_41 : decode cX5_carryOut 41 = .ok (.goto 10, 3) := by decide +kernel
theorem dX5_carryOut_44 : decode cX5_carryOut 44 = .ok (.aload_n 0, 1) := by decide +kernel
theorem dX5_carryOut_45 : decode cX5_carryOut 45 = .ok (.getfield 72, 3) := by decide +kernel
theorem dX5_carryOut_48 : decode cX5_carryOut 48 = .ok (.iconst 2, 1) := by decide +kernel
theorem dX5_carryOut_49 : decode cX5_carryOut 49 = .ok (.iload_n 2, 1) := by decide +kernel
theorem dX5_carryOut_50 : decode cX5_carryOut 50 = .ok (.iastore, 1) := by decide +kernel
theorem dX5_carryOut_51 : decode cX5_carryOut 51 = .ok (.return_, 1) := by decide +kernel
def k_X5_carryOut : List pEn := [oIload 1, oSw [(0, 2), (1, 6)] 10, oAload 0, oIload 2, oCallZ 2 F_X5_breakSheet, oGoto 15, oAload 0, oIload 2, oCallZ 2 F_X5_turnTo, oGoto 15, oAload 0, oGet 5 14, oConst (2), oIload 2, oIastN 2, oVret]
def pc_X5_carryOut (i : Nat) : Nat := ([0, 1, 28, 29, 30, 33, 36, 37, 38, 41, 44, 45, 48, 49, 50, 51] : List Nat).getD i 0
abbrev rm_X5_carryOut : Room := { frames := 2, cells := 0, slots := 0, locals := 42 }
theorem pl_X5_carryOut : pPlain yX5_carryOut 2 := by decide +kernel
set_option maxRecDepth 100000 in
set_option maxHeartbeats 4000000 in
theorem ok_k_X5_carryOut (l : Launch) : ∀ (i : Nat) (en : pEn), k_X5_carryOut[i]? = some en → EOK l cX5_carryOut yX5_carryOut.cls 3 (none) rm_X5_carryOut 0 pc_X5_carryOut i en := by
  refine allOK_at ?_
  refine And.intro (okIload_n dX5_carryOut_0 rfl rfl) ?_
  refine And.intro (okLsw dX5_carryOut_1 (by decide) (by decide) (by rfl)) ?_
  refine And.intro (okAload_n dX5_carryOut_28 rfl rfl) ?_
  refine And.intro (okIload_n dX5_carryOut_29 rfl rfl) ?_
  refine And.intro (okCallV (y := yX5_breakSheet) (T := TX5) (oCallZ_is _ _ _) dX5_carryOut_30 rfl (ok_F_X5_breakSheet l) rc_F_X5_breakSheet rfl wm_2_229 wm_2_111 wm_2_112 wm_1_2 wm_2_113 pl_X5_breakSheet (by decide)) ?_
  refine And.intro (okGoto dX5_carryOut_33 (by rfl)) ?_
  refine And.intro (okAload_n dX5_carryOut_36 rfl rfl) ?_
  refine And.intro (okIload_n dX5_carryOut_37 rfl rfl) ?_
  refine And.intro (okCallV (y := yX5_turnTo) (T := TX5) (oCallZ_is _ _ _) dX5_carryOut_38 rfl (ok_F_X5_turnTo l) rc_F_X5_turnTo rfl wm_2_230 wm_2_122 wm_2_123 wm_1_2 wm_2_124 pl_X5_turnTo (by decide)) ?_
  refine And.intro (okGoto dX5_carryOut_41 (by rfl)) ?_
  refine And.intro (okAload_n dX5_carryOut_44 rfl rfl) ?_
  refine And.intro (okGet (C := RX5) (T := TX5) (N := 15) dX5_carryOut_45 rfl rfl (by decide) inX5 wm_1_178) ?_
  refine And.intro (okIconst dX5_carryOut_48 rfl (by first | rfl | decide)) ?_
  refine And.intro (okIload_n dX5_carryOut_49 rfl rfl) ?_
  refine And.intro (okIastN dX5_carryOut_50 rfl) ?_
  refine And.intro (okVret dX5_carryOut_51 rfl) ?_
  exact trivial
def G_X5_carryOut : pG := fun args w => match args with
  | [.ref 0, .int k, .int n] => unL 0 w (fun v => some (none, loopCells 0 (coV v k n)))
  | _ => none
set_option maxHeartbeats 400000 in
set_option maxRecDepth 100000 in
theorem run_X5_carryOut (rg : pRg) (v : pLV) (k n : Int32) : ∃ fu, ex k_X5_carryOut fu 0 [(0, .ref 0), (1, .int k), (2, .int n)] [] (loopCells 0 v) rg = some (none, loopCells 0 (coV v k n), rg) := by
  refine ⟨60, ?_⟩
  conv => lhs; whnf
  refine pif_c (fun h => ?_) (fun h => ?_)
  · conv => lhs; whnf
    refine (callK_v (cl_X5_breakSheet v n rg) rfl).trans ?_
    simp only [coV, if_pos h]; rfl
  · conv => lhs; whnf
    refine pif_c (fun h2 => ?_) (fun h2 => ?_)
    · conv => lhs; whnf
      refine (callK_v (cl_X5_turnTo v n rg) rfl).trans ?_
      simp only [coV, if_neg h, if_pos h2]; rfl
    · simp only [coV, if_neg h, if_neg h2]; rfl
theorem ct_X5_carryOut (l : Launch) : ∀ args0 w0 v0 w1 rg, G_X5_carryOut args0 w0 = some (v0, w1) → pCT l yX5_carryOut (pWs yX5_carryOut cX5_carryOut 3 (none)) rm_X5_carryOut args0 w0 rg (v0, w1, rg) := by
  intro args0 w0 v0 w1 rg h
  unfold G_X5_carryOut at h
  split at h
  next k n =>
    obtain ⟨v, hw, h2⟩ := unL_some h
    clear h
    subst hw
    cases h2
    exact met_of_exL (by decide) (ok_k_X5_carryOut l) rfl (run_X5_carryOut rg v k n) (Nat.le_of_ble_eq_true rfl) rfl rfl
  next => cases h
def F_X5_carryOut : pF := fz (faN G_X5_carryOut)
theorem ok_F_X5_carryOut (l : Launch) : pFOK l yX5_carryOut (pWs yX5_carryOut cX5_carryOut 3 (none)) rm_X5_carryOut F_X5_carryOut := pFOK_fz (pFOK_fa (fun a b c d rg h => ct_X5_carryOut l a b c d rg h))
theorem rc_F_X5_carryOut : pRcv 5 F_X5_carryOut := pRcv_fz (pRcv_fa (fun a b c d h => by
  unfold G_X5_carryOut at h
  split at h
  next =>
    obtain ⟨v, rfl, h⟩ := unL_some h
    exact ⟨_, _, _, rfl, rfl⟩
  next => cases h))
theorem cl_X5_carryOut (v : pLV) (k n : Int32) (rg : pRg) : F_X5_carryOut [.ref 0, .int k, .int n] (loopCells 0 v) rg = some (none, loopCells 0 (coV (NL v) k n), rg) := (fz_eq _ _ _ _).trans rfl
end
