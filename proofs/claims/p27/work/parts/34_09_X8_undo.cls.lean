noncomputable section
theorem dX8_undo_0 : decode cX8_undo 0 = .ok (.aload_n 0, 1) := by decide +kernel
theorem dX8_undo_1 : decode cX8_undo 1 = .ok (.getfield 22, 3) := by decide +kernel
theorem dX8_undo_4 : decode cX8_undo 4 = .ok (.getfield 148, 3) := by decide +kernel
theorem dX8_undo_7 : decode cX8_undo 7 = .ok (.ifCond .gt 6, 3) := by decide +kernel
theorem dX8_undo_10 : decode cX8_undo 10 = .ok (.bipush (-2), 2) := by decide +kernel
theorem dX8_undo_12 : decode cX8_undo 12 = .ok (.ireturn, 1) := by decide +kernel
theorem dX8_undo_13 : decode cX8_undo 13 = .ok (.aload_n 0, 1) := by decide +kernel
theorem dX8_undo_14 : decode cX8_undo 14 = .ok (.getfield 22, 3) := by decide +kernel
theorem dX8_undo_17 : decode cX8_undo 17 = .ok (.aload_n 0, 1) := by decide +kernel
theorem dX8_undo_18 : decode cX8_undo 18 = .ok (.getfield 10, 3) := by decide +kernel
theorem dX8_undo_21 : decode cX8_undo 21 = .ok (.invokevirtual 149, 3) := by decide +kernel
theorem dX8_undo_24 : decode cX8_undo 24 = .ok (.aload_n 0, 1) := by decide +kernel
theorem dX8_undo_25 : decode cX8_undo 25 = .ok (.getfield 22, 3) := by decide +kernel
theorem dX8_undo_28 : decode cX8_undo 28 = .ok (.getfield 148, 3) := by decide +kernel
theorem dX8_undo_31 : decode cX8_undo 31 = .ok (.ireturn, 1) := by decide +kernel
def k_X8_undo : List pEn := [oAload 0, oGet 8 2, oGet 3 2, oIfgt 6, oConst (-2), oIret, oAload 0, oGet 8 2, oAload 0, oGet 8 0, oCallZ 2 F_X3_restore, oAload 0, oGet 8 2, oGet 3 2, oIret]
def pc_X8_undo (i : Nat) : Nat := ([0, 1, 4, 7, 10, 12, 13, 14, 17, 18, 21, 24, 25, 28, 31] : List Nat).getD i 0
abbrev rm_X8_undo : Room := { frames := 4, cells := 0, slots := 0, locals := 86 }
theorem pl_X8_undo : pPlain yX8_undo 0 := by decide +kernel
set_option maxRecDepth 100000 in
set_option maxHeartbeats 4000000 in
theorem ok_k_X8_undo (l : Launch) : ∀ (i : Nat) (en : pEn), k_X8_undo[i]? = some en → EOK l cX8_undo yX8_undo.cls 1 ((some FieldType.int)) rm_X8_undo 0 pc_X8_undo i en := by
  refine allOK_at ?_
  refine And.intro (okAload_n dX8_undo_0 rfl rfl) ?_
  refine And.intro (okGet (C := RX8) (T := TX8) (N := 10) dX8_undo_1 rfl rfl (by decide) inX8 wm_2_34) ?_
  refine And.intro (okGet (C := RX3) (T := TX3) (N := 3) dX8_undo_4 rfl rfl (by decide) inX3 wm_1_223) ?_
  refine And.intro (okIfgt dX8_undo_7 rfl (by rfl)) ?_
  refine And.intro (okBipush dX8_undo_10 rfl (by first | rfl | decide)) ?_
  refine And.intro (okIret dX8_undo_12 rfl) ?_
  refine And.intro (okAload_n dX8_undo_13 rfl rfl) ?_
  refine And.intro (okGet (C := RX8) (T := TX8) (N := 10) dX8_undo_14 rfl rfl (by decide) inX8 wm_2_34) ?_
  refine And.intro (okAload_n dX8_undo_17 rfl rfl) ?_
  refine And.intro (okGet (C := RX8) (T := TX8) (N := 10) dX8_undo_18 rfl rfl (by decide) inX8 wm_2_32) ?_
  refine And.intro (okCallV (y := yX3_restore) (T := TX3) (oCallZ_is _ _ _) dX8_undo_21 rfl (ok_F_X3_restore l) rc_F_X3_restore rfl wm_3_46 wm_3_47 wm_3_48 wm_1_7 wm_3_49 pl_X3_restore (by decide)) ?_
  refine And.intro (okAload_n dX8_undo_24 rfl rfl) ?_
  refine And.intro (okGet (C := RX8) (T := TX8) (N := 10) dX8_undo_25 rfl rfl (by decide) inX8 wm_2_34) ?_
  refine And.intro (okGet (C := RX3) (T := TX3) (N := 3) dX8_undo_28 rfl rfl (by decide) inX3 wm_1_223) ?_
  refine And.intro (okIret dX8_undo_31 rfl) ?_
  exact trivial
def cundo_B (x v : pLV)  : Int32 := if x 0 4 ≤ 0 then -2 else 0
def cundo_R (x v u : pLV) (h : Nat → pLV)  : Int32 := if cundo_B x v  = 0 then x 0 4 - 1 else cundo_B x v 
def cundo_X (x v u : pLV) (h : Nat → pLV)  : pLV := if cundo_B x v  = 0 then xRes x else x
def cundo_V (x v u : pLV) (h : Nat → pLV)  : pLV := if cundo_B x v  = 0 then cpyV v (h (x 0 3).toNatClampNeg) else v
def F_X8_undo : pF := fun args w rg => match args with
  | [.ref 0] => unB w (fun f x v u => pif (bOK f rg ∧ (0 ≤ x 0 3 ∧ x 0 3 ≤ 7)) (some (some (.int (cundo_R x v u rg.2 )), cw f (cundo_X x v u rg.2 ) (cundo_V x v u rg.2 ) (u), rg)) none)
  | _ => none
set_option maxHeartbeats 400000 in
set_option maxRecDepth 100000 in
theorem run_X8_undo (rg : pRg) (f : Nat → Option Nat) (x v u : pLV)  (hc : bOK f rg ∧ (0 ≤ x 0 3 ∧ x 0 3 ≤ 7)) : ∃ fu, ex k_X8_undo fu 0 [(0, .ref 0)] [] (cw f x v u) rg = some (some (.int (cundo_R x v u rg.2 )), cw f (cundo_X x v u rg.2 ) (cundo_V x v u rg.2 ) (u), rg) := by
  refine ⟨60, ?_⟩
  conv => lhs; whnf
  refine pif_c (fun q0 => ?_) (fun q0 => ?_)
  · have n0 := Int32.not_le.mpr q0
    have hB : cundo_B x v  = 0 := (if_neg n0).trans (rfl)
    rw [show cundo_R x v u rg.2  = _ from if_pos hB, show cundo_X x v u rg.2  = _ from if_pos hB, show cundo_V x v u rg.2  = _ from if_pos hB]
    conv => lhs; whnf
    refine (callK_v (cl_X3_restore f x v u rg ⟨hc.1, q0, hc.2⟩) (by rfl)).trans ?_
    rfl
  · have p0 := Int32.not_lt.mp q0
    have hB : cundo_B x v  = -2 := if_pos p0
    have hN : ¬ cundo_B x v  = 0 := by rw [hB]; decide
    rw [show cundo_R x v u rg.2  = -2 from (if_neg hN).trans hB, show cundo_X x v u rg.2  = _ from if_neg hN, show cundo_V x v u rg.2  = _ from if_neg hN]
    rfl
theorem ok_F_X8_undo (l : Launch) : pFOK l yX8_undo (pWs yX8_undo cX8_undo 1 ((some FieldType.int))) rm_X8_undo F_X8_undo := by
  refine pFOK_all fun args w rg v0 w' rg' h => ?_
  unfold F_X8_undo at h
  split at h
  next  =>
    obtain ⟨f, x, v, u, hw, h2⟩ := unB_some h
    clear h
    subst hw
    by_cases hc : bOK f rg ∧ (0 ≤ x 0 3 ∧ x 0 3 ≤ 7)
    · have h2 := (pif_t hc).symm.trans h2
      cases h2
      exact met_of_ex (by decide) (ok_k_X8_undo l) rfl (run_X8_undo rg f x v u  hc) (Nat.le_of_ble_eq_true rfl) rfl (Nat.le_of_ble_eq_true rfl) (Nat.le_of_ble_eq_true rfl) (Nat.zero_le _) rfl rfl
    · have h2 := (pif_f hc).symm.trans h2
      cases h2
  next => cases h
theorem rc_F_X8_undo : pRcv 8 F_X8_undo := by
  intro as w rg o h
  obtain ⟨v0, w', rg'⟩ := o
  unfold F_X8_undo at h
  split at h
  next =>
    obtain ⟨f, x, v, u, rfl, -⟩ := unB_some h
    exact ⟨_, _, _, rfl, cellOf_get rfl⟩
  next => cases h
theorem cl_X8_undo (f : Nat → Option Nat) (x v u : pLV)  (rg : pRg) (hc : bOK f rg ∧ (0 ≤ (NX x) 0 3 ∧ (NX x) 0 3 ≤ 7)) : F_X8_undo [.ref 0] (cw f x v u) rg = some (some (.int (cundo_R (NX x) (NL v) (NL u) rg.2 )), cw f (cundo_X (NX x) (NL v) (NL u) rg.2 ) (cundo_V (NX x) (NL v) (NL u) rg.2 ) ((NL u)), rg) := pif_t hc
end
