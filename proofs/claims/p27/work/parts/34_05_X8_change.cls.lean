noncomputable section
theorem dX8_change_0 : decode cX8_change 0 = .ok (.iload_n 1, 1) := by decide +kernel
theorem dX8_change_1 : decode cX8_change 1 = .ok (.ifCond .lt 8, 3) := by decide +kernel
theorem dX8_change_4 : decode cX8_change 4 = .ok (.iload_n 1, 1) := by decide +kernel
theorem dX8_change_5 : decode cX8_change 5 = .ok (.iconst 4, 1) := by decide +kernel
theorem dX8_change_6 : decode cX8_change 6 = .ok (.if_icmp .lt 5, 3) := by decide +kernel
theorem dX8_change_9 : decode cX8_change 9 = .ok (.iconst (-1), 1) := by decide +kernel
theorem dX8_change_10 : decode cX8_change 10 = .ok (.ireturn, 1) := by decide +kernel
theorem dX8_change_11 : decode cX8_change 11 = .ok (.aload_n 0, 1) := by decide +kernel
theorem dX8_change_12 : decode cX8_change 12 = .ok (.getfield 22, 3) := by decide +kernel
theorem dX8_change_15 : decode cX8_change 15 = .ok (.aload_n 0, 1) := by decide +kernel
theorem dX8_change_16 : decode cX8_change 16 = .ok (.getfield 10, 3) := by decide +kernel
theorem dX8_change_19 : decode cX8_change 19 = .ok (.invokevirtual 57, 3) := by decide +kernel
theorem dX8_change_22 : decode cX8_change 22 = .ok (.aload_n 0, 1) := by decide +kernel
theorem dX8_change_23 : decode cX8_change 23 = .ok (.getfield 10, 3) := by decide +kernel
theorem dX8_change_26 : decode cX8_change 26 = .ok (.getfield 83, 3) := by decide +kernel
theorem dX8_change_29 : decode cX8_change 29 = .ok (.istore_n 2, 1) := by decide +kernel
theorem dX8_change_30 : decode cX8_change 30 = .ok (.aload_n 0, 1) := by decide +kernel
theorem dX8_change_31 : decode cX8_change 31 = .ok (.getfield 10, 3) := by decide +kernel
theorem dX8_change_34 : decode cX8_change 34 = .ok (.iload_n 1, 1) := by decide +kernel
theorem dX8_change_35 : decode cX8_change 35 = .ok (.invokevirtual 86, 3) := by decide +kernel
theorem dX8_change_38 : decode cX8_change 38 = .ok (.iload_n 2, 1) := by decide +kernel
theorem dX8_change_39 : decode cX8_change 39 = .ok (.ireturn, 1) := by decide +kernel
def k_X8_change : List pEn := [oIload 1, oIflt 5, oIload 1, oConst (4), oClt 7, oConst (-1), oIret, oAload 0, oGet 8 2, oAload 0, oGet 8 0, oCallZ 2 F_X3_remember, oAload 0, oGet 8 0, oGet 5 1, oIstore 2, oAload 0, oGet 8 0, oIload 1, oCallZ 2 Fb_X5_turnTo, oIload 2, oIret]
def pc_X8_change (i : Nat) : Nat := ([0, 1, 4, 5, 6, 9, 10, 11, 12, 15, 16, 19, 22, 23, 26, 29, 30, 31, 34, 35, 38, 39] : List Nat).getD i 0
abbrev rm_X8_change : Room := { frames := 4, cells := 0, slots := 0, locals := 86 }
theorem pl_X8_change : pPlain yX8_change 1 := by decide +kernel
set_option maxRecDepth 100000 in
set_option maxHeartbeats 4000000 in
theorem ok_k_X8_change (l : Launch) : ∀ (i : Nat) (en : pEn), k_X8_change[i]? = some en → EOK l cX8_change yX8_change.cls 3 ((some FieldType.int)) rm_X8_change 0 pc_X8_change i en := by
  refine allOK_at ?_
  refine And.intro (okIload_n dX8_change_0 rfl rfl) ?_
  refine And.intro (okIflt dX8_change_1 rfl (by rfl)) ?_
  refine And.intro (okIload_n dX8_change_4 rfl rfl) ?_
  refine And.intro (okIconst dX8_change_5 rfl (by first | rfl | decide)) ?_
  refine And.intro (okClt dX8_change_6 rfl (by rfl)) ?_
  refine And.intro (okIconst dX8_change_9 rfl (by first | rfl | decide)) ?_
  refine And.intro (okIret dX8_change_10 rfl) ?_
  refine And.intro (okAload_n dX8_change_11 rfl rfl) ?_
  refine And.intro (okGet (C := RX8) (T := TX8) (N := 10) dX8_change_12 rfl rfl (by decide) inX8 wm_2_34) ?_
  refine And.intro (okAload_n dX8_change_15 rfl rfl) ?_
  refine And.intro (okGet (C := RX8) (T := TX8) (N := 10) dX8_change_16 rfl rfl (by decide) inX8 wm_2_32) ?_
  refine And.intro (okCallV (y := yX3_remember) (T := TX3) (oCallZ_is _ _ _) dX8_change_19 rfl (ok_F_X3_remember l) rc_F_X3_remember rfl wm_2_67 wm_2_68 wm_2_69 wm_1_7 wm_2_70 pl_X3_remember (by decide)) ?_
  refine And.intro (okAload_n dX8_change_22 rfl rfl) ?_
  refine And.intro (okGet (C := RX8) (T := TX8) (N := 10) dX8_change_23 rfl rfl (by decide) inX8 wm_2_32) ?_
  refine And.intro (okGet (C := RX5) (T := TX5) (N := 15) dX8_change_26 rfl rfl (by decide) inX5 wm_1_155) ?_
  refine And.intro (okIstore_n dX8_change_29 rfl rfl (by decide)) ?_
  refine And.intro (okAload_n dX8_change_30 rfl rfl) ?_
  refine And.intro (okGet (C := RX8) (T := TX8) (N := 10) dX8_change_31 rfl rfl (by decide) inX8 wm_2_32) ?_
  refine And.intro (okIload_n dX8_change_34 rfl rfl) ?_
  refine And.intro (okCallV (y := yX5_turnTo) (T := TX5) (oCallZ_is _ _ _) dX8_change_35 rfl (ok_Fb_X5_turnTo l) rc_Fb_X5_turnTo rfl wm_2_121 wm_2_122 wm_2_123 wm_1_2 wm_2_124 pl_X5_turnTo (by decide)) ?_
  refine And.intro (okIload_n dX8_change_38 rfl rfl) ?_
  refine And.intro (okIret dX8_change_39 rfl) ?_
  exact trivial
def cchange_B (x v : pLV) (g : Int32) : Int32 := if g < 0 then -1 else if 4 ≤ g then -1 else 0
def cchange_R (x v u : pLV) (h : Nat → pLV) (g : Int32) : Int32 := if cchange_B x v g = 0 then v 0 1 else cchange_B x v g
def cchange_X (x v u : pLV) (h : Nat → pLV) (g : Int32) : pLV := if cchange_B x v g = 0 then xRem x else x
def cchange_V (x v u : pLV) (h : Nat → pLV) (g : Int32) : pLV := if cchange_B x v g = 0 then turnV (NL v) g else v
def cchange_H (x v u : pLV) (h : Nat → pLV) (g : Int32) : Nat → pLV := if cchange_B x v g = 0 then hRem x v h else h
def F_X8_change : pF := fun args w rg => match args with
  | [.ref 0, .int g] => unB w (fun f x v u => pif (bOK f rg) (some (some (.int (cchange_R x v u rg.2 g)), cw f (cchange_X x v u rg.2 g) (cchange_V x v u rg.2 g) (u), (rg.1, cchange_H x v u rg.2 g))) none)
  | _ => none
set_option maxHeartbeats 400000 in
set_option maxRecDepth 100000 in
theorem run_X8_change (rg : pRg) (f : Nat → Option Nat) (x v u : pLV) (g : Int32) (hc : bOK f rg) : ∃ fu, ex k_X8_change fu 0 [(0, .ref 0), (1, .int g)] [] (cw f x v u) rg = some (some (.int (cchange_R x v u rg.2 g)), cw f (cchange_X x v u rg.2 g) (cchange_V x v u rg.2 g) (u), (rg.1, cchange_H x v u rg.2 g)) := by
  refine ⟨60, ?_⟩
  conv => lhs; whnf
  refine pif_c (fun p0 => ?_) (fun n0 => ?_)
  · have hB : cchange_B x v g = -1 := if_pos p0
    have hN : ¬ cchange_B x v g = 0 := by rw [hB]; decide
    rw [show cchange_R x v u rg.2 g = -1 from (if_neg hN).trans hB, show cchange_X x v u rg.2 g = _ from if_neg hN, show cchange_V x v u rg.2 g = _ from if_neg hN, show cchange_H x v u rg.2 g = _ from if_neg hN]
    rfl
  · conv => lhs; whnf
    refine pif_c (fun q1 => ?_) (fun q1 => ?_)
    · have n1 := Int32.not_le.mpr q1
      have hB : cchange_B x v g = 0 := (if_neg n0).trans ((if_neg n1).trans (rfl))
      rw [show cchange_R x v u rg.2 g = _ from if_pos hB, show cchange_X x v u rg.2 g = _ from if_pos hB, show cchange_V x v u rg.2 g = _ from if_pos hB, show cchange_H x v u rg.2 g = _ from if_pos hB]
      conv => lhs; whnf
      refine (callK_v (cl_X3_remember f x v u rg hc) (by rfl)).trans ?_
      conv => lhs; whnf
      refine (callK_v (cc1_turnTo f (xRem (NX x)) v u g (rg.1, hRem (NX x) (NL v) rg.2)) (by rfl)).trans ?_
      rfl
    · have p1 := Int32.not_lt.mp q1
      have hB : cchange_B x v g = -1 := (if_neg n0).trans (if_pos p1)
      have hN : ¬ cchange_B x v g = 0 := by rw [hB]; decide
      rw [show cchange_R x v u rg.2 g = -1 from (if_neg hN).trans hB, show cchange_X x v u rg.2 g = _ from if_neg hN, show cchange_V x v u rg.2 g = _ from if_neg hN, show cchange_H x v u rg.2 g = _ from if_neg hN]
      rfl
theorem ok_F_X8_change (l : Launch) : pFOK l yX8_change (pWs yX8_change cX8_change 3 ((some FieldType.int))) rm_X8_change F_X8_change := by
  refine pFOK_all fun args w rg v0 w' rg' h => ?_
  unfold F_X8_change at h
  split at h
  next g =>
    obtain ⟨f, x, v, u, hw, h2⟩ := unB_some h
    clear h
    subst hw
    by_cases hc : bOK f rg
    · have h2 := (pif_t hc).symm.trans h2
      cases h2
      exact met_of_ex (by decide) (ok_k_X8_change l) rfl (run_X8_change rg f x v u g hc) (Nat.le_of_ble_eq_true rfl) rfl (Nat.le_of_ble_eq_true rfl) (Nat.le_of_ble_eq_true rfl) (Nat.zero_le _) rfl rfl
    · have h2 := (pif_f hc).symm.trans h2
      cases h2
  next => cases h
theorem rc_F_X8_change : pRcv 8 F_X8_change := by
  intro as w rg o h
  obtain ⟨v0, w', rg'⟩ := o
  unfold F_X8_change at h
  split at h
  next =>
    obtain ⟨f, x, v, u, rfl, -⟩ := unB_some h
    exact ⟨_, _, _, rfl, cellOf_get rfl⟩
  next => cases h
theorem cl_X8_change (f : Nat → Option Nat) (x v u : pLV) (g : Int32) (rg : pRg) (hc : bOK f rg) : F_X8_change [.ref 0, .int g] (cw f x v u) rg = some (some (.int (cchange_R (NX x) (NL v) (NL u) rg.2 g)), cw f (cchange_X (NX x) (NL v) (NL u) rg.2 g) (cchange_V (NX x) (NL v) (NL u) rg.2 g) ((NL u)), (rg.1, cchange_H (NX x) (NL v) (NL u) rg.2 g)) := pif_t hc
end
