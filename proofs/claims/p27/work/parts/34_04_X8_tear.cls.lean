noncomputable section
theorem dX8_tear_0 : decode cX8_tear 0 = .ok (.iload_n 1, 1) := by decide +kernel
theorem dX8_tear_1 : decode cX8_tear 1 = .ok (.iconst 1, 1) := by decide +kernel
theorem dX8_tear_2 : decode cX8_tear 2 = .ok (.if_icmp .lt 9, 3) := by decide +kernel
theorem dX8_tear_5 : decode cX8_tear 5 = .ok (.iload_n 1, 1) := by decide +kernel
theorem dX8_tear_6 : decode cX8_tear 6 = .ok (.bipush 50, 2) := by decide +kernel
theorem dX8_tear_8 : decode cX8_tear 8 = .ok (.if_icmp .le 5, 3) := by decide +kernel
theorem dX8_tear_11 : decode cX8_tear 11 = .ok (.iconst (-1), 1) := by decide +kernel
theorem dX8_tear_12 : decode cX8_tear 12 = .ok (.ireturn, 1) := by decide +kernel
theorem dX8_tear_13 : decode cX8_tear 13 = .ok (.aload_n 0, 1) := by decide +kernel
theorem dX8_tear_14 : decode cX8_tear 14 = .ok (.getfield 22, 3) := by decide +kernel
theorem dX8_tear_17 : decode cX8_tear 17 = .ok (.aload_n 0, 1) := by decide +kernel
theorem dX8_tear_18 : decode cX8_tear 18 = .ok (.getfield 10, 3) := by decide +kernel
theorem dX8_tear_21 : decode cX8_tear 21 = .ok (.invokevirtual 57, 3) := by decide +kernel
theorem dX8_tear_24 : decode cX8_tear 24 = .ok (.aload_n 0, 1) := by decide +kernel
theorem dX8_tear_25 : decode cX8_tear 25 = .ok (.getfield 10, 3) := by decide +kernel
theorem dX8_tear_28 : decode cX8_tear 28 = .ok (.iload_n 1, 1) := by decide +kernel
theorem dX8_tear_29 : decode cX8_tear 29 = .ok (.invokevirtual 76, 3) := by decide +kernel
theorem dX8_tear_32 : decode cX8_tear 32 = .ok (.aload_n 0, 1) := by decide +kernel
theorem dX8_tear_33 : decode cX8_tear 33 = .ok (.getfield 10, 3) := by decide +kernel
theorem dX8_tear_36 : decode cX8_tear 36 = .ok (.getfield 80, 3) := by decide +kernel
theorem dX8_tear_39 : decode cX8_tear 39 = .ok (.ireturn, 1) := by decide +kernel
def k_X8_tear : List pEn := [oIload 1, oConst (1), oClt 6, oIload 1, oConst (50), oCle 8, oConst (-1), oIret, oAload 0, oGet 8 2, oAload 0, oGet 8 0, oCallZ 2 F_X3_remember, oAload 0, oGet 8 0, oIload 1, oCallZ 2 Fb_X5_breakSheet, oAload 0, oGet 8 0, oGet 5 2, oIret]
def pc_X8_tear (i : Nat) : Nat := ([0, 1, 2, 5, 6, 8, 11, 12, 13, 14, 17, 18, 21, 24, 25, 28, 29, 32, 33, 36, 39] : List Nat).getD i 0
abbrev rm_X8_tear : Room := { frames := 4, cells := 0, slots := 0, locals := 86 }
theorem pl_X8_tear : pPlain yX8_tear 1 := by decide +kernel
set_option maxRecDepth 100000 in
set_option maxHeartbeats 4000000 in
theorem ok_k_X8_tear (l : Launch) : ∀ (i : Nat) (en : pEn), k_X8_tear[i]? = some en → EOK l cX8_tear yX8_tear.cls 2 ((some FieldType.int)) rm_X8_tear 0 pc_X8_tear i en := by
  refine allOK_at ?_
  refine And.intro (okIload_n dX8_tear_0 rfl rfl) ?_
  refine And.intro (okIconst dX8_tear_1 rfl (by first | rfl | decide)) ?_
  refine And.intro (okClt dX8_tear_2 rfl (by rfl)) ?_
  refine And.intro (okIload_n dX8_tear_5 rfl rfl) ?_
  refine And.intro (okBipush dX8_tear_6 rfl (by first | rfl | decide)) ?_
  refine And.intro (okCle dX8_tear_8 rfl (by rfl)) ?_
  refine And.intro (okIconst dX8_tear_11 rfl (by first | rfl | decide)) ?_
  refine And.intro (okIret dX8_tear_12 rfl) ?_
  refine And.intro (okAload_n dX8_tear_13 rfl rfl) ?_
  refine And.intro (okGet (C := RX8) (T := TX8) (N := 10) dX8_tear_14 rfl rfl (by decide) inX8 wm_2_34) ?_
  refine And.intro (okAload_n dX8_tear_17 rfl rfl) ?_
  refine And.intro (okGet (C := RX8) (T := TX8) (N := 10) dX8_tear_18 rfl rfl (by decide) inX8 wm_2_32) ?_
  refine And.intro (okCallV (y := yX3_remember) (T := TX3) (oCallZ_is _ _ _) dX8_tear_21 rfl (ok_F_X3_remember l) rc_F_X3_remember rfl wm_2_67 wm_2_68 wm_2_69 wm_1_7 wm_2_70 pl_X3_remember (by decide)) ?_
  refine And.intro (okAload_n dX8_tear_24 rfl rfl) ?_
  refine And.intro (okGet (C := RX8) (T := TX8) (N := 10) dX8_tear_25 rfl rfl (by decide) inX8 wm_2_32) ?_
  refine And.intro (okIload_n dX8_tear_28 rfl rfl) ?_
  refine And.intro (okCallV (y := yX5_breakSheet) (T := TX5) (oCallZ_is _ _ _) dX8_tear_29 rfl (ok_Fb_X5_breakSheet l) rc_Fb_X5_breakSheet rfl wm_2_110 wm_2_111 wm_2_112 wm_1_2 wm_2_113 pl_X5_breakSheet (by decide)) ?_
  refine And.intro (okAload_n dX8_tear_32 rfl rfl) ?_
  refine And.intro (okGet (C := RX8) (T := TX8) (N := 10) dX8_tear_33 rfl rfl (by decide) inX8 wm_2_32) ?_
  refine And.intro (okGet (C := RX5) (T := TX5) (N := 15) dX8_tear_36 rfl rfl (by decide) inX5 wm_1_157) ?_
  refine And.intro (okIret dX8_tear_39 rfl) ?_
  exact trivial
def ctear_B (x v : pLV) (t : Int32) : Int32 := if t < 1 then -1 else if 50 < t then -1 else 0
def ctear_R (x v u : pLV) (h : Nat → pLV) (t : Int32) : Int32 := if ctear_B x v t = 0 then mxI (v 0 2) t else ctear_B x v t
def ctear_X (x v u : pLV) (h : Nat → pLV) (t : Int32) : pLV := if ctear_B x v t = 0 then xRem x else x
def ctear_V (x v u : pLV) (h : Nat → pLV) (t : Int32) : pLV := if ctear_B x v t = 0 then brkV v t else v
def ctear_H (x v u : pLV) (h : Nat → pLV) (t : Int32) : Nat → pLV := if ctear_B x v t = 0 then hRem x v h else h
def F_X8_tear : pF := fun args w rg => match args with
  | [.ref 0, .int t] => unB w (fun f x v u => pif (bOK f rg) (some (some (.int (ctear_R x v u rg.2 t)), cw f (ctear_X x v u rg.2 t) (ctear_V x v u rg.2 t) (u), (rg.1, ctear_H x v u rg.2 t))) none)
  | _ => none
set_option maxHeartbeats 400000 in
set_option maxRecDepth 100000 in
theorem run_X8_tear (rg : pRg) (f : Nat → Option Nat) (x v u : pLV) (t : Int32) (hc : bOK f rg) : ∃ fu, ex k_X8_tear fu 0 [(0, .ref 0), (1, .int t)] [] (cw f x v u) rg = some (some (.int (ctear_R x v u rg.2 t)), cw f (ctear_X x v u rg.2 t) (ctear_V x v u rg.2 t) (u), (rg.1, ctear_H x v u rg.2 t)) := by
  refine ⟨60, ?_⟩
  conv => lhs; whnf
  refine pif_c (fun p0 => ?_) (fun n0 => ?_)
  · have hB : ctear_B x v t = -1 := if_pos p0
    have hN : ¬ ctear_B x v t = 0 := by rw [hB]; decide
    rw [show ctear_R x v u rg.2 t = -1 from (if_neg hN).trans hB, show ctear_X x v u rg.2 t = _ from if_neg hN, show ctear_V x v u rg.2 t = _ from if_neg hN, show ctear_H x v u rg.2 t = _ from if_neg hN]
    rfl
  · conv => lhs; whnf
    refine pif_c (fun q1 => ?_) (fun q1 => ?_)
    · have n1 := Int32.not_lt.mpr q1
      have hB : ctear_B x v t = 0 := (if_neg n0).trans ((if_neg n1).trans (rfl))
      rw [show ctear_R x v u rg.2 t = _ from if_pos hB, show ctear_X x v u rg.2 t = _ from if_pos hB, show ctear_V x v u rg.2 t = _ from if_pos hB, show ctear_H x v u rg.2 t = _ from if_pos hB]
      conv => lhs; whnf
      refine (callK_v (cl_X3_remember f x v u rg hc) (by rfl)).trans ?_
      conv => lhs; whnf
      refine (callK_v (cc1_breakSheet f (xRem (NX x)) v u t (rg.1, hRem (NX x) (NL v) rg.2)) (by rfl)).trans ?_
      rfl
    · have p1 := Int32.not_le.mp q1
      have hB : ctear_B x v t = -1 := (if_neg n0).trans (if_pos p1)
      have hN : ¬ ctear_B x v t = 0 := by rw [hB]; decide
      rw [show ctear_R x v u rg.2 t = -1 from (if_neg hN).trans hB, show ctear_X x v u rg.2 t = _ from if_neg hN, show ctear_V x v u rg.2 t = _ from if_neg hN, show ctear_H x v u rg.2 t = _ from if_neg hN]
      rfl
theorem ok_F_X8_tear (l : Launch) : pFOK l yX8_tear (pWs yX8_tear cX8_tear 2 ((some FieldType.int))) rm_X8_tear F_X8_tear := by
  refine pFOK_all fun args w rg v0 w' rg' h => ?_
  unfold F_X8_tear at h
  split at h
  next t =>
    obtain ⟨f, x, v, u, hw, h2⟩ := unB_some h
    clear h
    subst hw
    by_cases hc : bOK f rg
    · have h2 := (pif_t hc).symm.trans h2
      cases h2
      exact met_of_ex (by decide) (ok_k_X8_tear l) rfl (run_X8_tear rg f x v u t hc) (Nat.le_of_ble_eq_true rfl) rfl (Nat.le_of_ble_eq_true rfl) (Nat.le_of_ble_eq_true rfl) (Nat.zero_le _) rfl rfl
    · have h2 := (pif_f hc).symm.trans h2
      cases h2
  next => cases h
theorem rc_F_X8_tear : pRcv 8 F_X8_tear := by
  intro as w rg o h
  obtain ⟨v0, w', rg'⟩ := o
  unfold F_X8_tear at h
  split at h
  next =>
    obtain ⟨f, x, v, u, rfl, -⟩ := unB_some h
    exact ⟨_, _, _, rfl, cellOf_get rfl⟩
  next => cases h
theorem cl_X8_tear (f : Nat → Option Nat) (x v u : pLV) (t : Int32) (rg : pRg) (hc : bOK f rg) : F_X8_tear [.ref 0, .int t] (cw f x v u) rg = some (some (.int (ctear_R (NX x) (NL v) (NL u) rg.2 t)), cw f (ctear_X (NX x) (NL v) (NL u) rg.2 t) (ctear_V (NX x) (NL v) (NL u) rg.2 t) ((NL u)), (rg.1, ctear_H (NX x) (NL v) (NL u) rg.2 t)) := pif_t hc
end
