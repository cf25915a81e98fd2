noncomputable section
theorem dX8_run_0 : decode cX8_run 0 = .ok (.iload_n 1, 1) := by decide +kernel
theorem dX8_run_1 : decode cX8_run 1 = .ok (.iconst 1, 1) := by decide +kernel
theorem dX8_run_2 : decode cX8_run 2 = .ok (.if_icmp .lt 10, 3) := by decide +kernel
theorem dX8_run_5 : decode cX8_run 5 = .ok (.iload_n 1, 1) := by decide +kernel
theorem dX8_run_6 : decode cX8_run 6 = .ok (.sipush 200, 3) := by decide +kernel
theorem dX8_run_9 : decode cX8_run 9 = .ok (.if_icmp .le 5, 3) := by decide +kernel
theorem dX8_run_12 : decode cX8_run 12 = .ok (.iconst (-1), 1) := by decide +kernel
theorem dX8_run_13 : decode cX8_run 13 = .ok (.ireturn, 1) := by decide +kernel
theorem dX8_run_14 : decode cX8_run 14 = .ok (.aload_n 0, 1) := by decide +kernel
theorem dX8_run_15 : decode cX8_run 15 = .ok (.getfield 22, 3) := by decide +kernel
theorem dX8_run_18 : decode cX8_run 18 = .ok (.aload_n 0, 1) := by decide +kernel
theorem dX8_run_19 : decode cX8_run 19 = .ok (.getfield 10, 3) := by decide +kernel
theorem dX8_run_22 : decode cX8_run 22 = .ok (.invokevirtual 57, 3) := by decide +kernel
theorem dX8_run_25 : decode cX8_run 25 = .ok (.aload_n 0, 1) := by decide +kernel
theorem dX8_run_26 : decode cX8_run 26 = .ok (.getfield 10, 3) := by decide +kernel
theorem dX8_run_29 : decode cX8_run 29 = .ok (.iload_n 1, 1) := by decide +kernel
theorem dX8_run_30 : decode cX8_run 30 = .ok (.invokevirtual 145, 3) := by decide +kernel
theorem dX8_run_33 : decode cX8_run 33 = .ok (.ireturn, 1) := by decide +kernel
def k_X8_run : List pEn := [oIload 1, oConst (1), oClt 6, oIload 1, oConst (200), oCle 8, oConst (-1), oIret, oAload 0, oGet 8 2, oAload 0, oGet 8 0, oCallZ 2 F_X3_remember, oAload 0, oGet 8 0, oIload 1, oCallZ 2 Fb_X5_doTicks, oIret]
def pc_X8_run (i : Nat) : Nat := ([0, 1, 2, 5, 6, 9, 12, 13, 14, 15, 18, 19, 22, 25, 26, 29, 30, 33] : List Nat).getD i 0
abbrev rm_X8_run : Room := { frames := 6, cells := 0, slots := 0, locals := 139 }
theorem pl_X8_run : pPlain yX8_run 1 := by decide +kernel
set_option maxRecDepth 100000 in
set_option maxHeartbeats 4000000 in
theorem ok_k_X8_run (l : Launch) : ∀ (i : Nat) (en : pEn), k_X8_run[i]? = some en → EOK l cX8_run yX8_run.cls 2 ((some FieldType.int)) rm_X8_run 0 pc_X8_run i en := by
  refine allOK_at ?_
  refine And.intro (okIload_n dX8_run_0 rfl rfl) ?_
  refine And.intro (okIconst dX8_run_1 rfl (by first | rfl | decide)) ?_
  refine And.intro (okClt dX8_run_2 rfl (by rfl)) ?_
  refine And.intro (okIload_n dX8_run_5 rfl rfl) ?_
  refine And.intro (okSipush dX8_run_6 rfl (by first | rfl | decide)) ?_
  refine And.intro (okCle dX8_run_9 rfl (by rfl)) ?_
  refine And.intro (okIconst dX8_run_12 rfl (by first | rfl | decide)) ?_
  refine And.intro (okIret dX8_run_13 rfl) ?_
  refine And.intro (okAload_n dX8_run_14 rfl rfl) ?_
  refine And.intro (okGet (C := RX8) (T := TX8) (N := 10) dX8_run_15 rfl rfl (by decide) inX8 wm_2_34) ?_
  refine And.intro (okAload_n dX8_run_18 rfl rfl) ?_
  refine And.intro (okGet (C := RX8) (T := TX8) (N := 10) dX8_run_19 rfl rfl (by decide) inX8 wm_2_32) ?_
  refine And.intro (okCallV (y := yX3_remember) (T := TX3) (oCallZ_is _ _ _) dX8_run_22 rfl (ok_F_X3_remember l) rc_F_X3_remember rfl wm_2_67 wm_2_68 wm_2_69 wm_1_7 wm_2_70 pl_X3_remember (by decide)) ?_
  refine And.intro (okAload_n dX8_run_25 rfl rfl) ?_
  refine And.intro (okGet (C := RX8) (T := TX8) (N := 10) dX8_run_26 rfl rfl (by decide) inX8 wm_2_32) ?_
  refine And.intro (okIload_n dX8_run_29 rfl rfl) ?_
  refine And.intro (okCallV (y := yX5_doTicks) (T := TX5) (oCallZ_is _ _ _) dX8_run_30 rfl (ok_Fb_X5_doTicks l) rc_Fb_X5_doTicks rfl wm_2_209 wm_2_210 wm_2_211 wm_1_2 wm_2_212 pl_X5_doTicks (by decide)) ?_
  refine And.intro (okIret dX8_run_33 rfl) ?_
  exact trivial
def crun_B (x v : pLV) (n : Int32) : Int32 := if n < 1 then -1 else if 200 < n then -1 else 0
def crun_R (x v u : pLV) (h : Nat → pLV) (n : Int32) : Int32 := if crun_B x v n = 0 then sumP (tickI n.toNatClampNeg (NL v) 2) 4 - sumP (v 2) 4 else crun_B x v n
def crun_X (x v u : pLV) (h : Nat → pLV) (n : Int32) : pLV := if crun_B x v n = 0 then xRem x else x
def crun_V (x v u : pLV) (h : Nat → pLV) (n : Int32) : pLV := if crun_B x v n = 0 then tickI n.toNatClampNeg (NL v) else v
def crun_H (x v u : pLV) (h : Nat → pLV) (n : Int32) : Nat → pLV := if crun_B x v n = 0 then hRem x v h else h
def F_X8_run : pF := fun args w rg => match args with
  | [.ref 0, .int n] => unB w (fun f x v u => pif (bOK f rg) (some (some (.int (crun_R x v u rg.2 n)), cw f (crun_X x v u rg.2 n) (crun_V x v u rg.2 n) (u), (rg.1, crun_H x v u rg.2 n))) none)
  | _ => none
set_option maxHeartbeats 400000 in
set_option maxRecDepth 100000 in
theorem run_X8_run (rg : pRg) (f : Nat → Option Nat) (x v u : pLV) (n : Int32) (hc : bOK f rg) : ∃ fu, ex k_X8_run fu 0 [(0, .ref 0), (1, .int n)] [] (cw f x v u) rg = some (some (.int (crun_R x v u rg.2 n)), cw f (crun_X x v u rg.2 n) (crun_V x v u rg.2 n) (u), (rg.1, crun_H x v u rg.2 n)) := by
  refine ⟨60, ?_⟩
  conv => lhs; whnf
  refine pif_c (fun p0 => ?_) (fun n0 => ?_)
  · have hB : crun_B x v n = -1 := if_pos p0
    have hN : ¬ crun_B x v n = 0 := by rw [hB]; decide
    rw [show crun_R x v u rg.2 n = -1 from (if_neg hN).trans hB, show crun_X x v u rg.2 n = _ from if_neg hN, show crun_V x v u rg.2 n = _ from if_neg hN, show crun_H x v u rg.2 n = _ from if_neg hN]
    rfl
  · conv => lhs; whnf
    refine pif_c (fun q1 => ?_) (fun q1 => ?_)
    · have n1 := Int32.not_lt.mpr q1
      have hB : crun_B x v n = 0 := (if_neg n0).trans ((if_neg n1).trans (rfl))
      rw [show crun_R x v u rg.2 n = _ from if_pos hB, show crun_X x v u rg.2 n = _ from if_pos hB, show crun_V x v u rg.2 n = _ from if_pos hB, show crun_H x v u rg.2 n = _ from if_pos hB]
      conv => lhs; whnf
      refine (callK_v (cl_X3_remember f x v u rg hc) (by rfl)).trans ?_
      conv => lhs; whnf
      refine (callK_r (cc1_doTicks f (xRem (NX x)) v u n (rg.1, hRem (NX x) (NL v) rg.2)) (by rfl)).trans ?_
      rfl
    · have p1 := Int32.not_le.mp q1
      have hB : crun_B x v n = -1 := (if_neg n0).trans (if_pos p1)
      have hN : ¬ crun_B x v n = 0 := by rw [hB]; decide
      rw [show crun_R x v u rg.2 n = -1 from (if_neg hN).trans hB, show crun_X x v u rg.2 n = _ from if_neg hN, show crun_V x v u rg.2 n = _ from if_neg hN, show crun_H x v u rg.2 n = _ from if_neg hN]
      rfl
theorem ok_F_X8_run (l : Launch) : pFOK l yX8_run (pWs yX8_run cX8_run 2 ((some FieldType.int))) rm_X8_run F_X8_run := by
  refine pFOK_all fun args w rg v0 w' rg' h => ?_
  unfold F_X8_run at h
  split at h
  next n =>
    obtain ⟨f, x, v, u, hw, h2⟩ := unB_some h
    clear h
    subst hw
    by_cases hc : bOK f rg
    · have h2 := (pif_t hc).symm.trans h2
      cases h2
      exact met_of_ex (by decide) (ok_k_X8_run l) rfl (run_X8_run rg f x v u n hc) (Nat.le_of_ble_eq_true rfl) rfl (Nat.le_of_ble_eq_true rfl) (Nat.le_of_ble_eq_true rfl) (Nat.zero_le _) rfl rfl
    · have h2 := (pif_f hc).symm.trans h2
      cases h2
  next => cases h
theorem rc_F_X8_run : pRcv 8 F_X8_run := by
  intro as w rg o h
  obtain ⟨v0, w', rg'⟩ := o
  unfold F_X8_run at h
  split at h
  next =>
    obtain ⟨f, x, v, u, rfl, -⟩ := unB_some h
    exact ⟨_, _, _, rfl, cellOf_get rfl⟩
  next => cases h
theorem cl_X8_run (f : Nat → Option Nat) (x v u : pLV) (n : Int32) (rg : pRg) (hc : bOK f rg) : F_X8_run [.ref 0, .int n] (cw f x v u) rg = some (some (.int (crun_R (NX x) (NL v) (NL u) rg.2 n)), cw f (crun_X (NX x) (NL v) (NL u) rg.2 n) (crun_V (NX x) (NL v) (NL u) rg.2 n) ((NL u)), (rg.1, crun_H (NX x) (NL v) (NL u) rg.2 n)) := pif_t hc
end
