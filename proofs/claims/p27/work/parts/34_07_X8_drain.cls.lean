noncomputable section
theorem dX8_drain_0 : decode cX8_drain 0 = .ok (.iload_n 1, 1) := by decide +kernel
theorem dX8_drain_1 : decode cX8_drain 1 = .ok (.ifCond .lt 19, 3) := by decide +kernel
theorem dX8_drain_4 : decode cX8_drain 4 = .ok (.iload_n 1, 1) := by decide +kernel
theorem dX8_drain_5 : decode cX8_drain 5 = .ok (.iconst 4, 1) := by decide +kernel
theorem dX8_drain_6 : decode cX8_drain 6 = .ok (.if_icmp .ge 14, 3) := by decide +kernel
theorem dX8_drain_9 : decode cX8_drain 9 = .ok (.iload_n 2, 1) := by decide +kernel
theorem dX8_drain_10 : decode cX8_drain 10 = .ok (.iconst 1, 1) := by decide +kernel
theorem dX8_drain_11 : decode cX8_drain 11 = .ok (.if_icmp .lt 9, 3) := by decide +kernel
theorem dX8_drain_14 : decode cX8_drain 14 = .ok (.iload_n 2, 1) := by decide +kernel
theorem dX8_drain_15 : decode cX8_drain 15 = .ok (.ldc 89, 2) := by decide +kernel
theorem dX8_drain_17 : decode cX8_drain 17 = .ok (.if_icmp .le 5, 3) := by decide +kernel
theorem dX8_drain_20 : decode cX8_drain 20 = .ok (.iconst (-1), 1) := by decide +kernel
theorem dX8_drain_21 : decode cX8_drain 21 = .ok (.ireturn, 1) := by decide +kernel
theorem dX8_drain_22 : decode cX8_drain 22 = .ok (.aload_n 0, 1) := by decide +kernel
theorem dX8_drain_23 : decode cX8_drain 23 = .ok (.getfield 22, 3) := by decide +kernel
theorem dX8_drain_26 : decode cX8_drain 26 = .ok (.aload_n 0, 1) := by decide +kernel
theorem dX8_drain_27 : decode cX8_drain 27 = .ok (.getfield 10, 3) := by decide +kernel
theorem dX8_drain_30 : decode cX8_drain 30 = .ok (.invokevirtual 57, 3) := by decide +kernel
theorem dX8_drain_33 : decode cX8_drain 33 = .ok (.aload_n 0, 1) := by decide +kernel
theorem dX8_drain_34 : decode cX8_drain 34 = .ok (.getfield 10, 3) := by decide +kernel
theorem dX8_drain_37 : decode cX8_drain 37 = .ok (.iload_n 1, 1) := by decide +kernel
theorem dX8_drain_38 : decode cX8_drain 38 = .ok (.invokevirtual 99, 3) := by decide +kernel
theorem dX8_drain_41 : decode cX8_drain 41 = .ok (.astore_n 3, 1) := by decide +kernel
theorem dX8_drain_42 : decode cX8_drain 42 = .ok (.aload_n 3, 1) := by decide +kernel
theorem dX8_drain_43 : decode cX8_drain 43 = .ok (.aload_n 3, 1) := by decide +kernel
theorem dX8_drain_44 : decode cX8_drain 44 = .ok (.iload_n 2, 1) := by decide +kernel
theorem dX8_drain_45 : decode cX8_drain 45 = .ok (.invokevirtual 107, 3) := by decide +kernel
theorem dX8_drain_48 : decode cX8_drain 48 = .ok (.invokevirtual 113, 3) := by decide +kernel
theorem dX8_drain_51 : decode cX8_drain 51 = .ok (.istore 4, 2) := by decide +kernel
theorem dX8_drain_53 : decode cX8_drain 53 = .ok (.aload_n 0, 1) := by decide +kernel
theorem dX8_drain_54 : decode cX8_drain 54 = .ok (.getfield 10, 3) := by decide +kernel
theorem dX8_drain_57 : decode cX8_drain 57 = .ok (.getfield 90, 3) := by decide +kernel
theorem dX8_drain_60 : decode cX8_drain 60 = .ok (.dup, 1) := by decide +kernel
theorem dX8_drain_61 : decode cX8_drain 61 = .ok (.getfield 116, 3) := by decide +kernel
theorem dX8_drain_64 : decode cX8_drain 64 = .ok (.iload 4, 2) := by decide +kernel
theorem dX8_drain_66 : decode cX8_drain 66 = .ok (.iadd, 1) := by decide +kernel
theorem dX8_drain_67 : decode cX8_drain 67 = .ok (.putfield 116, 3) := by decide +kernel
theorem dX8_drain_70 : decode cX8_drain 70 = .ok (.iload 4, 2) := by decide +kernel
theorem dX8_drain_72 : decode cX8_drain 72 = .ok (.ireturn, 1) := by decide +kernel
def k_X8_drain : List pEn := [oIload 1, oIflt 11, oIload 1, oConst (4), oCge 11, oIload 2, oConst (1), oClt 11, oIload 2, oConst (50000), oCle 13, oConst (-1), oIret, oAload 0, oGet 8 2, oAload 0, oGet 8 0, oCallZ 2 F_X3_remember, oAload 0, oGet 8 0, oIload 1, oCallZ 2 Fb_X5_chestAt, oAstore 3, oAload 3, oAload 3, oIload 2, oCall 2 F_X1_there, oCall 2 F_X1_takeOut, oIstore 4, oAload 0, oGet 8 0, oGet 5 11, oDup, oGet 0 3, oIload 4, oAdd, oPut 0 3, oIload 4, oIret]
def pc_X8_drain (i : Nat) : Nat := ([0, 1, 4, 5, 6, 9, 10, 11, 14, 15, 17, 20, 21, 22, 23, 26, 27, 30, 33, 34, 37, 38, 41, 42, 43, 44, 45, 48, 51, 53, 54, 57, 60, 61, 64, 66, 67, 70, 72] : List Nat).getD i 0
abbrev rm_X8_drain : Room := { frames := 4, cells := 0, slots := 0, locals := 86 }
theorem pl_X8_drain : pPlain yX8_drain 2 := by decide +kernel
set_option maxRecDepth 100000 in
set_option maxHeartbeats 4000000 in
theorem ok_k_X8_drain (l : Launch) : ∀ (i : Nat) (en : pEn), k_X8_drain[i]? = some en → EOK l cX8_drain yX8_drain.cls 5 ((some FieldType.int)) rm_X8_drain 0 pc_X8_drain i en := by
  refine allOK_at ?_
  refine And.intro (okIload_n dX8_drain_0 rfl rfl) ?_
  refine And.intro (okIflt dX8_drain_1 rfl (by rfl)) ?_
  refine And.intro (okIload_n dX8_drain_4 rfl rfl) ?_
  refine And.intro (okIconst dX8_drain_5 rfl (by first | rfl | decide)) ?_
  refine And.intro (okCge dX8_drain_6 rfl (by rfl)) ?_
  refine And.intro (okIload_n dX8_drain_9 rfl rfl) ?_
  refine And.intro (okIconst dX8_drain_10 rfl (by first | rfl | decide)) ?_
  refine And.intro (okClt dX8_drain_11 rfl (by rfl)) ?_
  refine And.intro (okIload_n dX8_drain_14 rfl rfl) ?_
  refine And.intro (okLdc dX8_drain_15 rfl wm_2_129) ?_
  refine And.intro (okCle dX8_drain_17 rfl (by rfl)) ?_
  refine And.intro (okIconst dX8_drain_20 rfl (by first | rfl | decide)) ?_
  refine And.intro (okIret dX8_drain_21 rfl) ?_
  refine And.intro (okAload_n dX8_drain_22 rfl rfl) ?_
  refine And.intro (okGet (C := RX8) (T := TX8) (N := 10) dX8_drain_23 rfl rfl (by decide) inX8 wm_2_34) ?_
  refine And.intro (okAload_n dX8_drain_26 rfl rfl) ?_
  refine And.intro (okGet (C := RX8) (T := TX8) (N := 10) dX8_drain_27 rfl rfl (by decide) inX8 wm_2_32) ?_
  refine And.intro (okCallV (y := yX3_remember) (T := TX3) (oCallZ_is _ _ _) dX8_drain_30 rfl (ok_F_X3_remember l) rc_F_X3_remember rfl wm_2_67 wm_2_68 wm_2_69 wm_1_7 wm_2_70 pl_X3_remember (by decide)) ?_
  refine And.intro (okAload_n dX8_drain_33 rfl rfl) ?_
  refine And.intro (okGet (C := RX8) (T := TX8) (N := 10) dX8_drain_34 rfl rfl (by decide) inX8 wm_2_32) ?_
  refine And.intro (okIload_n dX8_drain_37 rfl rfl) ?_
  refine And.intro (okCallV (y := yX5_chestAt) (T := TX5) (oCallZ_is _ _ _) dX8_drain_38 rfl (ok_Fb_X5_chestAt l) rc_Fb_X5_chestAt rfl wm_2_130 wm_2_131 wm_2_132 wm_1_2 wm_2_133 pl_X5_chestAt (by decide)) ?_
  refine And.intro (okAstore_n dX8_drain_41 rfl rfl (by decide)) ?_
  refine And.intro (okAload_n dX8_drain_42 rfl rfl) ?_
  refine And.intro (okAload_n dX8_drain_43 rfl rfl) ?_
  refine And.intro (okIload_n dX8_drain_44 rfl rfl) ?_
  refine And.intro (okCallV (y := yX1_there) (T := TX1) (oCall_is _ _ _) dX8_drain_45 rfl (ok_F_X1_there l) rc_F_X1_there rfl wm_2_150 wm_2_151 wm_2_152 wm_1_3 wm_2_153 pl_X1_there (by decide)) ?_
  refine And.intro (okCallV (y := yX1_takeOut) (T := TX1) (oCall_is _ _ _) dX8_drain_48 rfl (ok_F_X1_takeOut l) rc_F_X1_takeOut rfl wm_2_155 wm_2_143 wm_2_144 wm_1_3 wm_2_145 pl_X1_takeOut (by decide)) ?_
  refine And.intro (okIstore dX8_drain_51 rfl (by decide)) ?_
  refine And.intro (okAload_n dX8_drain_53 rfl rfl) ?_
  refine And.intro (okGet (C := RX8) (T := TX8) (N := 10) dX8_drain_54 rfl rfl (by decide) inX8 wm_2_32) ?_
  refine And.intro (okGet (C := RX5) (T := TX5) (N := 15) dX8_drain_57 rfl rfl (by decide) inX5 wm_1_173) ?_
  refine And.intro (okDup dX8_drain_60 rfl) ?_
  refine And.intro (okGet (C := RX0) (T := TX0) (N := 6) dX8_drain_61 rfl rfl (by decide) inX0 wm_1_64) ?_
  refine And.intro (okIload dX8_drain_64 rfl) ?_
  refine And.intro (okAdd dX8_drain_66 rfl) ?_
  refine And.intro (okPut (C := RX0) (T := TX0) (N := 6) dX8_drain_67 rfl rfl (by decide) inX0 tyX0_ok nmX0 rfl rfl wm_1_64) ?_
  refine And.intro (okIload dX8_drain_70 rfl) ?_
  refine And.intro (okIret dX8_drain_72 rfl) ?_
  exact trivial
def cdrain_B (x v : pLV) (c : Int32) (a : Int32) : Int32 := if c < 0 then -1 else if 4 ≤ c then -1 else if a < 1 then -1 else if 50000 < a then -1 else 0
def cdrain_R (x v u : pLV) (h : Nat → pLV) (c : Int32) (a : Int32) : Int32 := if cdrain_B x v c a = 0 then tkR (v 0 (10 + 3 * c.toNatClampNeg)) (v 0 (11 + 3 * c.toNatClampNeg)) (mnI a (v 0 (10 + 3 * c.toNatClampNeg) + v 0 (11 + 3 * c.toNatClampNeg))) else cdrain_B x v c a
def cdrain_X (x v u : pLV) (h : Nat → pLV) (c : Int32) (a : Int32) : pLV := if cdrain_B x v c a = 0 then xRem x else x
def cdrain_V (x v u : pLV) (h : Nat → pLV) (c : Int32) (a : Int32) : pLV := if cdrain_B x v c a = 0 then vS (vS (vS v (10 + 3 * c.toNatClampNeg) (v 0 (10 + 3 * c.toNatClampNeg) - tkR (v 0 (10 + 3 * c.toNatClampNeg)) (v 0 (11 + 3 * c.toNatClampNeg)) (mnI a (v 0 (10 + 3 * c.toNatClampNeg) + v 0 (11 + 3 * c.toNatClampNeg))))) (11 + 3 * c.toNatClampNeg) (tkG (v 0 (10 + 3 * c.toNatClampNeg)) (v 0 (11 + 3 * c.toNatClampNeg)) (mnI a (v 0 (10 + 3 * c.toNatClampNeg) + v 0 (11 + 3 * c.toNatClampNeg))))) 25 (v 0 25 + tkR (v 0 (10 + 3 * c.toNatClampNeg)) (v 0 (11 + 3 * c.toNatClampNeg)) (mnI a (v 0 (10 + 3 * c.toNatClampNeg) + v 0 (11 + 3 * c.toNatClampNeg)))) else v
def cdrain_H (x v u : pLV) (h : Nat → pLV) (c : Int32) (a : Int32) : Nat → pLV := if cdrain_B x v c a = 0 then hRem x v h else h
def F_X8_drain : pF := fun args w rg => match args with
  | [.ref 0, .int c, .int a] => unB w (fun f x v u => pif (bOK f rg) (some (some (.int (cdrain_R x v u rg.2 c a)), cw f (cdrain_X x v u rg.2 c a) (cdrain_V x v u rg.2 c a) (u), (rg.1, cdrain_H x v u rg.2 c a))) none)
  | _ => none
set_option maxHeartbeats 400000 in
set_option maxRecDepth 100000 in
theorem run_X8_drain (rg : pRg) (f : Nat → Option Nat) (x v u : pLV) (c : Int32) (a : Int32) (hc : bOK f rg) : ∃ fu, ex k_X8_drain fu 0 [(0, .ref 0), (1, .int c), (2, .int a)] [] (cw f x v u) rg = some (some (.int (cdrain_R x v u rg.2 c a)), cw f (cdrain_X x v u rg.2 c a) (cdrain_V x v u rg.2 c a) (u), (rg.1, cdrain_H x v u rg.2 c a)) := by
  refine ⟨60, ?_⟩
  conv => lhs; whnf
  refine pif_c (fun p0 => ?_) (fun n0 => ?_)
  · have hB : cdrain_B x v c a = -1 := if_pos p0
    have hN : ¬ cdrain_B x v c a = 0 := by rw [hB]; decide
    rw [show cdrain_R x v u rg.2 c a = -1 from (if_neg hN).trans hB, show cdrain_X x v u rg.2 c a = _ from if_neg hN, show cdrain_V x v u rg.2 c a = _ from if_neg hN, show cdrain_H x v u rg.2 c a = _ from if_neg hN]
    rfl
  · conv => lhs; whnf
    refine pif_c (fun p1 => ?_) (fun n1 => ?_)
    · have hB : cdrain_B x v c a = -1 := (if_neg n0).trans (if_pos p1)
      have hN : ¬ cdrain_B x v c a = 0 := by rw [hB]; decide
      rw [show cdrain_R x v u rg.2 c a = -1 from (if_neg hN).trans hB, show cdrain_X x v u rg.2 c a = _ from if_neg hN, show cdrain_V x v u rg.2 c a = _ from if_neg hN, show cdrain_H x v u rg.2 c a = _ from if_neg hN]
      rfl
    · conv => lhs; whnf
      refine pif_c (fun p2 => ?_) (fun n2 => ?_)
      · have hB : cdrain_B x v c a = -1 := (if_neg n0).trans ((if_neg n1).trans (if_pos p2))
        have hN : ¬ cdrain_B x v c a = 0 := by rw [hB]; decide
        rw [show cdrain_R x v u rg.2 c a = -1 from (if_neg hN).trans hB, show cdrain_X x v u rg.2 c a = _ from if_neg hN, show cdrain_V x v u rg.2 c a = _ from if_neg hN, show cdrain_H x v u rg.2 c a = _ from if_neg hN]
        rfl
      · conv => lhs; whnf
        refine pif_c (fun q3 => ?_) (fun q3 => ?_)
        · have n3 := Int32.not_lt.mpr q3
          have hB : cdrain_B x v c a = 0 := (if_neg n0).trans ((if_neg n1).trans ((if_neg n2).trans ((if_neg n3).trans (rfl))))
          rw [show cdrain_R x v u rg.2 c a = _ from if_pos hB, show cdrain_X x v u rg.2 c a = _ from if_pos hB, show cdrain_V x v u rg.2 c a = _ from if_pos hB, show cdrain_H x v u rg.2 c a = _ from if_pos hB]
          conv => lhs; whnf
          refine (callK_v (cl_X3_remember f x v u rg hc) (by rfl)).trans ?_
          rcases four_of n0 n1 with rfl | rfl | rfl | rfl
          · conv => lhs; whnf
            refine (callK_r (cc_chestAt0 f (xRem (NX x)) v u (rg.1, hRem (NX x) (NL v) rg.2)) (by rfl)).trans ?_
            rfl
          · conv => lhs; whnf
            refine (callK_r (cc_chestAt1 f (xRem (NX x)) v u (rg.1, hRem (NX x) (NL v) rg.2)) (by rfl)).trans ?_
            rfl
          · conv => lhs; whnf
            refine (callK_r (cc_chestAt2 f (xRem (NX x)) v u (rg.1, hRem (NX x) (NL v) rg.2)) (by rfl)).trans ?_
            rfl
          · conv => lhs; whnf
            refine (callK_r (cc_chestAt3 f (xRem (NX x)) v u (rg.1, hRem (NX x) (NL v) rg.2)) (by rfl)).trans ?_
            rfl
        · have p3 := Int32.not_le.mp q3
          have hB : cdrain_B x v c a = -1 := (if_neg n0).trans ((if_neg n1).trans ((if_neg n2).trans (if_pos p3)))
          have hN : ¬ cdrain_B x v c a = 0 := by rw [hB]; decide
          rw [show cdrain_R x v u rg.2 c a = -1 from (if_neg hN).trans hB, show cdrain_X x v u rg.2 c a = _ from if_neg hN, show cdrain_V x v u rg.2 c a = _ from if_neg hN, show cdrain_H x v u rg.2 c a = _ from if_neg hN]
          rfl
theorem ok_F_X8_drain (l : Launch) : pFOK l yX8_drain (pWs yX8_drain cX8_drain 5 ((some FieldType.int))) rm_X8_drain F_X8_drain := by
  refine pFOK_all fun args w rg v0 w' rg' h => ?_
  unfold F_X8_drain at h
  split at h
  next c a =>
    obtain ⟨f, x, v, u, hw, h2⟩ := unB_some h
    clear h
    subst hw
    by_cases hc : bOK f rg
    · have h2 := (pif_t hc).symm.trans h2
      cases h2
      exact met_of_ex (by decide) (ok_k_X8_drain l) rfl (run_X8_drain rg f x v u c a hc) (Nat.le_of_ble_eq_true rfl) rfl (Nat.le_of_ble_eq_true rfl) (Nat.le_of_ble_eq_true rfl) (Nat.zero_le _) rfl rfl
    · have h2 := (pif_f hc).symm.trans h2
      cases h2
  next => cases h
theorem rc_F_X8_drain : pRcv 8 F_X8_drain := by
  intro as w rg o h
  obtain ⟨v0, w', rg'⟩ := o
  unfold F_X8_drain at h
  split at h
  next =>
    obtain ⟨f, x, v, u, rfl, -⟩ := unB_some h
    exact ⟨_, _, _, rfl, cellOf_get rfl⟩
  next => cases h
theorem cl_X8_drain (f : Nat → Option Nat) (x v u : pLV) (c : Int32) (a : Int32) (rg : pRg) (hc : bOK f rg) : F_X8_drain [.ref 0, .int c, .int a] (cw f x v u) rg = some (some (.int (cdrain_R (NX x) (NL v) (NL u) rg.2 c a)), cw f (cdrain_X (NX x) (NL v) (NL u) rg.2 c a) (cdrain_V (NX x) (NL v) (NL u) rg.2 c a) ((NL u)), (rg.1, cdrain_H (NX x) (NL v) (NL u) rg.2 c a)) := pif_t hc
end
