noncomputable section
theorem four_of {c : Int32} (h0 : ¬ c < 0) (h1 : ¬ 4 ≤ c) : c = 0 ∨ c = 1 ∨ c = 2 ∨ c = 3 := by
  refine inI_03 ?_
  have h2 : ¬ 3 < c := fun q => h1 (by
    have e1 := Int32.lt_iff_toInt_lt.mp q
    have e3 : (3 : Int32).toInt = 3 := (by decide)
    have e4 : (4 : Int32).toInt = 4 := (by decide)
    exact Int32.le_iff_toInt_le.mpr (by omega))
  rw [show inI c 0 3 = 1 from (if_neg h0).trans (if_neg h2)]
  decide
theorem dX8_fill_0 : decode cX8_fill 0 = .ok (.iload_n 1, 1) := by decide +kernel
theorem dX8_fill_1 : decode cX8_fill 1 = .ok (.ifCond .lt 29, 3) := by decide +kernel
theorem dX8_fill_4 : decode cX8_fill 4 = .ok (.iload_n 1, 1) := by decide +kernel
theorem dX8_fill_5 : decode cX8_fill 5 = .ok (.iconst 4, 1) := by decide +kernel
theorem dX8_fill_6 : decode cX8_fill 6 = .ok (.if_icmp .ge 24, 3) := by decide +kernel
theorem dX8_fill_9 : decode cX8_fill 9 = .ok (.iload_n 2, 1) := by decide +kernel
theorem dX8_fill_10 : decode cX8_fill 10 = .ok (.ifCond .lt 20, 3) := by decide +kernel
theorem dX8_fill_13 : decode cX8_fill 13 = .ok (.iload_n 2, 1) := by decide +kernel
theorem dX8_fill_14 : decode cX8_fill 14 = .ok (.sipush 5000, 3) := by decide +kernel
theorem dX8_fill_17 : decode cX8_fill 17 = .ok (.if_icmp .gt 13, 3) := by decide +kernel
theorem dX8_fill_20 : decode cX8_fill 20 = .ok (.iload_n 3, 1) := by decide +kernel
theorem dX8_fill_21 : decode cX8_fill 21 = .ok (.ifCond .lt 9, 3) := by decide +kernel
theorem dX8_fill_24 : decode cX8_fill 24 = .ok (.iload_n 3, 1) := by decide +kernel
theorem dX8_fill_25 : decode cX8_fill 25 = .ok (.ldc 89, 2) := by decide +kernel
theorem dX8_fill_27 : decode cX8_fill 27 = .ok (.if_icmp .le 5, 3) := by decide +kernel
theorem dX8_fill_30 : decode cX8_fill 30 = .ok (.iconst (-1), 1) := by decide +kernel
theorem dX8_fill_31 : decode cX8_fill 31 = .ok (.ireturn, 1) := by decide +kernel
theorem dX8_fill_32 : decode cX8_fill 32 = .ok (.aload_n 0, 1) := by decide +kernel
theorem dX8_fill_33 : decode cX8_fill 33 = .ok (.getfield 22, 3) := by decide +kernel
theorem dX8_fill_36 : decode cX8_fill 36 = .ok (.aload_n 0, 1) := by decide +kernel
theorem dX8_fill_37 : decode cX8_fill 37 = .ok (.getfield 10, 3) := by decide +kernel
theorem dX8_fill_40 : decode cX8_fill 40 = .ok (.invokevirtual 57, 3) := by decide +kernel
theorem dX8_fill_43 : decode cX8_fill 43 = .ok (.aload_n 0, 1) := by decide +kernel
theorem dX8_fill_44 : decode cX8_fill 44 = .ok (.getfield 10, 3) := by decide +kernel
theorem dX8_fill_47 : decode cX8_fill 47 = .ok (.getfield 90, 3) := by decide +kernel
theorem dX8_fill_50 : decode cX8_fill 50 = .ok (.dup, 1) := by decide +kernel
theorem dX8_fill_51 : decode cX8_fill 51 = .ok (.getfield 94, 3) := by decide +kernel
theorem dX8_fill_54 : decode cX8_fill 54 = .ok (.iload_n 2, 1) := by decide +kernel
theorem dX8_fill_55 : decode cX8_fill 55 = .ok (.iadd, 1) := by decide +kernel
theorem dX8_fill_56 : decode cX8_fill 56 = .ok (.putfield 94, 3) := by decide +kernel
theorem dX8_fill_59 : decode cX8_fill 59 = .ok (.aload_n 0, 1) := by decide +kernel
theorem dX8_fill_60 : decode cX8_fill 60 = .ok (.getfield 10, 3) := by decide +kernel
theorem dX8_fill_63 : decode cX8_fill 63 = .ok (.aload_n 0, 1) := by decide +kernel
theorem dX8_fill_64 : decode cX8_fill 64 = .ok (.getfield 10, 3) := by decide +kernel
theorem dX8_fill_67 : decode cX8_fill 67 = .ok (.iload_n 1, 1) := by decide +kernel
theorem dX8_fill_68 : decode cX8_fill 68 = .ok (.invokevirtual 99, 3) := by decide +kernel
theorem dX8_fill_71 : decode cX8_fill 71 = .ok (.iload_n 2, 1) := by decide +kernel
theorem dX8_fill_72 : decode cX8_fill 72 = .ok (.iload_n 3, 1) := by decide +kernel
theorem dX8_fill_73 : decode cX8_fill 73 = .ok (.invokevirtual 103, 3) := by decide +kernel
theorem dX8_fill_76 : decode cX8_fill 76 = .ok (.ireturn, 1) := by decide +kernel
def k_X8_fill : List pEn := [oIload 1, oIflt 15, oIload 1, oConst (4), oCge 15, oIload 2, oIflt 15, oIload 2, oConst (5000), oCgt 15, oIload 3, oIflt 15, oIload 3, oConst (50000), oCle 17, oConst (-1), oIret, oAload 0, oGet 8 2, oAload 0, oGet 8 0, oCallZ 2 F_X3_remember, oAload 0, oGet 8 0, oGet 5 11, oDup, oGet 0 1, oIload 2, oAdd, oPut 0 1, oAload 0, oGet 8 0, oAload 0, oGet 8 0, oIload 1, oCallZ 2 Fb_X5_chestAt, oIload 2, oIload 3, oCallZ 4 Fb_X5_pour, oIret]
def pc_X8_fill (i : Nat) : Nat := ([0, 1, 4, 5, 6, 9, 10, 13, 14, 17, 20, 21, 24, 25, 27, 30, 31, 32, 33, 36, 37, 40, 43, 44, 47, 50, 51, 54, 55, 56, 59, 60, 63, 64, 67, 68, 71, 72, 73, 76] : List Nat).getD i 0
abbrev rm_X8_fill : Room := { frames := 4, cells := 0, slots := 0, locals := 86 }
theorem pl_X8_fill : pPlain yX8_fill 3 := by decide +kernel
set_option maxRecDepth 100000 in
set_option maxHeartbeats 4000000 in
theorem ok_k_X8_fill (l : Launch) : ∀ (i : Nat) (en : pEn), k_X8_fill[i]? = some en → EOK l cX8_fill yX8_fill.cls 4 ((some FieldType.int)) rm_X8_fill 0 pc_X8_fill i en := by
  refine allOK_at ?_
  refine And.intro (okIload_n dX8_fill_0 rfl rfl) ?_
  refine And.intro (okIflt dX8_fill_1 rfl (by rfl)) ?_
  refine And.intro (okIload_n dX8_fill_4 rfl rfl) ?_
  refine And.intro (okIconst dX8_fill_5 rfl (by first | rfl | decide)) ?_
  refine And.intro (okCge dX8_fill_6 rfl (by rfl)) ?_
  refine And.intro (okIload_n dX8_fill_9 rfl rfl) ?_
  refine And.intro (okIflt dX8_fill_10 rfl (by rfl)) ?_
  refine And.intro (okIload_n dX8_fill_13 rfl rfl) ?_
  refine And.intro (okSipush dX8_fill_14 rfl (by first | rfl | decide)) ?_
  refine And.intro (okCgt dX8_fill_17 rfl (by rfl)) ?_
  refine And.intro (okIload_n dX8_fill_20 rfl rfl) ?_
  refine And.intro (okIflt dX8_fill_21 rfl (by rfl)) ?_
  refine And.intro (okIload_n dX8_fill_24 rfl rfl) ?_
  refine And.intro (okLdc dX8_fill_25 rfl wm_2_129) ?_
  refine And.intro (okCle dX8_fill_27 rfl (by rfl)) ?_
  refine And.intro (okIconst dX8_fill_30 rfl (by first | rfl | decide)) ?_
  refine And.intro (okIret dX8_fill_31 rfl) ?_
  refine And.intro (okAload_n dX8_fill_32 rfl rfl) ?_
  refine And.intro (okGet (C := RX8) (T := TX8) (N := 10) dX8_fill_33 rfl rfl (by decide) inX8 wm_2_34) ?_
  refine And.intro (okAload_n dX8_fill_36 rfl rfl) ?_
  refine And.intro (okGet (C := RX8) (T := TX8) (N := 10) dX8_fill_37 rfl rfl (by decide) inX8 wm_2_32) ?_
  refine And.intro (okCallV (y := yX3_remember) (T := TX3) (oCallZ_is _ _ _) dX8_fill_40 rfl (ok_F_X3_remember l) rc_F_X3_remember rfl wm_2_67 wm_2_68 wm_2_69 wm_1_7 wm_2_70 pl_X3_remember (by decide)) ?_
  refine And.intro (okAload_n dX8_fill_43 rfl rfl) ?_
  refine And.intro (okGet (C := RX8) (T := TX8) (N := 10) dX8_fill_44 rfl rfl (by decide) inX8 wm_2_32) ?_
  refine And.intro (okGet (C := RX5) (T := TX5) (N := 15) dX8_fill_47 rfl rfl (by decide) inX5 wm_1_173) ?_
  refine And.intro (okDup dX8_fill_50 rfl) ?_
  refine And.intro (okGet (C := RX0) (T := TX0) (N := 6) dX8_fill_51 rfl rfl (by decide) inX0 wm_1_59) ?_
  refine And.intro (okIload_n dX8_fill_54 rfl rfl) ?_
  refine And.intro (okAdd dX8_fill_55 rfl) ?_
  refine And.intro (okPut (C := RX0) (T := TX0) (N := 6) dX8_fill_56 rfl rfl (by decide) inX0 tyX0_ok nmX0 rfl rfl wm_1_59) ?_
  refine And.intro (okAload_n dX8_fill_59 rfl rfl) ?_
  refine And.intro (okGet (C := RX8) (T := TX8) (N := 10) dX8_fill_60 rfl rfl (by decide) inX8 wm_2_32) ?_
  refine And.intro (okAload_n dX8_fill_63 rfl rfl) ?_
  refine And.intro (okGet (C := RX8) (T := TX8) (N := 10) dX8_fill_64 rfl rfl (by decide) inX8 wm_2_32) ?_
  refine And.intro (okIload_n dX8_fill_67 rfl rfl) ?_
  refine And.intro (okCallV (y := yX5_chestAt) (T := TX5) (oCallZ_is _ _ _) dX8_fill_68 rfl (ok_Fb_X5_chestAt l) rc_Fb_X5_chestAt rfl wm_2_130 wm_2_131 wm_2_132 wm_1_2 wm_2_133 pl_X5_chestAt (by decide)) ?_
  refine And.intro (okIload_n dX8_fill_71 rfl rfl) ?_
  refine And.intro (okIload_n dX8_fill_72 rfl rfl) ?_
  refine And.intro (okCallV (y := yX5_pour) (T := TX5) (oCallZ_is _ _ _) dX8_fill_73 rfl (ok_Fb_X5_pour l) rc_Fb_X5_pour rfl wm_2_134 wm_2_135 wm_2_136 wm_1_2 wm_2_137 pl_X5_pour (by decide)) ?_
  refine And.intro (okIret dX8_fill_76 rfl) ?_
  exact trivial
def cfill_B (x v : pLV) (c : Int32) (a : Int32) (b : Int32) : Int32 := if c < 0 then -1 else if 4 ≤ c then -1 else if a < 0 then -1 else if 5000 < a then -1 else if b < 0 then -1 else if 50000 < b then -1 else 0
def cfill_R (x v u : pLV) (h : Nat → pLV) (c : Int32) (a : Int32) (b : Int32) : Int32 := if cfill_B x v c a b = 0 then pourR c.toNatClampNeg (vS v 23 (v 0 23 + a)) a b else cfill_B x v c a b
def cfill_X (x v u : pLV) (h : Nat → pLV) (c : Int32) (a : Int32) (b : Int32) : pLV := if cfill_B x v c a b = 0 then xRem x else x
def cfill_V (x v u : pLV) (h : Nat → pLV) (c : Int32) (a : Int32) (b : Int32) : pLV := if cfill_B x v c a b = 0 then pourV c.toNatClampNeg (vS v 23 (v 0 23 + a)) a b else v
def cfill_H (x v u : pLV) (h : Nat → pLV) (c : Int32) (a : Int32) (b : Int32) : Nat → pLV := if cfill_B x v c a b = 0 then hRem x v h else h
def F_X8_fill : pF := fun args w rg => match args with
  | [.ref 0, .int c, .int a, .int b] => unB w (fun f x v u => pif (bOK f rg) (some (some (.int (cfill_R x v u rg.2 c a b)), cw f (cfill_X x v u rg.2 c a b) (cfill_V x v u rg.2 c a b) (u), (rg.1, cfill_H x v u rg.2 c a b))) none)
  | _ => none
set_option maxHeartbeats 400000 in
set_option maxRecDepth 100000 in
theorem run_X8_fill (rg : pRg) (f : Nat → Option Nat) (x v u : pLV) (c : Int32) (a : Int32) (b : Int32) (hc : bOK f rg) : ∃ fu, ex k_X8_fill fu 0 [(0, .ref 0), (1, .int c), (2, .int a), (3, .int b)] [] (cw f x v u) rg = some (some (.int (cfill_R x v u rg.2 c a b)), cw f (cfill_X x v u rg.2 c a b) (cfill_V x v u rg.2 c a b) (u), (rg.1, cfill_H x v u rg.2 c a b)) := by
  refine ⟨60, ?_⟩
  conv => lhs; whnf
  refine pif_c (fun p0 => ?_) (fun n0 => ?_)
  · have hB : cfill_B x v c a b = -1 := if_pos p0
    have hN : ¬ cfill_B x v c a b = 0 := by rw [hB]; decide
    rw [show cfill_R x v u rg.2 c a b = -1 from (if_neg hN).trans hB, show cfill_X x v u rg.2 c a b = _ from if_neg hN, show cfill_V x v u rg.2 c a b = _ from if_neg hN, show cfill_H x v u rg.2 c a b = _ from if_neg hN]
    rfl
  · conv => lhs; whnf
    refine pif_c (fun p1 => ?_) (fun n1 => ?_)
    · have hB : cfill_B x v c a b = -1 := (if_neg n0).trans (if_pos p1)
      have hN : ¬ cfill_B x v c a b = 0 := by rw [hB]; decide
      rw [show cfill_R x v u rg.2 c a b = -1 from (if_neg hN).trans hB, show cfill_X x v u rg.2 c a b = _ from if_neg hN, show cfill_V x v u rg.2 c a b = _ from if_neg hN, show cfill_H x v u rg.2 c a b = _ from if_neg hN]
      rfl
    · conv => lhs; whnf
      refine pif_c (fun p2 => ?_) (fun n2 => ?_)
      · have hB : cfill_B x v c a b = -1 := (if_neg n0).trans ((if_neg n1).trans (if_pos p2))
        have hN : ¬ cfill_B x v c a b = 0 := by rw [hB]; decide
        rw [show cfill_R x v u rg.2 c a b = -1 from (if_neg hN).trans hB, show cfill_X x v u rg.2 c a b = _ from if_neg hN, show cfill_V x v u rg.2 c a b = _ from if_neg hN, show cfill_H x v u rg.2 c a b = _ from if_neg hN]
        rfl
      · conv => lhs; whnf
        refine pif_c (fun p3 => ?_) (fun n3 => ?_)
        · have hB : cfill_B x v c a b = -1 := (if_neg n0).trans ((if_neg n1).trans ((if_neg n2).trans (if_pos p3)))
          have hN : ¬ cfill_B x v c a b = 0 := by rw [hB]; decide
          rw [show cfill_R x v u rg.2 c a b = -1 from (if_neg hN).trans hB, show cfill_X x v u rg.2 c a b = _ from if_neg hN, show cfill_V x v u rg.2 c a b = _ from if_neg hN, show cfill_H x v u rg.2 c a b = _ from if_neg hN]
          rfl
        · conv => lhs; whnf
          refine pif_c (fun p4 => ?_) (fun n4 => ?_)
          · have hB : cfill_B x v c a b = -1 := (if_neg n0).trans ((if_neg n1).trans ((if_neg n2).trans ((if_neg n3).trans (if_pos p4))))
            have hN : ¬ cfill_B x v c a b = 0 := by rw [hB]; decide
            rw [show cfill_R x v u rg.2 c a b = -1 from (if_neg hN).trans hB, show cfill_X x v u rg.2 c a b = _ from if_neg hN, show cfill_V x v u rg.2 c a b = _ from if_neg hN, show cfill_H x v u rg.2 c a b = _ from if_neg hN]
            rfl
          · conv => lhs; whnf
            refine pif_c (fun q5 => ?_) (fun q5 => ?_)
            · have n5 := Int32.not_lt.mpr q5
              have hB : cfill_B x v c a b = 0 := (if_neg n0).trans ((if_neg n1).trans ((if_neg n2).trans ((if_neg n3).trans ((if_neg n4).trans ((if_neg n5).trans (rfl))))))
              rw [show cfill_R x v u rg.2 c a b = _ from if_pos hB, show cfill_X x v u rg.2 c a b = _ from if_pos hB, show cfill_V x v u rg.2 c a b = _ from if_pos hB, show cfill_H x v u rg.2 c a b = _ from if_pos hB]
              conv => lhs; whnf
              refine (callK_v (cl_X3_remember f x v u rg hc) (by rfl)).trans ?_
              rcases four_of n0 n1 with rfl | rfl | rfl | rfl
              · conv => lhs; whnf
                refine (callK_r (cc_chestAt0 f (xRem (NX x)) (vS v 23 (v 0 23 + a)) u (rg.1, hRem (NX x) (NL v) rg.2)) (by rfl)).trans ?_
                conv => lhs; whnf
                refine (callK_r (cc1_pour0 f (xRem (NX x)) (vS v 23 (v 0 23 + a)) u a b (rg.1, hRem (NX x) (NL v) rg.2)) (by rfl)).trans ?_
                rfl
              · conv => lhs; whnf
                refine (callK_r (cc_chestAt1 f (xRem (NX x)) (vS v 23 (v 0 23 + a)) u (rg.1, hRem (NX x) (NL v) rg.2)) (by rfl)).trans ?_
                conv => lhs; whnf
                refine (callK_r (cc1_pour1 f (xRem (NX x)) (vS v 23 (v 0 23 + a)) u a b (rg.1, hRem (NX x) (NL v) rg.2)) (by rfl)).trans ?_
                rfl
              · conv => lhs; whnf
                refine (callK_r (cc_chestAt2 f (xRem (NX x)) (vS v 23 (v 0 23 + a)) u (rg.1, hRem (NX x) (NL v) rg.2)) (by rfl)).trans ?_
                conv => lhs; whnf
                refine (callK_r (cc1_pour2 f (xRem (NX x)) (vS v 23 (v 0 23 + a)) u a b (rg.1, hRem (NX x) (NL v) rg.2)) (by rfl)).trans ?_
                rfl
              · conv => lhs; whnf
                refine (callK_r (cc_chestAt3 f (xRem (NX x)) (vS v 23 (v 0 23 + a)) u (rg.1, hRem (NX x) (NL v) rg.2)) (by rfl)).trans ?_
                conv => lhs; whnf
                refine (callK_r (cc1_pour3 f (xRem (NX x)) (vS v 23 (v 0 23 + a)) u a b (rg.1, hRem (NX x) (NL v) rg.2)) (by rfl)).trans ?_
                rfl
            · have p5 := Int32.not_le.mp q5
              have hB : cfill_B x v c a b = -1 := (if_neg n0).trans ((if_neg n1).trans ((if_neg n2).trans ((if_neg n3).trans ((if_neg n4).trans (if_pos p5)))))
              have hN : ¬ cfill_B x v c a b = 0 := by rw [hB]; decide
              rw [show cfill_R x v u rg.2 c a b = -1 from (if_neg hN).trans hB, show cfill_X x v u rg.2 c a b = _ from if_neg hN, show cfill_V x v u rg.2 c a b = _ from if_neg hN, show cfill_H x v u rg.2 c a b = _ from if_neg hN]
              rfl
theorem ok_F_X8_fill (l : Launch) : pFOK l yX8_fill (pWs yX8_fill cX8_fill 4 ((some FieldType.int))) rm_X8_fill F_X8_fill := by
  refine pFOK_all fun args w rg v0 w' rg' h => ?_
  unfold F_X8_fill at h
  split at h
  next c a b =>
    obtain ⟨f, x, v, u, hw, h2⟩ := unB_some h
    clear h
    subst hw
    by_cases hc : bOK f rg
    · have h2 := (pif_t hc).symm.trans h2
      cases h2
      exact met_of_ex (by decide) (ok_k_X8_fill l) rfl (run_X8_fill rg f x v u c a b hc) (Nat.le_of_ble_eq_true rfl) rfl (Nat.le_of_ble_eq_true rfl) (Nat.le_of_ble_eq_true rfl) (Nat.zero_le _) rfl rfl
    · have h2 := (pif_f hc).symm.trans h2
      cases h2
  next => cases h
theorem rc_F_X8_fill : pRcv 8 F_X8_fill := by
  intro as w rg o h
  obtain ⟨v0, w', rg'⟩ := o
  unfold F_X8_fill at h
  split at h
  next =>
    obtain ⟨f, x, v, u, rfl, -⟩ := unB_some h
    exact ⟨_, _, _, rfl, cellOf_get rfl⟩
  next => cases h
theorem cl_X8_fill (f : Nat → Option Nat) (x v u : pLV) (c : Int32) (a : Int32) (b : Int32) (rg : pRg) (hc : bOK f rg) : F_X8_fill [.ref 0, .int c, .int a, .int b] (cw f x v u) rg = some (some (.int (cfill_R (NX x) (NL v) (NL u) rg.2 c a b)), cw f (cfill_X (NX x) (NL v) (NL u) rg.2 c a b) (cfill_V (NX x) (NL v) (NL u) rg.2 c a b) ((NL u)), (rg.1, cfill_H (NX x) (NL v) (NL u) rg.2 c a b)) := pif_t hc
end
