noncomputable section
theorem dX8_back_0 : decode cX8_back 0 = .ok (.iload_n 1, 1) := by decide +kernel
theorem dX8_back_1 : decode cX8_back 1 = .ok (.ifCond .lt 8, 3) := by decide +kernel
theorem dX8_back_4 : decode cX8_back 4 = .ok (.iload_n 1, 1) := by decide +kernel
theorem dX8_back_5 : decode cX8_back 5 = .ok (.iconst 1, 1) := by decide +kernel
theorem dX8_back_6 : decode cX8_back 6 = .ok (.if_icmp .le 5, 3) := by decide +kernel
theorem dX8_back_9 : decode cX8_back 9 = .ok (.iconst (-1), 1) := by decide +kernel
theorem dX8_back_10 : decode cX8_back 10 = .ok (.ireturn, 1) := by decide +kernel
theorem dX8_back_11 : decode cX8_back 11 = .ok (.aload_n 0, 1) := by decide +kernel
theorem dX8_back_12 : decode cX8_back 12 = .ok (.iload_n 1, 1) := by decide +kernel
theorem dX8_back_13 : decode cX8_back 13 = .ok (.invokevirtual 234, 3) := by decide +kernel
theorem dX8_back_16 : decode cX8_back 16 = .ok (.astore_n 2, 1) := by decide +kernel
theorem dX8_back_17 : decode cX8_back 17 = .ok (.aload_n 2, 1) := by decide +kernel
theorem dX8_back_18 : decode cX8_back 18 = .ok (.getfield 241, 3) := by decide +kernel
theorem dX8_back_21 : decode cX8_back 21 = .ok (.ifCond .ne 6, 3) := by decide +kernel
theorem dX8_back_24 : decode cX8_back 24 = .ok (.bipush (-2), 2) := by decide +kernel
theorem dX8_back_26 : decode cX8_back 26 = .ok (.ireturn, 1) := by decide +kernel
theorem dX8_back_27 : decode cX8_back 27 = .ok (.aload_n 0, 1) := by decide +kernel
theorem dX8_back_28 : decode cX8_back 28 = .ok (.getfield 22, 3) := by decide +kernel
theorem dX8_back_31 : decode cX8_back 31 = .ok (.aload_n 0, 1) := by decide +kernel
theorem dX8_back_32 : decode cX8_back 32 = .ok (.getfield 10, 3) := by decide +kernel
theorem dX8_back_35 : decode cX8_back 35 = .ok (.invokevirtual 57, 3) := by decide +kernel
theorem dX8_back_38 : decode cX8_back 38 = .ok (.aload_n 0, 1) := by decide +kernel
theorem dX8_back_39 : decode cX8_back 39 = .ok (.getfield 10, 3) := by decide +kernel
theorem dX8_back_42 : decode cX8_back 42 = .ok (.aload_n 2, 1) := by decide +kernel
theorem dX8_back_43 : decode cX8_back 43 = .ok (.getfield 238, 3) := by decide +kernel
theorem dX8_back_46 : decode cX8_back 46 = .ok (.invokevirtual 222, 3) := by decide +kernel
theorem dX8_back_49 : decode cX8_back 49 = .ok (.aload_n 0, 1) := by decide +kernel
theorem dX8_back_50 : decode cX8_back 50 = .ok (.getfield 10, 3) := by decide +kernel
theorem dX8_back_53 : decode cX8_back 53 = .ok (.getfield 61, 3) := by decide +kernel
theorem dX8_back_56 : decode cX8_back 56 = .ok (.ireturn, 1) := by decide +kernel
def k_X8_back : List pEn := [oIload 1, oIflt 5, oIload 1, oConst (1), oCle 7, oConst (-1), oIret, oAload 0, oIload 1, oCallZ 2 F_X8_imageAt, oAstore 2, oAload 2, oGet 4 1, oIfne 16, oConst (-2), oIret, oAload 0, oGet 8 2, oAload 0, oGet 8 0, oCallZ 2 F_X3_remember, oAload 0, oGet 8 0, oAload 2, oGet 4 0, oCallZ 2 F_cpLR, oAload 0, oGet 8 0, oGet 5 0, oIret]
def pc_X8_back (i : Nat) : Nat := ([0, 1, 4, 5, 6, 9, 10, 11, 12, 13, 16, 17, 18, 21, 24, 26, 27, 28, 31, 32, 35, 38, 39, 42, 43, 46, 49, 50, 53, 56] : List Nat).getD i 0
abbrev rm_X8_back : Room := { frames := 4, cells := 0, slots := 0, locals := 86 }
theorem pl_X8_back : pPlain yX8_back 1 := by decide +kernel
set_option maxRecDepth 100000 in
set_option maxHeartbeats 4000000 in
theorem ok_k_X8_back (l : Launch) : ∀ (i : Nat) (en : pEn), k_X8_back[i]? = some en → EOK l cX8_back yX8_back.cls 3 ((some FieldType.int)) rm_X8_back 0 pc_X8_back i en := by
  refine allOK_at ?_
  refine And.intro (okIload_n dX8_back_0 rfl rfl) ?_
  refine And.intro (okIflt dX8_back_1 rfl (by rfl)) ?_
  refine And.intro (okIload_n dX8_back_4 rfl rfl) ?_
  refine And.intro (okIconst dX8_back_5 rfl (by first | rfl | decide)) ?_
  refine And.intro (okCle dX8_back_6 rfl (by rfl)) ?_
  refine And.intro (okIconst dX8_back_9 rfl (by first | rfl | decide)) ?_
  refine And.intro (okIret dX8_back_10 rfl) ?_
  refine And.intro (okAload_n dX8_back_11 rfl rfl) ?_
  refine And.intro (okIload_n dX8_back_12 rfl rfl) ?_
  refine And.intro (okCallV (y := yX8_imageAt) (T := TX8) (oCallZ_is _ _ _) dX8_back_13 rfl (ok_F_X8_imageAt l) rc_F_X8_imageAt rfl wm_3_123 wm_3_125 wp_14 wm_1_1 wm_3_126 pl_X8_imageAt (by decide)) ?_
  refine And.intro (okAstore_n dX8_back_16 rfl rfl (by decide)) ?_
  refine And.intro (okAload_n dX8_back_17 rfl rfl) ?_
  refine And.intro (okGet (C := RX4) (T := TX4) (N := 2) dX8_back_18 rfl rfl (by decide) inX4 wm_2_2) ?_
  refine And.intro (okIfne dX8_back_21 rfl (by rfl)) ?_
  refine And.intro (okBipush dX8_back_24 rfl (by first | rfl | decide)) ?_
  refine And.intro (okIret dX8_back_26 rfl) ?_
  refine And.intro (okAload_n dX8_back_27 rfl rfl) ?_
  refine And.intro (okGet (C := RX8) (T := TX8) (N := 10) dX8_back_28 rfl rfl (by decide) inX8 wm_2_34) ?_
  refine And.intro (okAload_n dX8_back_31 rfl rfl) ?_
  refine And.intro (okGet (C := RX8) (T := TX8) (N := 10) dX8_back_32 rfl rfl (by decide) inX8 wm_2_32) ?_
  refine And.intro (okCallV (y := yX3_remember) (T := TX3) (oCallZ_is _ _ _) dX8_back_35 rfl (ok_F_X3_remember l) rc_F_X3_remember rfl wm_2_67 wm_2_68 wm_2_69 wm_1_7 wm_2_70 pl_X3_remember (by decide)) ?_
  refine And.intro (okAload_n dX8_back_38 rfl rfl) ?_
  refine And.intro (okGet (C := RX8) (T := TX8) (N := 10) dX8_back_39 rfl rfl (by decide) inX8 wm_2_32) ?_
  refine And.intro (okAload_n dX8_back_42 rfl rfl) ?_
  refine And.intro (okGet (C := RX4) (T := TX4) (N := 2) dX8_back_43 rfl rfl (by decide) inX4 wm_2_0) ?_
  refine And.intro (okCallV (y := yX5_copyFrom) (T := TX5) (oCallZ_is _ _ _) dX8_back_46 rfl (ok_F_cpLR l) rc_F_cpLR rfl wm_3_109 wm_2_72 wm_2_73 wm_1_2 wm_2_74 pl_X5_copyFrom (by decide)) ?_
  refine And.intro (okAload_n dX8_back_49 rfl rfl) ?_
  refine And.intro (okGet (C := RX8) (T := TX8) (N := 10) dX8_back_50 rfl rfl (by decide) inX8 wm_2_32) ?_
  refine And.intro (okGet (C := RX5) (T := TX5) (N := 15) dX8_back_53 rfl rfl (by decide) inX5 wm_1_153) ?_
  refine And.intro (okIret dX8_back_56 rfl) ?_
  exact trivial
def cback_B (x v : pLV) (i : Int32) : Int32 := if i < 0 then -1 else if 1 < i then -1 else if (if i = 0 then x 0 5 else x 0 6) = 0 then -2 else 0
def cback_R (x v u : pLV) (h : Nat → pLV) (i : Int32) : Int32 := if cback_B x v i = 0 then hRem x v h (if i = 0 then 8 else 9) 0 0 else cback_B x v i
def cback_X (x v u : pLV) (h : Nat → pLV) (i : Int32) : pLV := if cback_B x v i = 0 then xRem x else x
def cback_V (x v u : pLV) (h : Nat → pLV) (i : Int32) : pLV := if cback_B x v i = 0 then cpyV v (hRem x v h (if i = 0 then 8 else 9)) else v
def cback_H (x v u : pLV) (h : Nat → pLV) (i : Int32) : Nat → pLV := if cback_B x v i = 0 then hRem x v h else h
def F_X8_back : pF := fun args w rg => match args with
  | [.ref 0, .int i] => unB w (fun f x v u => pif (bOK f rg) (some (some (.int (cback_R x v u rg.2 i)), cw f (cback_X x v u rg.2 i) (cback_V x v u rg.2 i) (u), (rg.1, cback_H x v u rg.2 i))) none)
  | _ => none
set_option maxHeartbeats 400000 in
set_option maxRecDepth 100000 in
theorem run_X8_back (rg : pRg) (f : Nat → Option Nat) (x v u : pLV) (i : Int32) (hc : bOK f rg) : ∃ fu, ex k_X8_back fu 0 [(0, .ref 0), (1, .int i)] [] (cw f x v u) rg = some (some (.int (cback_R x v u rg.2 i)), cw f (cback_X x v u rg.2 i) (cback_V x v u rg.2 i) (u), (rg.1, cback_H x v u rg.2 i)) := by
  refine ⟨60, ?_⟩
  conv => lhs; whnf
  refine pif_c (fun p0 => ?_) (fun n0 => ?_)
  · have hB : cback_B x v i = -1 := if_pos p0
    have hN : ¬ cback_B x v i = 0 := by rw [hB]; decide
    rw [show cback_R x v u rg.2 i = -1 from (if_neg hN).trans hB, show cback_X x v u rg.2 i = _ from if_neg hN, show cback_V x v u rg.2 i = _ from if_neg hN, show cback_H x v u rg.2 i = _ from if_neg hN]
    rfl
  · conv => lhs; whnf
    refine pif_c (fun q1 => ?_) (fun q1 => ?_)
    · have n1 := Int32.not_lt.mpr q1
      conv => lhs; whnf
      refine (callK_r (cl_X8_imageAt f x v u i rg hc) (by rfl)).trans ?_
      by_cases h : i = 0
      · rw [show imI i = 31 from if_pos h]
        conv => lhs; whnf
        refine pif_c (fun g => ?_) (fun g => ?_)
        · have p2 : (if i = 0 then x 0 5 else x 0 6) = 0 := (if_pos h).trans g
          have hB : cback_B x v i = -2 := (if_neg n0).trans ((if_neg n1).trans (if_pos p2))
          have hN : ¬ cback_B x v i = 0 := by rw [hB]; decide
          rw [show cback_R x v u rg.2 i = -2 from (if_neg hN).trans hB, show cback_X x v u rg.2 i = _ from if_neg hN, show cback_V x v u rg.2 i = _ from if_neg hN, show cback_H x v u rg.2 i = _ from if_neg hN]
          rfl
        · have n2 : ¬ (if i = 0 then x 0 5 else x 0 6) = 0 := by rw [show (if i = 0 then x 0 5 else x 0 6) = _ from if_pos h]; exact g
          have hB : cback_B x v i = 0 := (if_neg n0).trans ((if_neg n1).trans ((if_neg n2).trans rfl))
          rw [show cback_R x v u rg.2 i = _ from if_pos hB, show cback_X x v u rg.2 i = _ from if_pos hB, show cback_V x v u rg.2 i = _ from if_pos hB, show cback_H x v u rg.2 i = _ from if_pos hB, show (if i = 0 then 8 else 9) = 8 from if_pos h]
          conv => lhs; whnf
          refine (callK_v (cl_X3_remember f x v u rg hc) (by rfl)).trans ?_
          conv => lhs; whnf
          refine (callK_v (cl_cpLR f (xRem (NX x)) v u (rg.1, hRem (NX x) (NL v) rg.2) 8 (by show 8 < rg.1; rw [hc.2]; omega)) (by rfl)).trans ?_
          rfl
      · rw [show imI i = 32 from if_neg h]
        conv => lhs; whnf
        refine pif_c (fun g => ?_) (fun g => ?_)
        · have p2 : (if i = 0 then x 0 5 else x 0 6) = 0 := (if_neg h).trans g
          have hB : cback_B x v i = -2 := (if_neg n0).trans ((if_neg n1).trans (if_pos p2))
          have hN : ¬ cback_B x v i = 0 := by rw [hB]; decide
          rw [show cback_R x v u rg.2 i = -2 from (if_neg hN).trans hB, show cback_X x v u rg.2 i = _ from if_neg hN, show cback_V x v u rg.2 i = _ from if_neg hN, show cback_H x v u rg.2 i = _ from if_neg hN]
          rfl
        · have n2 : ¬ (if i = 0 then x 0 5 else x 0 6) = 0 := by rw [show (if i = 0 then x 0 5 else x 0 6) = _ from if_neg h]; exact g
          have hB : cback_B x v i = 0 := (if_neg n0).trans ((if_neg n1).trans ((if_neg n2).trans rfl))
          rw [show cback_R x v u rg.2 i = _ from if_pos hB, show cback_X x v u rg.2 i = _ from if_pos hB, show cback_V x v u rg.2 i = _ from if_pos hB, show cback_H x v u rg.2 i = _ from if_pos hB, show (if i = 0 then 8 else 9) = 9 from if_neg h]
          conv => lhs; whnf
          refine (callK_v (cl_X3_remember f x v u rg hc) (by rfl)).trans ?_
          conv => lhs; whnf
          refine (callK_v (cl_cpLR f (xRem (NX x)) v u (rg.1, hRem (NX x) (NL v) rg.2) 9 (by show 9 < rg.1; rw [hc.2]; omega)) (by rfl)).trans ?_
          rfl
    · have p1 := Int32.not_le.mp q1
      have hB : cback_B x v i = -1 := (if_neg n0).trans (if_pos p1)
      have hN : ¬ cback_B x v i = 0 := by rw [hB]; decide
      rw [show cback_R x v u rg.2 i = -1 from (if_neg hN).trans hB, show cback_X x v u rg.2 i = _ from if_neg hN, show cback_V x v u rg.2 i = _ from if_neg hN, show cback_H x v u rg.2 i = _ from if_neg hN]
      rfl
theorem ok_F_X8_back (l : Launch) : pFOK l yX8_back (pWs yX8_back cX8_back 3 ((some FieldType.int))) rm_X8_back F_X8_back := by
  refine pFOK_all fun args w rg v0 w' rg' h => ?_
  unfold F_X8_back at h
  split at h
  next i =>
    obtain ⟨f, x, v, u, hw, h2⟩ := unB_some h
    clear h
    subst hw
    by_cases hc : bOK f rg
    · have h2 := (pif_t hc).symm.trans h2
      cases h2
      exact met_of_ex (by decide) (ok_k_X8_back l) rfl (run_X8_back rg f x v u i hc) (Nat.le_of_ble_eq_true rfl) rfl (Nat.le_of_ble_eq_true rfl) (Nat.le_of_ble_eq_true rfl) (Nat.zero_le _) rfl rfl
    · have h2 := (pif_f hc).symm.trans h2
      cases h2
  next => cases h
theorem rc_F_X8_back : pRcv 8 F_X8_back := by
  intro as w rg o h
  obtain ⟨v0, w', rg'⟩ := o
  unfold F_X8_back at h
  split at h
  next =>
    obtain ⟨f, x, v, u, rfl, -⟩ := unB_some h
    exact ⟨_, _, _, rfl, cellOf_get rfl⟩
  next => cases h
theorem cl_X8_back (f : Nat → Option Nat) (x v u : pLV) (i : Int32) (rg : pRg) (hc : bOK f rg) : F_X8_back [.ref 0, .int i] (cw f x v u) rg = some (some (.int (cback_R (NX x) (NL v) (NL u) rg.2 i)), cw f (cback_X (NX x) (NL v) (NL u) rg.2 i) (cback_V (NX x) (NL v) (NL u) rg.2 i) ((NL u)), (rg.1, cback_H (NX x) (NL v) (NL u) rg.2 i)) := pif_t hc
end
