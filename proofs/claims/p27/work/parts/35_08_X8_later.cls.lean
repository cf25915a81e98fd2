noncomputable section
def latT (v u : pLV) (n : Int32) : pLV := tickI n.toNatClampNeg (NL (cpyV u v))
def latA (v y : pLV) (m q : Int32) : Int32 := if q = 0 then m else if q = 1 then y 0 24 - v 0 24 else if q = 2 then csC (y 0 19) (y 0 20) else y 0 13
theorem dX8_later_0 : decode cX8_later 0 = .ok (.iload_n 1, 1) := by decide +kernel
theorem dX8_later_1 : decode cX8_later 1 = .ok (.iconst 1, 1) := by decide +kernel
theorem dX8_later_2 : decode cX8_later 2 = .ok (.if_icmp .lt 19, 3) := by decide +kernel
theorem dX8_later_5 : decode cX8_later 5 = .ok (.iload_n 1, 1) := by decide +kernel
theorem dX8_later_6 : decode cX8_later 6 = .ok (.sipush 300, 3) := by decide +kernel
theorem dX8_later_9 : decode cX8_later 9 = .ok (.if_icmp .gt 12, 3) := by decide +kernel
theorem dX8_later_12 : decode cX8_later 12 = .ok (.iload_n 2, 1) := by decide +kernel
theorem dX8_later_13 : decode cX8_later 13 = .ok (.ifCond .lt 8, 3) := by decide +kernel
theorem dX8_later_16 : decode cX8_later 16 = .ok (.iload_n 2, 1) := by decide +kernel
theorem dX8_later_17 : decode cX8_later 17 = .ok (.iconst 3, 1) := by decide +kernel
theorem dX8_later_18 : decode cX8_later 18 = .ok (.if_icmp .le 5, 3) := by decide +kernel
theorem dX8_later_21 : decode cX8_later 21 = .ok (.iconst (-1), 1) := by decide +kernel
theorem dX8_later_22 : decode cX8_later 22 = .ok (.ireturn, 1) := by decide +kernel
theorem dX8_later_23 : decode cX8_later 23 = .ok (.aload_n 0, 1) := by decide +kernel
theorem dX8_later_24 : decode cX8_later 24 = .ok (.getfield 16, 3) := by decide +kernel
theorem dX8_later_27 : decode cX8_later 27 = .ok (.aload_n 0, 1) := by decide +kernel
theorem dX8_later_28 : decode cX8_later 28 = .ok (.getfield 10, 3) := by decide +kernel
theorem dX8_later_31 : decode cX8_later 31 = .ok (.invokevirtual 222, 3) := by decide +kernel
theorem dX8_later_34 : decode cX8_later 34 = .ok (.aload_n 0, 1) := by decide +kernel
theorem dX8_later_35 : decode cX8_later 35 = .ok (.getfield 16, 3) := by decide +kernel
theorem dX8_later_38 : decode cX8_later 38 = .ok (.iload_n 1, 1) := by decide +kernel
theorem dX8_later_39 : decode cX8_later 39 = .ok (.invokevirtual 145, 3) := by decide +kernel
theorem dX8_later_42 : decode cX8_later 42 = .ok (.istore_n 3, 1) := by decide +kernel
theorem dX8_later_43 : decode cX8_later 43 = .ok (.iload_n 2, 1) := by decide +kernel
theorem dX8_later_44 : decode cX8_later 44 = .ok (.tableswitch 63 0 2 #[28, 30, 52], 28) := by decide +kernel
theorem dX8_later_72 : decode cX8_later 72 = .ok (.iload_n 3, 1) := by decide +kernel
theorem dX8_later_73 : decode cX8_later 73 = .ok (.ireturn, 1) := by decide +kernel
theorem dX8_later_74 : decode cX8_later 74 = .ok (.aload_n 0, 1) := by decide +kernel
theorem dX8_later_75 : decode cX8_later 75 = .ok (.getfield 16, 3) := by decide +kernel
theorem dX8_later_78 : decode cX8_later 78 = .ok (.getfield 90, 3) := by decide +kernel
theorem dX8_later_81 : decode cX8_later 81 = .ok (.getfield 201, 3) := by decide +kernel
theorem dX8_later_84 : decode cX8_later 84 = .ok (.aload_n 0, 1) := by decide +kernel
theorem dX8_later_85 : decode cX8_later 85 = .ok (.getfield 10, 3) := by decide +kernel
theorem dX8_later_88 : decode cX8_later 88 = .ok (.getfield 90, 3) := by decide +kernel
theorem dX8_later_91 : decode cX8_later 91 = .ok (.getfield 201, 3) := by decide +kernel
theorem dX8_later_94 : decode cX8_later 94 = .ok (.isub, 1) := by decide +kernel
theorem dX8_later_95 : decode cX8_later 95 = .ok (.ireturn, 1) := by decide +kernel
theorem dX8_later_96 : decode cX8_later 96 = .ok (.aload_n 0, 1) := by decide +kernel
theorem dX8_later_97 : decode cX8_later 97 = .ok (.getfield 16, 3) := by decide +kernel
theorem dX8_later_100 : decode cX8_later 100 = .ok (.getfield 224, 3) := by decide +kernel
theorem dX8_later_103 : decode cX8_later 103 = .ok (.invokevirtual 186, 3) := by decide +kernel
theorem dX8_later_106 : decode cX8_later 106 = .ok (.ireturn, 1) := by decide +kernel
theorem dX8_later_107 : decode cX8_later 107 = .ok (.aload_n 0, 1) := by decide +kernel
theorem dX8_later_108 : decode cX8_later 108 = .ok (.getfield 16, 3) := by decide +kernel
theorem dX8_later_111 : decode cX8_later 111 = .ok (.getfield 228, 3) := by decide +kernel
theorem dX8_later_114 : decode cX8_later 114 = .ok (.getfield 180, 3) := by decide +kernel
theorem dX8_later_117 : decode cX8_later 117 = .ok (.ireturn, 1) := by decide +kernel
def k_X8_later : List pEn := [oIload 1, oConst (1), oClt 11, oIload 1, oConst (300), oCgt 11, oIload 2, oIflt 11, oIload 2, oConst (3), oCle 13, oConst (-1), oIret, oAload 0, oGet 8 1, oAload 0, oGet 8 0, oCallZ 2 F_cpTL, oAload 0, oGet 8 1, oIload 1, oCallZ 2 Fb_X5_doTicks, oIstore 3, oIload 2, oSw [(0, 25), (1, 27), (2, 37)] 42, oIload 3, oIret, oAload 0, oGet 8 1, oGet 5 11, oGet 0 2, oAload 0, oGet 8 0, oGet 5 11, oGet 0 2, oSub, oIret, oAload 0, oGet 8 1, oGet 5 10, oCall 1 F_X1_consistency, oIret, oAload 0, oGet 8 1, oGet 5 8, oGet 1 1, oIret]
def pc_X8_later (i : Nat) : Nat := ([0, 1, 2, 5, 6, 9, 12, 13, 16, 17, 18, 21, 22, 23, 24, 27, 28, 31, 34, 35, 38, 39, 42, 43, 44, 72, 73, 74, 75, 78, 81, 84, 85, 88, 91, 94, 95, 96, 97, 100, 103, 106, 107, 108, 111, 114, 117] : List Nat).getD i 0
abbrev rm_X8_later : Room := { frames := 6, cells := 0, slots := 0, locals := 139 }
theorem pl_X8_later : pPlain yX8_later 2 := by decide +kernel
set_option maxRecDepth 100000 in
set_option maxHeartbeats 4000000 in
theorem ok_k_X8_later (l : Launch) : ∀ (i : Nat) (en : pEn), k_X8_later[i]? = some en → EOK l cX8_later yX8_later.cls 4 ((some FieldType.int)) rm_X8_later 0 pc_X8_later i en := by
  refine allOK_at ?_
  refine And.intro (okIload_n dX8_later_0 rfl rfl) ?_
  refine And.intro (okIconst dX8_later_1 rfl (by first | rfl | decide)) ?_
  refine And.intro (okClt dX8_later_2 rfl (by rfl)) ?_
  refine And.intro (okIload_n dX8_later_5 rfl rfl) ?_
  refine And.intro (okSipush dX8_later_6 rfl (by first | rfl | decide)) ?_
  refine And.intro (okCgt dX8_later_9 rfl (by rfl)) ?_
  refine And.intro (okIload_n dX8_later_12 rfl rfl) ?_
  refine And.intro (okIflt dX8_later_13 rfl (by rfl)) ?_
  refine And.intro (okIload_n dX8_later_16 rfl rfl) ?_
  refine And.intro (okIconst dX8_later_17 rfl (by first | rfl | decide)) ?_
  refine And.intro (okCle dX8_later_18 rfl (by rfl)) ?_
  refine And.intro (okIconst dX8_later_21 rfl (by first | rfl | decide)) ?_
  refine And.intro (okIret dX8_later_22 rfl) ?_
  refine And.intro (okAload_n dX8_later_23 rfl rfl) ?_
  refine And.intro (okGet (C := RX8) (T := TX8) (N := 10) dX8_later_24 rfl rfl (by decide) inX8 wm_2_33) ?_
  refine And.intro (okAload_n dX8_later_27 rfl rfl) ?_
  refine And.intro (okGet (C := RX8) (T := TX8) (N := 10) dX8_later_28 rfl rfl (by decide) inX8 wm_2_32) ?_
  refine And.intro (okCallV (y := yX5_copyFrom) (T := TX5) (oCallZ_is _ _ _) dX8_later_31 rfl (ok_F_cpTL l) rc_F_cpTL rfl wm_3_109 wm_2_72 wm_2_73 wm_1_2 wm_2_74 pl_X5_copyFrom (by decide)) ?_
  refine And.intro (okAload_n dX8_later_34 rfl rfl) ?_
  refine And.intro (okGet (C := RX8) (T := TX8) (N := 10) dX8_later_35 rfl rfl (by decide) inX8 wm_2_33) ?_
  refine And.intro (okIload_n dX8_later_38 rfl rfl) ?_
  refine And.intro (okCallV (y := yX5_doTicks) (T := TX5) (oCallZ_is _ _ _) dX8_later_39 rfl (ok_Fb_X5_doTicks l) rc_Fb_X5_doTicks rfl wm_2_209 wm_2_210 wm_2_211 wm_1_2 wm_2_212 pl_X5_doTicks (by decide)) ?_
  refine And.intro (okIstore_n dX8_later_42 rfl rfl (by decide)) ?_
  refine And.intro (okIload_n dX8_later_43 rfl rfl) ?_
  refine And.intro (okTsw dX8_later_44 (by decide) (by rfl) (by intro z h1 h2; have : z = 0 ∨ z = 1 ∨ z = 2 := (by omega); rcases this with rfl | rfl | rfl <;> decide)) ?_
  refine And.intro (okIload_n dX8_later_72 rfl rfl) ?_
  refine And.intro (okIret dX8_later_73 rfl) ?_
  refine And.intro (okAload_n dX8_later_74 rfl rfl) ?_
  refine And.intro (okGet (C := RX8) (T := TX8) (N := 10) dX8_later_75 rfl rfl (by decide) inX8 wm_2_33) ?_
  refine And.intro (okGet (C := RX5) (T := TX5) (N := 15) dX8_later_78 rfl rfl (by decide) inX5 wm_1_173) ?_
  refine And.intro (okGet (C := RX0) (T := TX0) (N := 6) dX8_later_81 rfl rfl (by decide) inX0 wm_1_62) ?_
  refine And.intro (okAload_n dX8_later_84 rfl rfl) ?_
  refine And.intro (okGet (C := RX8) (T := TX8) (N := 10) dX8_later_85 rfl rfl (by decide) inX8 wm_2_32) ?_
  refine And.intro (okGet (C := RX5) (T := TX5) (N := 15) dX8_later_88 rfl rfl (by decide) inX5 wm_1_173) ?_
  refine And.intro (okGet (C := RX0) (T := TX0) (N := 6) dX8_later_91 rfl rfl (by decide) inX0 wm_1_62) ?_
  refine And.intro (okSub dX8_later_94 rfl) ?_
  refine And.intro (okIret dX8_later_95 rfl) ?_
  refine And.intro (okAload_n dX8_later_96 rfl rfl) ?_
  refine And.intro (okGet (C := RX8) (T := TX8) (N := 10) dX8_later_97 rfl rfl (by decide) inX8 wm_2_33) ?_
  refine And.intro (okGet (C := RX5) (T := TX5) (N := 15) dX8_later_100 rfl rfl (by decide) inX5 wm_1_171) ?_
  refine And.intro (okCallV (y := yX1_consistency) (T := TX1) (oCall_is _ _ _) dX8_later_103 rfl (ok_F_X1_consistency l) rc_F_X1_consistency rfl wm_3_82 wm_3_12 wm_3_13 wm_1_3 wm_3_14 pl_X1_consistency (by decide)) ?_
  refine And.intro (okIret dX8_later_106 rfl) ?_
  refine And.intro (okAload_n dX8_later_107 rfl rfl) ?_
  refine And.intro (okGet (C := RX8) (T := TX8) (N := 10) dX8_later_108 rfl rfl (by decide) inX8 wm_2_33) ?_
  refine And.intro (okGet (C := RX5) (T := TX5) (N := 15) dX8_later_111 rfl rfl (by decide) inX5 wm_1_168) ?_
  refine And.intro (okGet (C := RX1) (T := TX1) (N := 4) dX8_later_114 rfl rfl (by decide) inX1 wm_1_35) ?_
  refine And.intro (okIret dX8_later_117 rfl) ?_
  exact trivial
def clater_B (x v : pLV) (n : Int32) (a : Int32) : Int32 := if n < 1 then -1 else if 300 < n then -1 else if a < 0 then -1 else if 3 < a then -1 else 0
def clater_R (x v u : pLV) (h : Nat → pLV) (n : Int32) (a : Int32) : Int32 := if clater_B x v n a = 0 then latA v (latT v u n) (sumP (latT v u n 2) 4 - sumP (v 2) 4) a else clater_B x v n a
def clater_U (x v u : pLV) (h : Nat → pLV) (n : Int32) (a : Int32) : pLV := if clater_B x v n a = 0 then latT v u n else u
def F_X8_later : pF := fun args w rg => match args with
  | [.ref 0, .int n, .int a] => unB w (fun f x v u => pif (bOK f rg) (some (some (.int (clater_R x v u rg.2 n a)), cw f (x) (v) (clater_U x v u rg.2 n a), rg)) none)
  | _ => none
set_option maxHeartbeats 400000 in
set_option maxRecDepth 100000 in
theorem run_X8_later (rg : pRg) (f : Nat → Option Nat) (x v u : pLV) (n : Int32) (a : Int32) (hc : bOK f rg) : ∃ fu, ex k_X8_later fu 0 [(0, .ref 0), (1, .int n), (2, .int a)] [] (cw f x v u) rg = some (some (.int (clater_R x v u rg.2 n a)), cw f (x) (v) (clater_U x v u rg.2 n a), rg) := by
  refine ⟨60, ?_⟩
  conv => lhs; whnf
  refine pif_c (fun p0 => ?_) (fun n0 => ?_)
  · have hB : clater_B x v n a = -1 := if_pos p0
    have hN : ¬ clater_B x v n a = 0 := by rw [hB]; decide
    rw [show clater_R x v u rg.2 n a = -1 from (if_neg hN).trans hB, show clater_U x v u rg.2 n a = _ from if_neg hN]
    rfl
  · conv => lhs; whnf
    refine pif_c (fun p1 => ?_) (fun n1 => ?_)
    · have hB : clater_B x v n a = -1 := (if_neg n0).trans (if_pos p1)
      have hN : ¬ clater_B x v n a = 0 := by rw [hB]; decide
      rw [show clater_R x v u rg.2 n a = -1 from (if_neg hN).trans hB, show clater_U x v u rg.2 n a = _ from if_neg hN]
      rfl
    · conv => lhs; whnf
      refine pif_c (fun p2 => ?_) (fun n2 => ?_)
      · have hB : clater_B x v n a = -1 := (if_neg n0).trans ((if_neg n1).trans (if_pos p2))
        have hN : ¬ clater_B x v n a = 0 := by rw [hB]; decide
        rw [show clater_R x v u rg.2 n a = -1 from (if_neg hN).trans hB, show clater_U x v u rg.2 n a = _ from if_neg hN]
        rfl
      · conv => lhs; whnf
        refine pif_c (fun q3 => ?_) (fun q3 => ?_)
        · have n3 := Int32.not_lt.mpr q3
          have hB : clater_B x v n a = 0 := (if_neg n0).trans ((if_neg n1).trans ((if_neg n2).trans ((if_neg n3).trans (rfl))))
          rw [show clater_R x v u rg.2 n a = _ from if_pos hB, show clater_U x v u rg.2 n a = _ from if_pos hB]
          conv => lhs; whnf
          refine (callK_v (cl_cpTL f x v u rg) (by rfl)).trans ?_
          conv => lhs; whnf
          refine (callK_r (cc15_doTicks f x v (cpyV u v) n rg) (by rfl)).trans ?_
          unfold latT
          rw [show cpyV u v 2 = v 2 from rfl]
          generalize tickI n.toNatClampNeg (NL (cpyV u v)) = y
          revert y; refine id ?_; intro y
          conv => lhs; whnf
          refine pif_c (fun h0 => ?_) (fun h0 => ?_)
          · rw [show latA v y (sumP (y 2) 4 - sumP (v 2) 4) a = _ from if_pos h0]
            rfl
          · conv => lhs; whnf
            refine pif_c (fun h1 => ?_) (fun h1 => ?_)
            · rw [show latA v y (sumP (y 2) 4 - sumP (v 2) 4) a = _ from (if_neg h0).trans (if_pos h1)]
              rfl
            · conv => lhs; whnf
              refine pif_c (fun h2 => ?_) (fun h2 => ?_)
              · rw [show latA v y (sumP (y 2) 4 - sumP (v 2) 4) a = _ from (if_neg h0).trans ((if_neg h1).trans (if_pos h2))]
                rfl
              · rw [show latA v y (sumP (y 2) 4 - sumP (v 2) 4) a = _ from (if_neg h0).trans ((if_neg h1).trans (if_neg h2))]
                rfl
        · have p3 := Int32.not_le.mp q3
          have hB : clater_B x v n a = -1 := (if_neg n0).trans ((if_neg n1).trans ((if_neg n2).trans (if_pos p3)))
          have hN : ¬ clater_B x v n a = 0 := by rw [hB]; decide
          rw [show clater_R x v u rg.2 n a = -1 from (if_neg hN).trans hB, show clater_U x v u rg.2 n a = _ from if_neg hN]
          rfl
theorem ok_F_X8_later (l : Launch) : pFOK l yX8_later (pWs yX8_later cX8_later 4 ((some FieldType.int))) rm_X8_later F_X8_later := by
  refine pFOK_all fun args w rg v0 w' rg' h => ?_
  unfold F_X8_later at h
  split at h
  next n a =>
    obtain ⟨f, x, v, u, hw, h2⟩ := unB_some h
    clear h
    subst hw
    by_cases hc : bOK f rg
    · have h2 := (pif_t hc).symm.trans h2
      cases h2
      exact met_of_ex (by decide) (ok_k_X8_later l) rfl (run_X8_later rg f x v u n a hc) (Nat.le_of_ble_eq_true rfl) rfl (Nat.le_of_ble_eq_true rfl) (Nat.le_of_ble_eq_true rfl) (Nat.zero_le _) rfl rfl
    · have h2 := (pif_f hc).symm.trans h2
      cases h2
  next => cases h
theorem rc_F_X8_later : pRcv 8 F_X8_later := by
  intro as w rg o h
  obtain ⟨v0, w', rg'⟩ := o
  unfold F_X8_later at h
  split at h
  next =>
    obtain ⟨f, x, v, u, rfl, -⟩ := unB_some h
    exact ⟨_, _, _, rfl, cellOf_get rfl⟩
  next => cases h
theorem cl_X8_later (f : Nat → Option Nat) (x v u : pLV) (n : Int32) (a : Int32) (rg : pRg) (hc : bOK f rg) : F_X8_later [.ref 0, .int n, .int a] (cw f x v u) rg = some (some (.int (clater_R (NX x) (NL v) (NL u) rg.2 n a)), cw f ((NX x)) ((NL v)) (clater_U (NX x) (NL v) (NL u) rg.2 n a), rg) := pif_t hc
end
