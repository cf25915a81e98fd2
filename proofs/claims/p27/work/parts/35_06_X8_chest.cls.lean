noncomputable section
theorem dX8_chest_0 : decode cX8_chest 0 = .ok (.iload_n 1, 1) := by decide +kernel
theorem dX8_chest_1 : decode cX8_chest 1 = .ok (.ifCond .lt 8, 3) := by decide +kernel
theorem dX8_chest_4 : decode cX8_chest 4 = .ok (.iload_n 1, 1) := by decide +kernel
theorem dX8_chest_5 : decode cX8_chest 5 = .ok (.iconst 4, 1) := by decide +kernel
theorem dX8_chest_6 : decode cX8_chest 6 = .ok (.if_icmp .lt 5, 3) := by decide +kernel
theorem dX8_chest_9 : decode cX8_chest 9 = .ok (.iconst (-1), 1) := by decide +kernel
theorem dX8_chest_10 : decode cX8_chest 10 = .ok (.ireturn, 1) := by decide +kernel
theorem dX8_chest_11 : decode cX8_chest 11 = .ok (.aload_n 0, 1) := by decide +kernel
theorem dX8_chest_12 : decode cX8_chest 12 = .ok (.getfield 10, 3) := by decide +kernel
theorem dX8_chest_15 : decode cX8_chest 15 = .ok (.iload_n 1, 1) := by decide +kernel
theorem dX8_chest_16 : decode cX8_chest 16 = .ok (.invokevirtual 99, 3) := by decide +kernel
theorem dX8_chest_19 : decode cX8_chest 19 = .ok (.astore_n 3, 1) := by decide +kernel
theorem dX8_chest_20 : decode cX8_chest 20 = .ok (.iload_n 2, 1) := by decide +kernel
theorem dX8_chest_21 : decode cX8_chest 21 = .ok (.tableswitch 60 0 4 #[35, 40, 45, 50, 55], 35) := by decide +kernel
theorem dX8_chest_56 : decode cX8_chest 56 = .ok (.aload_n 3, 1) := by decide +kernel
theorem dX8_chest_57 : decode cX8_chest 57 = .ok (.getfield 180, 3) := by decide +kernel
theorem dX8_chest_60 : decode cX8_chest 60 = .ok (.ireturn, 1) := by decide +kernel
theorem dX8_chest_61 : decode cX8_chest 61 = .ok (.aload_n 3, 1) := by decide +kernel
theorem dX8_chest_62 : decode cX8_chest 62 = .ok (.getfield 183, 3) := by decide +kernel
theorem dX8_chest_65 : decode cX8_chest 65 = .ok (.ireturn, 1) := by decide +kernel
theorem dX8_chest_66 : decode cX8_chest 66 = .ok (.aload_n 3, 1) := by decide +kernel
theorem dX8_chest_67 : decode cX8_chest 67 = .ok (.invokevirtual 186, 3) := by decide +kernel
theorem dX8_chest_70 : decode cX8_chest 70 = .ok (.ireturn, 1) := by decide +kernel
theorem dX8_chest_71 : decode cX8_chest 71 = .ok (.aload_n 3, 1) := by decide +kernel
theorem dX8_chest_72 : decode cX8_chest 72 = .ok (.invokevirtual 189, 3) := by decide +kernel
theorem dX8_chest_75 : decode cX8_chest 75 = .ok (.ireturn, 1) := by decide +kernel
theorem dX8_chest_76 : decode cX8_chest 76 = .ok (.aload_n 3, 1) := by decide +kernel
theorem dX8_chest_77 : decode cX8_chest 77 = .ok (.getfield 192, 3) := by decide +kernel
theorem dX8_chest_80 : decode cX8_chest 80 = .ok (.ireturn, 1) := by decide +kernel
theorem dX8_chest_81 : decode cX8_chest 81 = .ok (.iconst (-1), 1) := by decide +kernel
theorem dX8_chest_82 : decode cX8_chest 82 = .ok (.ireturn, 1) := by decide +kernel
def k_X8_chest : List pEn := [oIload 1, oIflt 5, oIload 1, oConst (4), oClt 7, oConst (-1), oIret, oAload 0, oGet 8 0, oIload 1, oCallZ 2 Fb_X5_chestAt, oAstore 3, oIload 2, oSw [(0, 14), (1, 17), (2, 20), (3, 23), (4, 26)] 29, oAload 3, oGet 1 1, oIret, oAload 3, oGet 1 2, oIret, oAload 3, oCall 1 F_X1_consistency, oIret, oAload 3, oCall 1 F_X1_missing, oIret, oAload 3, oGet 1 3, oIret, oConst (-1), oIret]
def pc_X8_chest (i : Nat) : Nat := ([0, 1, 4, 5, 6, 9, 10, 11, 12, 15, 16, 19, 20, 21, 56, 57, 60, 61, 62, 65, 66, 67, 70, 71, 72, 75, 76, 77, 80, 81, 82] : List Nat).getD i 0
abbrev rm_X8_chest : Room := { frames := 1, cells := 0, slots := 0, locals := 21 }
theorem pl_X8_chest : pPlain yX8_chest 2 := by decide +kernel
set_option maxRecDepth 100000 in
set_option maxHeartbeats 4000000 in
theorem ok_k_X8_chest (l : Launch) : ∀ (i : Nat) (en : pEn), k_X8_chest[i]? = some en → EOK l cX8_chest yX8_chest.cls 4 ((some FieldType.int)) rm_X8_chest 0 pc_X8_chest i en := by
  refine allOK_at ?_
  refine And.intro (okIload_n dX8_chest_0 rfl rfl) ?_
  refine And.intro (okIflt dX8_chest_1 rfl (by rfl)) ?_
  refine And.intro (okIload_n dX8_chest_4 rfl rfl) ?_
  refine And.intro (okIconst dX8_chest_5 rfl (by first | rfl | decide)) ?_
  refine And.intro (okClt dX8_chest_6 rfl (by rfl)) ?_
  refine And.intro (okIconst dX8_chest_9 rfl (by first | rfl | decide)) ?_
  refine And.intro (okIret dX8_chest_10 rfl) ?_
  refine And.intro (okAload_n dX8_chest_11 rfl rfl) ?_
  refine And.intro (okGet (C := RX8) (T := TX8) (N := 10) dX8_chest_12 rfl rfl (by decide) inX8 wm_2_32) ?_
  refine And.intro (okIload_n dX8_chest_15 rfl rfl) ?_
  refine And.intro (okCallV (y := yX5_chestAt) (T := TX5) (oCallZ_is _ _ _) dX8_chest_16 rfl (ok_Fb_X5_chestAt l) rc_Fb_X5_chestAt rfl wm_2_130 wm_2_131 wm_2_132 wm_1_2 wm_2_133 pl_X5_chestAt (by decide)) ?_
  refine And.intro (okAstore_n dX8_chest_19 rfl rfl (by decide)) ?_
  refine And.intro (okIload_n dX8_chest_20 rfl rfl) ?_
  refine And.intro (okTsw dX8_chest_21 (by decide) (by rfl) (by intro z h1 h2; have : z = 0 ∨ z = 1 ∨ z = 2 ∨ z = 3 ∨ z = 4 := (by omega); rcases this with rfl | rfl | rfl | rfl | rfl <;> decide)) ?_
  refine And.intro (okAload_n dX8_chest_56 rfl rfl) ?_
  refine And.intro (okGet (C := RX1) (T := TX1) (N := 4) dX8_chest_57 rfl rfl (by decide) inX1 wm_1_35) ?_
  refine And.intro (okIret dX8_chest_60 rfl) ?_
  refine And.intro (okAload_n dX8_chest_61 rfl rfl) ?_
  refine And.intro (okGet (C := RX1) (T := TX1) (N := 4) dX8_chest_62 rfl rfl (by decide) inX1 wm_1_37) ?_
  refine And.intro (okIret dX8_chest_65 rfl) ?_
  refine And.intro (okAload_n dX8_chest_66 rfl rfl) ?_
  refine And.intro (okCallV (y := yX1_consistency) (T := TX1) (oCall_is _ _ _) dX8_chest_67 rfl (ok_F_X1_consistency l) rc_F_X1_consistency rfl wm_3_82 wm_3_12 wm_3_13 wm_1_3 wm_3_14 pl_X1_consistency (by decide)) ?_
  refine And.intro (okIret dX8_chest_70 rfl) ?_
  refine And.intro (okAload_n dX8_chest_71 rfl rfl) ?_
  refine And.intro (okCallV (y := yX1_missing) (T := TX1) (oCall_is _ _ _) dX8_chest_72 rfl (ok_F_X1_missing l) rc_F_X1_missing rfl wm_3_83 wm_2_237 wm_2_238 wm_1_3 wm_2_239 pl_X1_missing (by decide)) ?_
  refine And.intro (okIret dX8_chest_75 rfl) ?_
  refine And.intro (okAload_n dX8_chest_76 rfl rfl) ?_
  refine And.intro (okGet (C := RX1) (T := TX1) (N := 4) dX8_chest_77 rfl rfl (by decide) inX1 wm_1_39) ?_
  refine And.intro (okIret dX8_chest_80 rfl) ?_
  refine And.intro (okIconst dX8_chest_81 rfl (by first | rfl | decide)) ?_
  refine And.intro (okIret dX8_chest_82 rfl) ?_
  exact trivial
def chsB (x v : pLV) (c : Int32) (a : Int32) : Int32 := if c < 0 then -1 else if 4 ≤ c then -1 else if a = 0 then v 0 (10 + 3 * c.toNatClampNeg) else if a = 1 then v 0 (11 + 3 * c.toNatClampNeg) else if a = 2 then csC (v 0 (10 + 3 * c.toNatClampNeg)) (v 0 (11 + 3 * c.toNatClampNeg)) else if a = 3 then v 0 (30 + c.toNatClampNeg) - v 0 (10 + 3 * c.toNatClampNeg) - v 0 (11 + 3 * c.toNatClampNeg) else if a = 4 then v 0 (12 + 3 * c.toNatClampNeg) else -1
def F_X8_chest : pF := fun args w rg => match args with
  | [.ref 0, .int c, .int a] => unB w (fun f x v u => pif (bOK f rg) (some (some (.int (chsB x v c a)), cw f (x) (v) (u), rg)) none)
  | _ => none
set_option maxHeartbeats 400000 in
set_option maxRecDepth 100000 in
theorem run_X8_chest (rg : pRg) (f : Nat → Option Nat) (x v u : pLV) (c : Int32) (a : Int32) (hc : bOK f rg) : ∃ fu, ex k_X8_chest fu 0 [(0, .ref 0), (1, .int c), (2, .int a)] [] (cw f x v u) rg = some (some (.int (chsB x v c a)), cw f (x) (v) (u), rg) := by
  refine ⟨60, ?_⟩
  conv => lhs; whnf
  refine pif_c (fun p0 => ?_) (fun p0 => ?_)
  · rw [show chsB x v c a = _ from if_pos p0]
    rfl
  · conv => lhs; whnf
    refine pif_c (fun q1 => ?_) (fun q1 => ?_)
    · have p1 := Int32.not_le.mpr q1
      rcases four_of p0 p1 with rfl | rfl | rfl | rfl
      · conv => lhs; whnf
        refine (callK_r (cc_chestAt0 f x v u rg) (by rfl)).trans ?_
        conv => lhs; whnf
        refine pif_c (fun h0 => ?_) (fun h0 => ?_)
        · rw [show chsB x v 0 a = _ from (if_neg (show ¬ (0 : Int32) < 0 by decide)).trans ((if_neg (show ¬ 4 ≤ (0 : Int32) by decide)).trans (if_pos h0))]
          rfl
        · conv => lhs; whnf
          refine pif_c (fun h1 => ?_) (fun h1 => ?_)
          · rw [show chsB x v 0 a = _ from (if_neg (show ¬ (0 : Int32) < 0 by decide)).trans ((if_neg (show ¬ 4 ≤ (0 : Int32) by decide)).trans ((if_neg h0).trans (if_pos h1)))]
            rfl
          · conv => lhs; whnf
            refine pif_c (fun h2 => ?_) (fun h2 => ?_)
            · rw [show chsB x v 0 a = _ from (if_neg (show ¬ (0 : Int32) < 0 by decide)).trans ((if_neg (show ¬ 4 ≤ (0 : Int32) by decide)).trans ((if_neg h0).trans ((if_neg h1).trans (if_pos h2))))]
              rfl
            · conv => lhs; whnf
              refine pif_c (fun h3 => ?_) (fun h3 => ?_)
              · rw [show chsB x v 0 a = _ from (if_neg (show ¬ (0 : Int32) < 0 by decide)).trans ((if_neg (show ¬ 4 ≤ (0 : Int32) by decide)).trans ((if_neg h0).trans ((if_neg h1).trans ((if_neg h2).trans (if_pos h3)))))]
                rfl
              · conv => lhs; whnf
                refine pif_c (fun h4 => ?_) (fun h4 => ?_)
                · rw [show chsB x v 0 a = _ from (if_neg (show ¬ (0 : Int32) < 0 by decide)).trans ((if_neg (show ¬ 4 ≤ (0 : Int32) by decide)).trans ((if_neg h0).trans ((if_neg h1).trans ((if_neg h2).trans ((if_neg h3).trans (if_pos h4))))))]
                  rfl
                · rw [show chsB x v 0 a = _ from (if_neg (show ¬ (0 : Int32) < 0 by decide)).trans ((if_neg (show ¬ 4 ≤ (0 : Int32) by decide)).trans ((if_neg h0).trans ((if_neg h1).trans ((if_neg h2).trans ((if_neg h3).trans (if_neg h4))))))]
                  rfl
      · conv => lhs; whnf
        refine (callK_r (cc_chestAt1 f x v u rg) (by rfl)).trans ?_
        conv => lhs; whnf
        refine pif_c (fun h0 => ?_) (fun h0 => ?_)
        · rw [show chsB x v 1 a = _ from (if_neg (show ¬ (1 : Int32) < 0 by decide)).trans ((if_neg (show ¬ 4 ≤ (1 : Int32) by decide)).trans (if_pos h0))]
          rfl
        · conv => lhs; whnf
          refine pif_c (fun h1 => ?_) (fun h1 => ?_)
          · rw [show chsB x v 1 a = _ from (if_neg (show ¬ (1 : Int32) < 0 by decide)).trans ((if_neg (show ¬ 4 ≤ (1 : Int32) by decide)).trans ((if_neg h0).trans (if_pos h1)))]
            rfl
          · conv => lhs; whnf
            refine pif_c (fun h2 => ?_) (fun h2 => ?_)
            · rw [show chsB x v 1 a = _ from (if_neg (show ¬ (1 : Int32) < 0 by decide)).trans ((if_neg (show ¬ 4 ≤ (1 : Int32) by decide)).trans ((if_neg h0).trans ((if_neg h1).trans (if_pos h2))))]
              rfl
            · conv => lhs; whnf
              refine pif_c (fun h3 => ?_) (fun h3 => ?_)
              · rw [show chsB x v 1 a = _ from (if_neg (show ¬ (1 : Int32) < 0 by decide)).trans ((if_neg (show ¬ 4 ≤ (1 : Int32) by decide)).trans ((if_neg h0).trans ((if_neg h1).trans ((if_neg h2).trans (if_pos h3)))))]
                rfl
              · conv => lhs; whnf
                refine pif_c (fun h4 => ?_) (fun h4 => ?_)
                · rw [show chsB x v 1 a = _ from (if_neg (show ¬ (1 : Int32) < 0 by decide)).trans ((if_neg (show ¬ 4 ≤ (1 : Int32) by decide)).trans ((if_neg h0).trans ((if_neg h1).trans ((if_neg h2).trans ((if_neg h3).trans (if_pos h4))))))]
                  rfl
                · rw [show chsB x v 1 a = _ from (if_neg (show ¬ (1 : Int32) < 0 by decide)).trans ((if_neg (show ¬ 4 ≤ (1 : Int32) by decide)).trans ((if_neg h0).trans ((if_neg h1).trans ((if_neg h2).trans ((if_neg h3).trans (if_neg h4))))))]
                  rfl
      · conv => lhs; whnf
        refine (callK_r (cc_chestAt2 f x v u rg) (by rfl)).trans ?_
        conv => lhs; whnf
        refine pif_c (fun h0 => ?_) (fun h0 => ?_)
        · rw [show chsB x v 2 a = _ from (if_neg (show ¬ (2 : Int32) < 0 by decide)).trans ((if_neg (show ¬ 4 ≤ (2 : Int32) by decide)).trans (if_pos h0))]
          rfl
        · conv => lhs; whnf
          refine pif_c (fun h1 => ?_) (fun h1 => ?_)
          · rw [show chsB x v 2 a = _ from (if_neg (show ¬ (2 : Int32) < 0 by decide)).trans ((if_neg (show ¬ 4 ≤ (2 : Int32) by decide)).trans ((if_neg h0).trans (if_pos h1)))]
            rfl
          · conv => lhs; whnf
            refine pif_c (fun h2 => ?_) (fun h2 => ?_)
            · rw [show chsB x v 2 a = _ from (if_neg (show ¬ (2 : Int32) < 0 by decide)).trans ((if_neg (show ¬ 4 ≤ (2 : Int32) by decide)).trans ((if_neg h0).trans ((if_neg h1).trans (if_pos h2))))]
              rfl
            · conv => lhs; whnf
              refine pif_c (fun h3 => ?_) (fun h3 => ?_)
              · rw [show chsB x v 2 a = _ from (if_neg (show ¬ (2 : Int32) < 0 by decide)).trans ((if_neg (show ¬ 4 ≤ (2 : Int32) by decide)).trans ((if_neg h0).trans ((if_neg h1).trans ((if_neg h2).trans (if_pos h3)))))]
                rfl
              · conv => lhs; whnf
                refine pif_c (fun h4 => ?_) (fun h4 => ?_)
                · rw [show chsB x v 2 a = _ from (if_neg (show ¬ (2 : Int32) < 0 by decide)).trans ((if_neg (show ¬ 4 ≤ (2 : Int32) by decide)).trans ((if_neg h0).trans ((if_neg h1).trans ((if_neg h2).trans ((if_neg h3).trans (if_pos h4))))))]
                  rfl
                · rw [show chsB x v 2 a = _ from (if_neg (show ¬ (2 : Int32) < 0 by decide)).trans ((if_neg (show ¬ 4 ≤ (2 : Int32) by decide)).trans ((if_neg h0).trans ((if_neg h1).trans ((if_neg h2).trans ((if_neg h3).trans (if_neg h4))))))]
                  rfl
      · conv => lhs; whnf
        refine (callK_r (cc_chestAt3 f x v u rg) (by rfl)).trans ?_
        conv => lhs; whnf
        refine pif_c (fun h0 => ?_) (fun h0 => ?_)
        · rw [show chsB x v 3 a = _ from (if_neg (show ¬ (3 : Int32) < 0 by decide)).trans ((if_neg (show ¬ 4 ≤ (3 : Int32) by decide)).trans (if_pos h0))]
          rfl
        · conv => lhs; whnf
          refine pif_c (fun h1 => ?_) (fun h1 => ?_)
          · rw [show chsB x v 3 a = _ from (if_neg (show ¬ (3 : Int32) < 0 by decide)).trans ((if_neg (show ¬ 4 ≤ (3 : Int32) by decide)).trans ((if_neg h0).trans (if_pos h1)))]
            rfl
          · conv => lhs; whnf
            refine pif_c (fun h2 => ?_) (fun h2 => ?_)
            · rw [show chsB x v 3 a = _ from (if_neg (show ¬ (3 : Int32) < 0 by decide)).trans ((if_neg (show ¬ 4 ≤ (3 : Int32) by decide)).trans ((if_neg h0).trans ((if_neg h1).trans (if_pos h2))))]
              rfl
            · conv => lhs; whnf
              refine pif_c (fun h3 => ?_) (fun h3 => ?_)
              · rw [show chsB x v 3 a = _ from (if_neg (show ¬ (3 : Int32) < 0 by decide)).trans ((if_neg (show ¬ 4 ≤ (3 : Int32) by decide)).trans ((if_neg h0).trans ((if_neg h1).trans ((if_neg h2).trans (if_pos h3)))))]
                rfl
              · conv => lhs; whnf
                refine pif_c (fun h4 => ?_) (fun h4 => ?_)
                · rw [show chsB x v 3 a = _ from (if_neg (show ¬ (3 : Int32) < 0 by decide)).trans ((if_neg (show ¬ 4 ≤ (3 : Int32) by decide)).trans ((if_neg h0).trans ((if_neg h1).trans ((if_neg h2).trans ((if_neg h3).trans (if_pos h4))))))]
                  rfl
                · rw [show chsB x v 3 a = _ from (if_neg (show ¬ (3 : Int32) < 0 by decide)).trans ((if_neg (show ¬ 4 ≤ (3 : Int32) by decide)).trans ((if_neg h0).trans ((if_neg h1).trans ((if_neg h2).trans ((if_neg h3).trans (if_neg h4))))))]
                  rfl
    · have p1 := Int32.not_lt.mp q1
      rw [show chsB x v c a = _ from (if_neg p0).trans (if_pos p1)]
      rfl
theorem ok_F_X8_chest (l : Launch) : pFOK l yX8_chest (pWs yX8_chest cX8_chest 4 ((some FieldType.int))) rm_X8_chest F_X8_chest := by
  refine pFOK_all fun args w rg v0 w' rg' h => ?_
  unfold F_X8_chest at h
  split at h
  next c a =>
    obtain ⟨f, x, v, u, hw, h2⟩ := unB_some h
    clear h
    subst hw
    by_cases hc : bOK f rg
    · have h2 := (pif_t hc).symm.trans h2
      cases h2
      exact met_of_ex (by decide) (ok_k_X8_chest l) rfl (run_X8_chest rg f x v u c a hc) (Nat.le_of_ble_eq_true rfl) rfl (Nat.le_of_ble_eq_true rfl) (Nat.le_of_ble_eq_true rfl) (Nat.zero_le _) rfl rfl
    · have h2 := (pif_f hc).symm.trans h2
      cases h2
  next => cases h
theorem rc_F_X8_chest : pRcv 8 F_X8_chest := by
  intro as w rg o h
  obtain ⟨v0, w', rg'⟩ := o
  unfold F_X8_chest at h
  split at h
  next =>
    obtain ⟨f, x, v, u, rfl, -⟩ := unB_some h
    exact ⟨_, _, _, rfl, cellOf_get rfl⟩
  next => cases h
theorem cl_X8_chest (f : Nat → Option Nat) (x v u : pLV) (c : Int32) (a : Int32) (rg : pRg) (hc : bOK f rg) : F_X8_chest [.ref 0, .int c, .int a] (cw f x v u) rg = some (some (.int (chsB (NX x) (NL v) c a)), cw f ((NX x)) ((NL v)) ((NL u)), rg) := pif_t hc
end
