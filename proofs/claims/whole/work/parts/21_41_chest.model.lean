noncomputable section
def chsQ (m : pLV) (c q : Int32) : Int32 := if q = 0 then m 1 (18 + 3 * c.toNatClampNeg) else if q = 1 then m 1 (19 + 3 * c.toNatClampNeg) else if q = 2 then csM c.toNatClampNeg m else if q = 3 then rmI c - sumM c.toNatClampNeg m else if q = 4 then m 1 (20 + 3 * c.toNatClampNeg) else -1
def chsR (m : pLV) (c q : Int32) : Int32 := if inI c 0 3 = 0 then -1 else chsQ m c q
theorem dX9_chest_0 : decode cX9_chest 0 = .ok (.iload_n 1, 1) := by decide +kernel
theorem dX9_chest_1 : decode cX9_chest 1 = .ok (.invokestatic 148, 3) := by decide +kernel
theorem dX9_chest_4 : decode cX9_chest 4 = .ok (.ifCond .ne 5, 3) := by decide +kernel
theorem dX9_chest_7 : decode cX9_chest 7 = .ok (.iconst (-1), 1) := by decide +kernel
theorem dX9_chest_8 : decode cX9_chest 8 = .ok (.ireturn, 1) := by decide +kernel
theorem dX9_chest_9 : decode cX9_chest 9 = .ok (.iload_n 2, 1) := by decide +kernel
theorem dX9_chest_10 : decode cX9_chest 10 = .ok (.tableswitch 79 0 4 #[34, 34, 48, 54, 65], 34) := by decide +kernel
theorem dX9_chest_44 : decode cX9_chest 44 = .ok (.aload_n 0, 1) := by decide +kernel
theorem dX9_chest_45 : decode cX9_chest 45 = .ok (.getfield 7, 3) := by decide +kernel
theorem dX9_chest_48 : decode cX9_chest 48 = .ok (.bipush 18, 2) := by decide +kernel
theorem dX9_chest_50 : decode cX9_chest 50 = .ok (.iconst 3, 1) := by decide +kernel
theorem dX9_chest_51 : decode cX9_chest 51 = .ok (.iload_n 1, 1) := by decide +kernel
theorem dX9_chest_52 : decode cX9_chest 52 = .ok (.imul, 1) := by decide +kernel
theorem dX9_chest_53 : decode cX9_chest 53 = .ok (.iadd, 1) := by decide +kernel
theorem dX9_chest_54 : decode cX9_chest 54 = .ok (.iload_n 2, 1) := by decide +kernel
theorem dX9_chest_55 : decode cX9_chest 55 = .ok (.iadd, 1) := by decide +kernel
theorem dX9_chest_56 : decode cX9_chest 56 = .ok (.iaload, 1) := by decide +kernel
theorem dX9_chest_57 : decode cX9_chest 57 = .ok (.ireturn, 1) := by decide +kernel
theorem dX9_chest_58 : decode cX9_chest 58 = .ok (.aload_n 0, 1) := by decide +kernel
theorem dX9_chest_59 : decode cX9_chest 59 = .ok (.iload_n 1, 1) := by decide +kernel
theorem dX9_chest_60 : decode cX9_chest 60 = .ok (.invokevirtual 77, 3) := by decide +kernel
theorem dX9_chest_63 : decode cX9_chest 63 = .ok (.ireturn, 1) := by decide +kernel
theorem dX9_chest_64 : decode cX9_chest 64 = .ok (.iload_n 1, 1) := by decide +kernel
theorem dX9_chest_65 : decode cX9_chest 65 = .ok (.invokestatic 55, 3) := by decide +kernel
theorem dX9_chest_68 : decode cX9_chest 68 = .ok (.aload_n 0, 1) := by decide +kernel
theorem dX9_chest_69 : decode cX9_chest 69 = .ok (.iload_n 1, 1) := by decide +kernel
theorem dX9_chest_70 : decode cX9_chest 70 = .ok (.invokevirtual 45, 3) := by decide +kernel
theorem dX9_chest_73 : decode cX9_chest 73 = .ok (.isub, 1) := by decide +kernel
theorem dX9_chest_74 : decode cX9_chest 74 = .ok (.ireturn, 1) := by decide +kernel
theorem dX9_chest_75 : decode cX9_chest 75 = .ok (.aload_n 0, 1) := by decide +kernel
theorem dX9_chest_76 : decode cX9_chest 76 = .ok (.getfield 7, 3) := by decide +kernel
theorem dX9_chest_79 : decode cX9_chest 79 = .ok (.bipush 18, 2) := by decide +kernel
theorem dX9_chest_81 : decode cX9_chest 81 = .ok (.iconst 3, 1) := by decide +kernel
theorem dX9_chest_82 : decode cX9_chest 82 = .ok (.iload_n 1, 1) := by decide +kernel
theorem dX9_chest_83 : decode cX9_chest 83 = .ok (.imul, 1) := by decide +kernel
theorem dX9_chest_84 : decode cX9_chest 84 = .ok (.iadd, 1) := by decide +kernel
theorem dX9_chest_85 : decode cX9_chest 85 = .ok (.iconst 2, 1) := by decide +kernel
theorem dX9_chest_86 : decode cX9_chest 86 = .ok (.iadd, 1) := by decide +kernel
theorem dX9_chest_87 : decode cX9_chest 87 = .ok (.iaload, 1) := by decide +kernel
theorem dX9_chest_88 : decode cX9_chest 88 = .ok (.ireturn, 1) := by decide +kernel
theorem dX9_chest_89 : decode cX9_chest 89 = .ok (.iconst (-1), 1) := by decide +kernel
theorem dX9_chest_90 : decode cX9_chest 90 = .ok (.ireturn, 1) := by decide +kernel
def k_X9_chest : List pEn := [oIload 1, oCall 1 F_X9_isChest, oIfne 5, oConst (-1), oIret, oIload 2, oSw [(0, 7), (1, 7), (2, 18), (3, 22), (4, 29)] 40, oAload 0, oGet 9 0, oConst (18), oConst (3), oIload 1, oMul, oAdd, oIload 2, oAdd, oIald, oIret, oAload 0, oIload 1, oCallZ 2 F_X9_consistency, oIret, oIload 1, oCall 1 F_X9_roomOf, oAload 0, oIload 1, oCallZ 2 F_X9_sum, oSub, oIret, oAload 0, oGet 9 0, oConst (18), oConst (3), oIload 1, oMul, oAdd, oConst (2), oAdd, oIald, oIret, oConst (-1), oIret]
def pc_X9_chest (i : Nat) : Nat := ([0, 1, 4, 7, 8, 9, 10, 44, 45, 48, 50, 51, 52, 53, 54, 55, 56, 57, 58, 59, 60, 63, 64, 65, 68, 69, 70, 73, 74, 75, 76, 79, 81, 82, 83, 84, 85, 86, 87, 88, 89, 90] : List Nat).getD i 0
abbrev rm_X9_chest : Room := { frames := 2, cells := 0, slots := 0, locals := 42 }
theorem pl_X9_chest : pPlain yX9_chest 2 := by decide +kernel
set_option maxRecDepth 100000 in
set_option maxHeartbeats 4000000 in
theorem ok_k_X9_chest (l : Launch) : ∀ (i : Nat) (en : pEn), k_X9_chest[i]? = some en → EOK l cX9_chest yX9_chest.cls 3 ((some FieldType.int)) rm_X9_chest 0 pc_X9_chest i en := by
  refine allOK_at ?_
  refine And.intro (okIload_n dX9_chest_0 rfl rfl) ?_
  refine And.intro (okCallS (y := yX9_isChest) (oCall_is _ _ _) dX9_chest_1 rfl (ok_F_X9_isChest l) wm_4_6 wm_4_7 wm_1_10 wm_4_8 pl_X9_isChest (by decide)) ?_
  refine And.intro (okIfne dX9_chest_4 rfl (by rfl)) ?_
  refine And.intro (okIconst dX9_chest_7 rfl (by first | rfl | decide)) ?_
  refine And.intro (okIret dX9_chest_8 rfl) ?_
  refine And.intro (okIload_n dX9_chest_9 rfl rfl) ?_
  refine And.intro (okTsw dX9_chest_10 (by decide) (by rfl) (by intro z h1 h2; have : z = 0 ∨ z = 1 ∨ z = 2 ∨ z = 3 ∨ z = 4 := (by omega); rcases this with rfl | rfl | rfl | rfl | rfl <;> decide)) ?_
  refine And.intro (okAload_n dX9_chest_44 rfl rfl) ?_
  refine And.intro (okGet (C := RX9) (T := TX9) (N := 22) dX9_chest_45 rfl rfl (by decide) inX9 wm_3_141) ?_
  refine And.intro (okBipush dX9_chest_48 rfl (by first | rfl | decide)) ?_
  refine And.intro (okIconst dX9_chest_50 rfl (by first | rfl | decide)) ?_
  refine And.intro (okIload_n dX9_chest_51 rfl rfl) ?_
  refine And.intro (okMul dX9_chest_52 rfl) ?_
  refine And.intro (okAdd dX9_chest_53 rfl) ?_
  refine And.intro (okIload_n dX9_chest_54 rfl rfl) ?_
  refine And.intro (okAdd dX9_chest_55 rfl) ?_
  refine And.intro (okIald dX9_chest_56 rfl) ?_
  refine And.intro (okIret dX9_chest_57 rfl) ?_
  refine And.intro (okAload_n dX9_chest_58 rfl rfl) ?_
  refine And.intro (okIload_n dX9_chest_59 rfl rfl) ?_
  refine And.intro (okCallV (y := yX9_consistency) (T := TX9) (oCallZ_is _ _ _) dX9_chest_60 rfl (ok_F_X9_consistency l) rc_F_X9_consistency rfl wm_4_88 wm_4_90 wp_34 wm_1_10 wm_4_91 pl_X9_consistency (by decide)) ?_
  refine And.intro (okIret dX9_chest_63 rfl) ?_
  refine And.intro (okIload_n dX9_chest_64 rfl rfl) ?_
  refine And.intro (okCallS (y := yX9_roomOf) (oCall_is _ _ _) dX9_chest_65 rfl (ok_F_X9_roomOf l) wm_4_18 wm_4_19 wm_1_10 wm_4_20 pl_X9_roomOf (by decide)) ?_
  refine And.intro (okAload_n dX9_chest_68 rfl rfl) ?_
  refine And.intro (okIload_n dX9_chest_69 rfl rfl) ?_
  refine And.intro (okCallV (y := yX9_sum) (T := TX9) (oCallZ_is _ _ _) dX9_chest_70 rfl (ok_F_X9_sum l) rc_F_X9_sum rfl wm_4_14 wm_4_16 wp_20 wm_1_10 wm_4_17 pl_X9_sum (by decide)) ?_
  refine And.intro (okSub dX9_chest_73 rfl) ?_
  refine And.intro (okIret dX9_chest_74 rfl) ?_
  refine And.intro (okAload_n dX9_chest_75 rfl rfl) ?_
  refine And.intro (okGet (C := RX9) (T := TX9) (N := 22) dX9_chest_76 rfl rfl (by decide) inX9 wm_3_141) ?_
  refine And.intro (okBipush dX9_chest_79 rfl (by first | rfl | decide)) ?_
  refine And.intro (okIconst dX9_chest_81 rfl (by first | rfl | decide)) ?_
  refine And.intro (okIload_n dX9_chest_82 rfl rfl) ?_
  refine And.intro (okMul dX9_chest_83 rfl) ?_
  refine And.intro (okAdd dX9_chest_84 rfl) ?_
  refine And.intro (okIconst dX9_chest_85 rfl (by first | rfl | decide)) ?_
  refine And.intro (okAdd dX9_chest_86 rfl) ?_
  refine And.intro (okIald dX9_chest_87 rfl) ?_
  refine And.intro (okIret dX9_chest_88 rfl) ?_
  refine And.intro (okIconst dX9_chest_89 rfl (by first | rfl | decide)) ?_
  refine And.intro (okIret dX9_chest_90 rfl) ?_
  exact trivial
def G_X9_chest : pG := fun args w => match args with
  | [.ref 0, .int c, .int q] => unM w (fun m => some (some (.int (chsR m c q)), mdl (m)))
  | _ => none
set_option maxHeartbeats 400000 in
set_option maxRecDepth 100000 in
theorem run_X9_chest (rg : pRg) (m : pLV) (c q : Int32)  : ∃ fu, ex k_X9_chest fu 0 [(0, .ref 0), (1, .int c), (2, .int q)] [] (mdl m) rg = some (some (.int (chsR m c q)), mdl (m), rg) := by
  refine ⟨60, ?_⟩
  conv => lhs; whnf
  refine pif_c (fun h0 => ?_) (fun h0 => ?_)
  · rw [show chsR m c q = _ from if_pos h0] <;> rfl
  · rw [show chsR m c q = _ from if_neg h0]
    rcases inI_03 h0 with rfl | rfl | rfl | rfl
    · clear h0
      conv => lhs; whnf
      refine pif_c (fun h0 => ?_) (fun h0 => ?_)
      · rw [show chsQ m 0 q = _ from if_pos h0]
        subst h0
        conv => lhs; whnf
        refine (pif_f (by decide)).trans ?_
        rfl
      · conv => lhs; whnf
        refine pif_c (fun h1 => ?_) (fun h1 => ?_)
        · rw [show chsQ m 0 q = _ from (if_neg h0).trans (if_pos h1)]
          subst h1
          conv => lhs; whnf
          refine (pif_f (by decide)).trans ?_
          rfl
        · conv => lhs; whnf
          refine pif_c (fun h2 => ?_) (fun h2 => ?_)
          · rw [show chsQ m 0 q = _ from (if_neg h0).trans ((if_neg h1).trans (if_pos h2))]
            conv => lhs; whnf
            refine (callK_r (cl_X9_consistency0 m rg) (by rfl)).trans ?_
            rfl
          · conv => lhs; whnf
            refine pif_c (fun h3 => ?_) (fun h3 => ?_)
            · rw [show chsQ m 0 q = _ from (if_neg h0).trans ((if_neg h1).trans ((if_neg h2).trans (if_pos h3)))]
              conv => lhs; whnf
              refine (callK_r (cl_X9_sum0 m rg) (by rfl)).trans ?_
              rfl
            · conv => lhs; whnf
              refine pif_c (fun h4 => ?_) (fun h4 => ?_)
              · rw [show chsQ m 0 q = _ from (if_neg h0).trans ((if_neg h1).trans ((if_neg h2).trans ((if_neg h3).trans (if_pos h4))))]
                conv => lhs; whnf
                refine (pif_f (by decide)).trans ?_
                rfl
              · rw [show chsQ m 0 q = _ from (if_neg h0).trans ((if_neg h1).trans ((if_neg h2).trans ((if_neg h3).trans (if_neg h4))))] <;> rfl
    · clear h0
      conv => lhs; whnf
      refine pif_c (fun h0 => ?_) (fun h0 => ?_)
      · rw [show chsQ m 1 q = _ from if_pos h0]
        subst h0
        conv => lhs; whnf
        refine (pif_f (by decide)).trans ?_
        rfl
      · conv => lhs; whnf
        refine pif_c (fun h1 => ?_) (fun h1 => ?_)
        · rw [show chsQ m 1 q = _ from (if_neg h0).trans (if_pos h1)]
          subst h1
          conv => lhs; whnf
          refine (pif_f (by decide)).trans ?_
          rfl
        · conv => lhs; whnf
          refine pif_c (fun h2 => ?_) (fun h2 => ?_)
          · rw [show chsQ m 1 q = _ from (if_neg h0).trans ((if_neg h1).trans (if_pos h2))]
            conv => lhs; whnf
            refine (callK_r (cl_X9_consistency1 m rg) (by rfl)).trans ?_
            rfl
          · conv => lhs; whnf
            refine pif_c (fun h3 => ?_) (fun h3 => ?_)
            · rw [show chsQ m 1 q = _ from (if_neg h0).trans ((if_neg h1).trans ((if_neg h2).trans (if_pos h3)))]
              conv => lhs; whnf
              refine (callK_r (cl_X9_sum1 m rg) (by rfl)).trans ?_
              rfl
            · conv => lhs; whnf
              refine pif_c (fun h4 => ?_) (fun h4 => ?_)
              · rw [show chsQ m 1 q = _ from (if_neg h0).trans ((if_neg h1).trans ((if_neg h2).trans ((if_neg h3).trans (if_pos h4))))]
                conv => lhs; whnf
                refine (pif_f (by decide)).trans ?_
                rfl
              · rw [show chsQ m 1 q = _ from (if_neg h0).trans ((if_neg h1).trans ((if_neg h2).trans ((if_neg h3).trans (if_neg h4))))] <;> rfl
    · clear h0
      conv => lhs; whnf
      refine pif_c (fun h0 => ?_) (fun h0 => ?_)
      · rw [show chsQ m 2 q = _ from if_pos h0]
        subst h0
        conv => lhs; whnf
        refine (pif_f (by decide)).trans ?_
        rfl
      · conv => lhs; whnf
        refine pif_c (fun h1 => ?_) (fun h1 => ?_)
        · rw [show chsQ m 2 q = _ from (if_neg h0).trans (if_pos h1)]
          subst h1
          conv => lhs; whnf
          refine (pif_f (by decide)).trans ?_
          rfl
        · conv => lhs; whnf
          refine pif_c (fun h2 => ?_) (fun h2 => ?_)
          · rw [show chsQ m 2 q = _ from (if_neg h0).trans ((if_neg h1).trans (if_pos h2))]
            conv => lhs; whnf
            refine (callK_r (cl_X9_consistency2 m rg) (by rfl)).trans ?_
            rfl
          · conv => lhs; whnf
            refine pif_c (fun h3 => ?_) (fun h3 => ?_)
            · rw [show chsQ m 2 q = _ from (if_neg h0).trans ((if_neg h1).trans ((if_neg h2).trans (if_pos h3)))]
              conv => lhs; whnf
              refine (callK_r (cl_X9_sum2 m rg) (by rfl)).trans ?_
              rfl
            · conv => lhs; whnf
              refine pif_c (fun h4 => ?_) (fun h4 => ?_)
              · rw [show chsQ m 2 q = _ from (if_neg h0).trans ((if_neg h1).trans ((if_neg h2).trans ((if_neg h3).trans (if_pos h4))))]
                conv => lhs; whnf
                refine (pif_f (by decide)).trans ?_
                rfl
              · rw [show chsQ m 2 q = _ from (if_neg h0).trans ((if_neg h1).trans ((if_neg h2).trans ((if_neg h3).trans (if_neg h4))))] <;> rfl
    · clear h0
      conv => lhs; whnf
      refine pif_c (fun h0 => ?_) (fun h0 => ?_)
      · rw [show chsQ m 3 q = _ from if_pos h0]
        subst h0
        conv => lhs; whnf
        refine (pif_f (by decide)).trans ?_
        rfl
      · conv => lhs; whnf
        refine pif_c (fun h1 => ?_) (fun h1 => ?_)
        · rw [show chsQ m 3 q = _ from (if_neg h0).trans (if_pos h1)]
          subst h1
          conv => lhs; whnf
          refine (pif_f (by decide)).trans ?_
          rfl
        · conv => lhs; whnf
          refine pif_c (fun h2 => ?_) (fun h2 => ?_)
          · rw [show chsQ m 3 q = _ from (if_neg h0).trans ((if_neg h1).trans (if_pos h2))]
            conv => lhs; whnf
            refine (callK_r (cl_X9_consistency3 m rg) (by rfl)).trans ?_
            rfl
          · conv => lhs; whnf
            refine pif_c (fun h3 => ?_) (fun h3 => ?_)
            · rw [show chsQ m 3 q = _ from (if_neg h0).trans ((if_neg h1).trans ((if_neg h2).trans (if_pos h3)))]
              conv => lhs; whnf
              refine (callK_r (cl_X9_sum3 m rg) (by rfl)).trans ?_
              rfl
            · conv => lhs; whnf
              refine pif_c (fun h4 => ?_) (fun h4 => ?_)
              · rw [show chsQ m 3 q = _ from (if_neg h0).trans ((if_neg h1).trans ((if_neg h2).trans ((if_neg h3).trans (if_pos h4))))]
                conv => lhs; whnf
                refine (pif_f (by decide)).trans ?_
                rfl
              · rw [show chsQ m 3 q = _ from (if_neg h0).trans ((if_neg h1).trans ((if_neg h2).trans ((if_neg h3).trans (if_neg h4))))] <;> rfl
theorem ct_X9_chest (l : Launch) : ∀ args0 w0 v0 w1 rg, G_X9_chest args0 w0 = some (v0, w1) → pCT l yX9_chest (pWs yX9_chest cX9_chest 3 ((some FieldType.int))) rm_X9_chest args0 w0 rg (v0, w1, rg) := by
  intro args0 w0 v0 w1 rg h
  unfold G_X9_chest at h
  split at h
  next c q =>
    obtain ⟨m, hw, h2⟩ := unM_some h
    clear h
    subst hw
    cases h2
    exact met_of_exM (by decide) (ok_k_X9_chest l) rfl (run_X9_chest rg m c q ) (Nat.le_of_ble_eq_true rfl) rfl rfl
  next => cases h
def F_X9_chest : pF := faN G_X9_chest
theorem ok_F_X9_chest (l : Launch) : pFOK l yX9_chest (pWs yX9_chest cX9_chest 3 ((some FieldType.int))) rm_X9_chest F_X9_chest := pFOK_fa (fun a b c d rg h => ct_X9_chest l a b c d rg h)
theorem rc_F_X9_chest : pRcv 9 F_X9_chest := pRcv_fa (fun a b c d h => by
  unfold G_X9_chest at h
  split at h
  next =>
    obtain ⟨m, rfl, h⟩ := unM_some h
    exact ⟨_, _, _, rfl, rfl⟩
  next => cases h)
theorem cl_X9_chest (m : pLV) (c q : Int32) (rg : pRg) : F_X9_chest [.ref 0, .int c, .int q] (mdl m) rg = some (some (.int (chsR (NM m) c q)), mdl ((NM m)), rg) := rfl
end
