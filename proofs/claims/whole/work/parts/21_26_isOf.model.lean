noncomputable section
def isOfI (s v : Int32) : Int32 := if s = 0 then inI v 0 200 else if s = 1 then inI v 0 5000 else if s = 2 then inI v 0 2000 else if s = 3 then inI v 0 1000 else if s = 4 then inI v 1 100 else if s = 5 then inI v 0 8 else if s = 6 then inI v 0 50 else if s = 7 then inI v 0 2000 else if s = 8 then inI v 0 20 else 0
theorem dX9_isOf_0 : decode cX9_isOf 0 = .ok (.iload_n 0, 1) := by decide +kernel
theorem dX9_isOf_1 : decode cX9_isOf 1 = .ok (.tableswitch 107 0 7 #[47, 56, 65, 74, 83, 91, 99, 65], 47) := by decide +kernel
theorem dX9_isOf_48 : decode cX9_isOf 48 = .ok (.iload_n 1, 1) := by decide +kernel
theorem dX9_isOf_49 : decode cX9_isOf 49 = .ok (.iconst 0, 1) := by decide +kernel
theorem dX9_isOf_50 : decode cX9_isOf 50 = .ok (.sipush 200, 3) := by decide +kernel
theorem dX9_isOf_53 : decode cX9_isOf 53 = .ok (.invokestatic 41, 3) := by decide +kernel
theorem dX9_isOf_56 : decode cX9_isOf 56 = .ok (.ireturn, 1) := by decide +kernel
theorem dX9_isOf_57 : decode cX9_isOf 57 = .ok (.iload_n 1, 1) := by decide +kernel
theorem dX9_isOf_58 : decode cX9_isOf 58 = .ok (.iconst 0, 1) := by decide +kernel
theorem dX9_isOf_59 : decode cX9_isOf 59 = .ok (.sipush 5000, 3) := by decide +kernel
theorem dX9_isOf_62 : decode cX9_isOf 62 = .ok (.invokestatic 41, 3) := by decide +kernel
theorem dX9_isOf_65 : decode cX9_isOf 65 = .ok (.ireturn, 1) := by decide +kernel
theorem dX9_isOf_66 : decode cX9_isOf 66 = .ok (.iload_n 1, 1) := by decide +kernel
theorem dX9_isOf_67 : decode cX9_isOf 67 = .ok (.iconst 0, 1) := by decide +kernel
theorem dX9_isOf_68 : decode cX9_isOf 68 = .ok (.sipush 2000, 3) := by decide +kernel
theorem dX9_isOf_71 : decode cX9_isOf 71 = .ok (.invokestatic 41, 3) := by decide +kernel
theorem dX9_isOf_74 : decode cX9_isOf 74 = .ok (.ireturn, 1) := by decide +kernel
theorem dX9_isOf_75 : decode cX9_isOf 75 = .ok (.iload_n 1, 1) := by decide +kernel
theorem dX9_isOf_76 : decode cX9_isOf 76 = .ok (.iconst 0, 1) := by decide +kernel
theorem dX9_isOf_77 : decode cX9_isOf 77 = .ok (.sipush 1000, 3) := by decide +kernel
theorem dX9_isOf_80 : decode cX9_isOf 80 = .ok (.invokestatic 41, 3) := by decide +kernel
theorem dX9_isOf_83 : decode cX9_isOf 83 = .ok (.ireturn, 1) := by decide +kernel
theorem dX9_isOf_84 : decode cX9_isOf 84 = .ok (.iload_n 1, 1) := by decide +kernel
theorem dX9_isOf_85 : decode cX9_isOf 85 = .ok (.iconst 1, 1) := by decide +kernel
theorem dX9_isOf_86 : decode cX9_isOf 86 = .ok (.bipush 100, 2) := by decide +kernel
theorem dX9_isOf_88 : decode cX9_isOf 88 = .ok (.invokestatic 41, 3) := by decide +kernel
theorem dX9_isOf_91 : decode cX9_isOf 91 = .ok (.ireturn, 1) := by decide +kernel
theorem dX9_isOf_92 : decode cX9_isOf 92 = .ok (.iload_n 1, 1) := by decide +kernel
theorem dX9_isOf_93 : decode cX9_isOf 93 = .ok (.iconst 0, 1) := by decide +kernel
theorem dX9_isOf_94 : decode cX9_isOf 94 = .ok (.bipush 8, 2) := by decide +kernel
theorem dX9_isOf_96 : decode cX9_isOf 96 = .ok (.invokestatic 41, 3) := by decide +kernel
theorem dX9_isOf_99 : decode cX9_isOf 99 = .ok (.ireturn, 1) := by decide +kernel
theorem dX9_isOf_100 : decode cX9_isOf 100 = .ok (.iload_n 1, 1) := by decide +kernel
theorem dX9_isOf_101 : decode cX9_isOf 101 = .ok (.iconst 0, 1) := by decide +kernel
theorem dX9_isOf_102 : decode cX9_isOf 102 = .ok (.bipush 50, 2) := by decide +kernel
theorem dX9_isOf_104 : decode cX9_isOf 104 = .ok (.invokestatic 41, 3) := by decide +kernel
theorem dX9_isOf_107 : decode cX9_isOf 107 = .ok (.ireturn, 1) := by decide +kernel
theorem dX9_isOf_108 : decode cX9_isOf 108 = .ok (.iload_n 0, 1) := by decide +kernel
theorem dX9_isOf_109 : decode cX9_isOf 109 = .ok (.bipush 8, 2) := by decide +kernel
theorem dX9_isOf_111 : decode cX9_isOf 111 = .ok (.if_icmp .ne 17, 3) := by decide +kernel
theorem dX9_isOf_114 : decode cX9_isOf 114 = .ok (.iload_n 1, 1) := by decide +kernel
theorem dX9_isOf_115 : decode cX9_isOf 115 = .ok (.iconst 0, 1) := by decide +kernel
theorem dX9_isOf_116 : decode cX9_isOf 116 = .ok (.bipush 20, 2) := by decide +kernel
theorem dX9_isOf_118 : decode cX9_isOf 118 = .ok (.invokestatic 41, 3) := by decide +kernel
theorem dX9_isOf_121 : decode cX9_isOf 121 = .ok (.ifCond .eq 7, 3) := by decide +kernel
theorem dX9_isOf_124 : decode cX9_isOf 124 = .ok (.iconst 1, 1) := by decide +kernel
theorem dX9_isOf_125 : decode cX9_isOf 125 = .ok (.goto 4, 3) := by decide +kernel
theorem dX9_isOf_128 : decode cX9_isOf 128 = .ok (.iconst 0, 1) := by decide +kernel
theorem dX9_isOf_129 : decode cX9_isOf 129 = .ok (.ireturn, 1) := by decide +kernel
def k_X9_isOf : List pEn := [oIload 0, oSw [(0, 2), (1, 7), (2, 12), (3, 17), (4, 22), (5, 27), (6, 32), (7, 12)] 37, oIload 1, oConst (0), oConst (200), oCall 3 F_X9_isIn, oZret, oIload 1, oConst (0), oConst (5000), oCall 3 F_X9_isIn, oZret, oIload 1, oConst (0), oConst (2000), oCall 3 F_X9_isIn, oZret, oIload 1, oConst (0), oConst (1000), oCall 3 F_X9_isIn, oZret, oIload 1, oConst (1), oConst (100), oCall 3 F_X9_isIn, oZret, oIload 1, oConst (0), oConst (8), oCall 3 F_X9_isIn, oZret, oIload 1, oConst (0), oConst (50), oCall 3 F_X9_isIn, oZret, oIload 0, oConst (8), oCne 47, oIload 1, oConst (0), oConst (20), oCall 3 F_X9_isIn, oIfeq 47, oConst (1), oGoto 48, oConst (0), oZret]
def pc_X9_isOf (i : Nat) : Nat := ([0, 1, 48, 49, 50, 53, 56, 57, 58, 59, 62, 65, 66, 67, 68, 71, 74, 75, 76, 77, 80, 83, 84, 85, 86, 88, 91, 92, 93, 94, 96, 99, 100, 101, 102, 104, 107, 108, 109, 111, 114, 115, 116, 118, 121, 124, 125, 128, 129] : List Nat).getD i 0
abbrev rm_X9_isOf : Room := { frames := 1, cells := 0, slots := 0, locals := 22 }
theorem pl_X9_isOf : pPlain yX9_isOf 2 := by decide +kernel
set_option maxRecDepth 100000 in
set_option maxHeartbeats 4000000 in
theorem ok_k_X9_isOf (l : Launch) : ∀ (i : Nat) (en : pEn), k_X9_isOf[i]? = some en → EOK l cX9_isOf yX9_isOf.cls 2 ((some FieldType.boolean)) rm_X9_isOf 0 pc_X9_isOf i en := by
  refine allOK_at ?_
  refine And.intro (okIload_n dX9_isOf_0 rfl rfl) ?_
  refine And.intro (okTsw dX9_isOf_1 (by decide) (by rfl) (by intro z h1 h2; have : z = 0 ∨ z = 1 ∨ z = 2 ∨ z = 3 ∨ z = 4 ∨ z = 5 ∨ z = 6 ∨ z = 7 := (by omega); rcases this with rfl | rfl | rfl | rfl | rfl | rfl | rfl | rfl <;> decide)) ?_
  refine And.intro (okIload_n dX9_isOf_48 rfl rfl) ?_
  refine And.intro (okIconst dX9_isOf_49 rfl (by first | rfl | decide)) ?_
  refine And.intro (okSipush dX9_isOf_50 rfl (by first | rfl | decide)) ?_
  refine And.intro (okCallS (y := yX9_isIn) (oCall_is _ _ _) dX9_isOf_53 rfl (ok_F_X9_isIn l) wm_3_223 wm_3_224 wm_1_10 wm_3_225 pl_X9_isIn (by decide)) ?_
  refine And.intro (okZret dX9_isOf_56 rfl) ?_
  refine And.intro (okIload_n dX9_isOf_57 rfl rfl) ?_
  refine And.intro (okIconst dX9_isOf_58 rfl (by first | rfl | decide)) ?_
  refine And.intro (okSipush dX9_isOf_59 rfl (by first | rfl | decide)) ?_
  refine And.intro (okCallS (y := yX9_isIn) (oCall_is _ _ _) dX9_isOf_62 rfl (ok_F_X9_isIn l) wm_3_223 wm_3_224 wm_1_10 wm_3_225 pl_X9_isIn (by decide)) ?_
  refine And.intro (okZret dX9_isOf_65 rfl) ?_
  refine And.intro (okIload_n dX9_isOf_66 rfl rfl) ?_
  refine And.intro (okIconst dX9_isOf_67 rfl (by first | rfl | decide)) ?_
  refine And.intro (okSipush dX9_isOf_68 rfl (by first | rfl | decide)) ?_
  refine And.intro (okCallS (y := yX9_isIn) (oCall_is _ _ _) dX9_isOf_71 rfl (ok_F_X9_isIn l) wm_3_223 wm_3_224 wm_1_10 wm_3_225 pl_X9_isIn (by decide)) ?_
  refine And.intro (okZret dX9_isOf_74 rfl) ?_
  refine And.intro (okIload_n dX9_isOf_75 rfl rfl) ?_
  refine And.intro (okIconst dX9_isOf_76 rfl (by first | rfl | decide)) ?_
  refine And.intro (okSipush dX9_isOf_77 rfl (by first | rfl | decide)) ?_
  refine And.intro (okCallS (y := yX9_isIn) (oCall_is _ _ _) dX9_isOf_80 rfl (ok_F_X9_isIn l) wm_3_223 wm_3_224 wm_1_10 wm_3_225 pl_X9_isIn (by decide)) ?_
  refine And.intro (okZret dX9_isOf_83 rfl) ?_
  refine And.intro (okIload_n dX9_isOf_84 rfl rfl) ?_
  refine And.intro (okIconst dX9_isOf_85 rfl (by first | rfl | decide)) ?_
  refine And.intro (okBipush dX9_isOf_86 rfl (by first | rfl | decide)) ?_
  refine And.intro (okCallS (y := yX9_isIn) (oCall_is _ _ _) dX9_isOf_88 rfl (ok_F_X9_isIn l) wm_3_223 wm_3_224 wm_1_10 wm_3_225 pl_X9_isIn (by decide)) ?_
  refine And.intro (okZret dX9_isOf_91 rfl) ?_
  refine And.intro (okIload_n dX9_isOf_92 rfl rfl) ?_
  refine And.intro (okIconst dX9_isOf_93 rfl (by first | rfl | decide)) ?_
  refine And.intro (okBipush dX9_isOf_94 rfl (by first | rfl | decide)) ?_
  refine And.intro (okCallS (y := yX9_isIn) (oCall_is _ _ _) dX9_isOf_96 rfl (ok_F_X9_isIn l) wm_3_223 wm_3_224 wm_1_10 wm_3_225 pl_X9_isIn (by decide)) ?_
  refine And.intro (okZret dX9_isOf_99 rfl) ?_
  refine And.intro (okIload_n dX9_isOf_100 rfl rfl) ?_
  refine And.intro (okIconst dX9_isOf_101 rfl (by first | rfl | decide)) ?_
  refine And.intro (okBipush dX9_isOf_102 rfl (by first | rfl | decide)) ?_
  refine And.intro (okCallS (y := yX9_isIn) (oCall_is _ _ _) dX9_isOf_104 rfl (ok_F_X9_isIn l) wm_3_223 wm_3_224 wm_1_10 wm_3_225 pl_X9_isIn (by decide)) ?_
  refine And.intro (okZret dX9_isOf_107 rfl) ?_
  refine And.intro (okIload_n dX9_isOf_108 rfl rfl) ?_
  refine And.intro (okBipush dX9_isOf_109 rfl (by first | rfl | decide)) ?_
  refine And.intro (okCne dX9_isOf_111 rfl (by rfl)) ?_
  refine And.intro (okIload_n dX9_isOf_114 rfl rfl) ?_
  refine And.intro (okIconst dX9_isOf_115 rfl (by first | rfl | decide)) ?_
  refine And.intro (okBipush dX9_isOf_116 rfl (by first | rfl | decide)) ?_
  refine And.intro (okCallS (y := yX9_isIn) (oCall_is _ _ _) dX9_isOf_118 rfl (ok_F_X9_isIn l) wm_3_223 wm_3_224 wm_1_10 wm_3_225 pl_X9_isIn (by decide)) ?_
  refine And.intro (okIfeq dX9_isOf_121 rfl (by rfl)) ?_
  refine And.intro (okIconst dX9_isOf_124 rfl (by first | rfl | decide)) ?_
  refine And.intro (okGoto dX9_isOf_125 (by rfl)) ?_
  refine And.intro (okIconst dX9_isOf_128 rfl (by first | rfl | decide)) ?_
  refine And.intro (okZret dX9_isOf_129 rfl) ?_
  exact trivial
def G_X9_isOf : pG := fun args w => match args, w with
  | [.int s, .int v], [] => some (some (.int (isOfI s v)), [])
  | _, _ => none
set_option maxHeartbeats 400000 in
set_option maxRecDepth 100000 in
theorem run_X9_isOf (rg : pRg) (s v : Int32) : ∃ fu, ex k_X9_isOf fu 0 [(0, .int s), (1, .int v)] [] [] rg = some (some (.int (isOfI s v)), [], rg) := by
  refine ⟨40, ?_⟩
  conv => lhs; whnf
  refine pif_c (fun h0 => ?_) (fun h0 => ?_)
  · conv => lhs; whnf
    refine (pif_t (inI_01 v 0 200)).trans ?_
    rw [show isOfI s v = _ from if_pos h0] <;> rfl
  · conv => lhs; whnf
    refine pif_c (fun h1 => ?_) (fun h1 => ?_)
    · conv => lhs; whnf
      refine (pif_t (inI_01 v 0 5000)).trans ?_
      rw [show isOfI s v = _ from (if_neg h0).trans (if_pos h1)] <;> rfl
    · conv => lhs; whnf
      refine pif_c (fun h2 => ?_) (fun h2 => ?_)
      · conv => lhs; whnf
        refine (pif_t (inI_01 v 0 2000)).trans ?_
        rw [show isOfI s v = _ from (if_neg h0).trans ((if_neg h1).trans (if_pos h2))] <;> rfl
      · conv => lhs; whnf
        refine pif_c (fun h3 => ?_) (fun h3 => ?_)
        · conv => lhs; whnf
          refine (pif_t (inI_01 v 0 1000)).trans ?_
          rw [show isOfI s v = _ from (if_neg h0).trans ((if_neg h1).trans ((if_neg h2).trans (if_pos h3)))] <;> rfl
        · conv => lhs; whnf
          refine pif_c (fun h4 => ?_) (fun h4 => ?_)
          · conv => lhs; whnf
            refine (pif_t (inI_01 v 1 100)).trans ?_
            rw [show isOfI s v = _ from (if_neg h0).trans ((if_neg h1).trans ((if_neg h2).trans ((if_neg h3).trans (if_pos h4))))] <;> rfl
          · conv => lhs; whnf
            refine pif_c (fun h5 => ?_) (fun h5 => ?_)
            · conv => lhs; whnf
              refine (pif_t (inI_01 v 0 8)).trans ?_
              rw [show isOfI s v = _ from (if_neg h0).trans ((if_neg h1).trans ((if_neg h2).trans ((if_neg h3).trans ((if_neg h4).trans (if_pos h5)))))] <;> rfl
            · conv => lhs; whnf
              refine pif_c (fun h6 => ?_) (fun h6 => ?_)
              · conv => lhs; whnf
                refine (pif_t (inI_01 v 0 50)).trans ?_
                rw [show isOfI s v = _ from (if_neg h0).trans ((if_neg h1).trans ((if_neg h2).trans ((if_neg h3).trans ((if_neg h4).trans ((if_neg h5).trans (if_pos h6))))))] <;> rfl
              · conv => lhs; whnf
                refine pif_c (fun h7 => ?_) (fun h7 => ?_)
                · conv => lhs; whnf
                  refine (pif_t (inI_01 v 0 2000)).trans ?_
                  rw [show isOfI s v = _ from (if_neg h0).trans ((if_neg h1).trans ((if_neg h2).trans ((if_neg h3).trans ((if_neg h4).trans ((if_neg h5).trans ((if_neg h6).trans (if_pos h7)))))))] <;> rfl
                · conv => lhs; whnf
                  refine pif_c (fun h8 => ?_) (fun h8 => ?_)
                  · conv => lhs; whnf
                    refine pif_c (fun g => ?_) (fun g => ?_)
                    · conv => lhs; whnf
                      refine (pif_t (by decide)).trans ?_
                      rw [show isOfI s v = _ from (if_neg h0).trans ((if_neg h1).trans ((if_neg h2).trans ((if_neg h3).trans ((if_neg h4).trans ((if_neg h5).trans ((if_neg h6).trans ((if_neg h7).trans ((if_pos h8).trans g))))))))] <;> rfl
                    · conv => lhs; whnf
                      refine (pif_t (by decide)).trans ?_
                      rw [show isOfI s v = _ from (if_neg h0).trans ((if_neg h1).trans ((if_neg h2).trans ((if_neg h3).trans ((if_neg h4).trans ((if_neg h5).trans ((if_neg h6).trans ((if_neg h7).trans ((if_pos h8).trans ((inI_01 v 0 20).resolve_left g)))))))))] <;> rfl
                  · conv => lhs; whnf
                    refine (pif_t (by decide)).trans ?_
                    rw [show isOfI s v = _ from (if_neg h0).trans ((if_neg h1).trans ((if_neg h2).trans ((if_neg h3).trans ((if_neg h4).trans ((if_neg h5).trans ((if_neg h6).trans ((if_neg h7).trans (if_neg h8))))))))] <;> rfl
theorem ct_X9_isOf (l : Launch) : ∀ args0 w0 v0 w1 rg, G_X9_isOf args0 w0 = some (v0, w1) → pCT l yX9_isOf (pWs yX9_isOf cX9_isOf 2 ((some FieldType.boolean))) rm_X9_isOf args0 w0 rg (v0, w1, rg) := by
  intro args0 w0 v0 w1 rg h
  unfold G_X9_isOf at h
  split at h
  next =>
    cases h
    exact met_of_ex (by decide) (ok_k_X9_isOf l) rfl (run_X9_isOf rg _ _) (Nat.le_of_ble_eq_true rfl) rfl (Nat.le_refl _) (Nat.le_of_ble_eq_true rfl) (Nat.zero_le _) rfl rfl
  next => cases h
def F_X9_isOf : pF := frN G_X9_isOf
theorem ok_F_X9_isOf (l : Launch) : pFOK l yX9_isOf (pWs yX9_isOf cX9_isOf 2 ((some FieldType.boolean))) rm_X9_isOf F_X9_isOf := pFOK_fr (fun a b c d h => ct_X9_isOf l a b c d rg00 h) (fun a b c d h => by
  unfold G_X9_isOf at h
  split at h
  next => simp
  next => cases h)
end
