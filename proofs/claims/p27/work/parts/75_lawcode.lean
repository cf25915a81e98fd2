noncomputable section
/-! THE LAW'S OWN CODE -/
def FBo_L_change : pF := FB 0 F_L_change
theorem ok_FBo_L_change (l : Launch) : pFOK l yL_change (pWs yL_change cL_change 3 ((some FieldType.int))) rm_L_change FBo_L_change := pFOK_FB BOK_0 (ok_F_L_change l)
def FBq_L_change : pF := FB 179 F_L_change
theorem ok_FBq_L_change (l : Launch) : pFOK l yL_change (pWs yL_change cL_change 3 ((some FieldType.int))) rm_L_change FBq_L_change := pFOK_FB BOK_179 (ok_F_L_change l)
def FBo_L_areAccounts : pF := FB 0 F_L_areAccounts
theorem ok_FBo_L_areAccounts (l : Launch) : pFOK l yL_areAccounts (pWs yL_areAccounts cL_areAccounts 6 ((some FieldType.boolean))) rm_L_areAccounts FBo_L_areAccounts := pFOK_FB BOK_0 (ok_F_L_areAccounts l)
def FBq_L_areAccounts : pF := FB 179 F_L_areAccounts
theorem ok_FBq_L_areAccounts (l : Launch) : pFOK l yL_areAccounts (pWs yL_areAccounts cL_areAccounts 6 ((some FieldType.boolean))) rm_L_areAccounts FBq_L_areAccounts := pFOK_FB BOK_179 (ok_F_L_areAccounts l)
def FBo_L_isLoop : pF := FB 0 F_L_isLoop
theorem ok_FBo_L_isLoop (l : Launch) : pFOK l yL_isLoop (pWs yL_isLoop cL_isLoop 7 ((some FieldType.boolean))) rm_L_isLoop FBo_L_isLoop := pFOK_FB BOK_0 (ok_F_L_isLoop l)
def FBq_L_isLoop : pF := FB 179 F_L_isLoop
theorem ok_FBq_L_isLoop (l : Launch) : pFOK l yL_isLoop (pWs yL_isLoop cL_isLoop 7 ((some FieldType.boolean))) rm_L_isLoop FBq_L_isLoop := pFOK_FB BOK_179 (ok_F_L_isLoop l)
def FBo_L_isTick : pF := FB 0 F_L_isTick
theorem ok_FBo_L_isTick (l : Launch) : pFOK l yL_isTick (pWs yL_isTick cL_isTick 10 ((some FieldType.boolean))) rm_L_isTick FBo_L_isTick := pFOK_FB BOK_0 (ok_F_L_isTick l)
def FBq_L_isTick : pF := FB 179 F_L_isTick
theorem ok_FBq_L_isTick (l : Launch) : pFOK l yL_isTick (pWs yL_isTick cL_isTick 10 ((some FieldType.boolean))) rm_L_isTick FBq_L_isTick := pFOK_FB BOK_179 (ok_F_L_isTick l)
theorem dL_law_0 : decode cL_law 0 = .ok (.new 10, 3) := by decide +kernel
theorem dL_law_3 : decode cL_law 3 = .ok (.dup, 1) := by decide +kernel
theorem dL_law_4 : decode cL_law 4 = .ok (.invokespecial 101, 3) := by decide +kernel
theorem dL_law_7 : decode cL_law 7 = .ok (.astore_n 1, 1) := by decide +kernel
theorem dL_law_8 : decode cL_law 8 = .ok (.new 10, 3) := by decide +kernel
theorem dL_law_11 : decode cL_law 11 = .ok (.dup, 1) := by decide +kernel
theorem dL_law_12 : decode cL_law 12 = .ok (.invokespecial 101, 3) := by decide +kernel
theorem dL_law_15 : decode cL_law 15 = .ok (.astore_n 2, 1) := by decide +kernel
theorem dL_law_16 : decode cL_law 16 = .ok (.iconst 0, 1) := by decide +kernel
theorem dL_law_17 : decode cL_law 17 = .ok (.istore_n 3, 1) := by decide +kernel
theorem dL_law_18 : decode cL_law 18 = .ok (.iload_n 3, 1) := by decide +kernel
theorem dL_law_19 : decode cL_law 19 = .ok (.bipush 38, 2) := by decide +kernel
theorem dL_law_21 : decode cL_law 21 = .ok (.if_icmp .ge 83, 3) := by decide +kernel
theorem dL_law_24 : decode cL_law 24 = .ok (.aload_n 0, 1) := by decide +kernel
theorem dL_law_25 : decode cL_law 25 = .ok (.iconst 2, 1) := by decide +kernel
theorem dL_law_26 : decode cL_law 26 = .ok (.iload_n 3, 1) := by decide +kernel
theorem dL_law_27 : decode cL_law 27 = .ok (.imul, 1) := by decide +kernel
theorem dL_law_28 : decode cL_law 28 = .ok (.invokestatic 102, 3) := by decide +kernel
theorem dL_law_31 : decode cL_law 31 = .ok (.istore 4, 2) := by decide +kernel
theorem dL_law_33 : decode cL_law 33 = .ok (.aload_n 0, 1) := by decide +kernel
theorem dL_law_34 : decode cL_law 34 = .ok (.iconst 2, 1) := by decide +kernel
theorem dL_law_35 : decode cL_law 35 = .ok (.iload_n 3, 1) := by decide +kernel
theorem dL_law_36 : decode cL_law 36 = .ok (.imul, 1) := by decide +kernel
theorem dL_law_37 : decode cL_law 37 = .ok (.iconst 1, 1) := by decide +kernel
theorem dL_law_38 : decode cL_law 38 = .ok (.iadd, 1) := by decide +kernel
theorem dL_law_39 : decode cL_law 39 = .ok (.invokestatic 102, 3) := by decide +kernel
theorem dL_law_42 : decode cL_law 42 = .ok (.istore 5, 2) := by decide +kernel
theorem dL_law_44 : decode cL_law 44 = .ok (.iload 4, 2) := by decide +kernel
theorem dL_law_46 : decode cL_law 46 = .ok (.bipush 22, 2) := by decide +kernel
theorem dL_law_48 : decode cL_law 48 = .ok (.invokestatic 15, 3) := by decide +kernel
theorem dL_law_51 : decode cL_law 51 = .ok (.bipush 14, 2) := by decide +kernel
theorem dL_law_53 : decode cL_law 53 = .ok (.if_icmp .eq 22, 3) := by decide +kernel
theorem dL_law_56 : decode cL_law 56 = .ok (.aload_n 1, 1) := by decide +kernel
theorem dL_law_57 : decode cL_law 57 = .ok (.iload 4, 2) := by decide +kernel
theorem dL_law_59 : decode cL_law 59 = .ok (.iload 5, 2) := by decide +kernel
theorem dL_law_61 : decode cL_law 61 = .ok (.invokestatic 106, 3) := by decide +kernel
theorem dL_law_64 : decode cL_law 64 = .ok (.aload_n 2, 1) := by decide +kernel
theorem dL_law_65 : decode cL_law 65 = .ok (.iload 4, 2) := by decide +kernel
theorem dL_law_67 : decode cL_law 67 = .ok (.iload 5, 2) := by decide +kernel
theorem dL_law_69 : decode cL_law 69 = .ok (.invokestatic 106, 3) := by decide +kernel
theorem dL_law_72 : decode cL_law 72 = .ok (.if_icmp .ne 24, 3) := by decide +kernel
theorem dL_law_75 : decode cL_law 75 = .ok (.aload_n 1, 1) := by decide +kernel
theorem dL_law_76 : decode cL_law 76 = .ok (.invokestatic 108, 3) := by decide +kernel
theorem dL_law_79 : decode cL_law 79 = .ok (.ifCond .eq 17, 3) := by decide +kernel
theorem dL_law_82 : decode cL_law 82 = .ok (.aload_n 1, 1) := by decide +kernel
theorem dL_law_83 : decode cL_law 83 = .ok (.invokestatic 112, 3) := by decide +kernel
theorem dL_law_86 : decode cL_law 86 = .ok (.ifCond .eq 10, 3) := by decide +kernel
theorem dL_law_89 : decode cL_law 89 = .ok (.aload_n 1, 1) := by decide +kernel
theorem dL_law_90 : decode cL_law 90 = .ok (.invokestatic 115, 3) := by decide +kernel
theorem dL_law_93 : decode cL_law 93 = .ok (.ifCond .ne 5, 3) := by decide +kernel
theorem dL_law_96 : decode cL_law 96 = .ok (.iconst 0, 1) := by decide +kernel
theorem dL_law_97 : decode cL_law 97 = .ok (.ireturn, 1) := by decide +kernel
theorem dL_law_98 : decode cL_law 98 = .ok (.iinc 3 1, 3) := by decide +kernel
theorem dL_law_101 : decode cL_law 101 = .ok (.goto (-83), 3) := by decide +kernel
theorem dL_law_104 : decode cL_law 104 = .ok (.aload_n 1, 1) := by decide +kernel
theorem dL_law_105 : decode cL_law 105 = .ok (.aload_n 2, 1) := by decide +kernel
theorem dL_law_106 : decode cL_law 106 = .ok (.invokestatic 118, 3) := by decide +kernel
theorem dL_law_109 : decode cL_law 109 = .ok (.ireturn, 1) := by decide +kernel
abbrev rm_L_law : Room := room_1
def k_L_law (L : Nat) (xs : Nat → Int32) : List pEn := [oNew 8 [.null, .null, .null, .null, .null, .null, .int 0, .null, .int 0, .int 0] 0, oDup, oCallA 1 358 F_X8_init, oAstore 1, oNew 8 [.null, .null, .null, .null, .null, .null, .int 0, .null, .int 0, .int 0] 179, oDup, oCallA 1 358 F_X8_init, oAstore 2, oConst (0), oIstore 3, oIload 3, oConst (38), oCge 54, oAload 0, oConst (2), oIload 3, oMul, oCellS L xs, oIstore 4, oAload 0, oConst (2), oIload 3, oMul, oConst (1), oAdd, oCellS L xs, oIstore 5, oIload 4, oConst (22), oCallZ 2 F_L_low, oConst (14), oCeq 41, oAload 1, oIload 4, oIload 5, oCallZ 3 FBo_L_change, oAload 2, oIload 4, oIload 5, oCallZ 3 FBq_L_change, oCne 50, oAload 1, oCallZ 1 FBo_L_areAccounts, oIfeq 50, oAload 1, oCallZ 1 FBo_L_isLoop, oIfeq 50, oAload 1, oCallZ 1 FBo_L_isTick, oIfne 52, oConst (0), oZret, oIinc 3 (1), oGoto 10, oAload 1, oAload 2, oCallZ 2 F_L_areAlike, oZret]
def pc_L_law (i : Nat) : Nat := ([0, 3, 4, 7, 8, 11, 12, 15, 16, 17, 18, 19, 21, 24, 25, 26, 27, 28, 31, 33, 34, 35, 36, 37, 38, 39, 42, 44, 46, 48, 51, 53, 56, 57, 59, 61, 64, 65, 67, 69, 72, 75, 76, 79, 82, 83, 86, 89, 90, 93, 96, 97, 98, 101, 104, 105, 106, 109] : List Nat).getD i 0
set_option maxRecDepth 100000 in
set_option maxHeartbeats 8000000 in
theorem ok_k_L_law (L : Nat) (xs : Nat → Int32) (l : Launch) : ∀ (i : Nat) (en : pEn), (k_L_law L xs)[i]? = some en → EOKl L xs l cL_law yL_law.cls 6 (some FieldType.boolean) rm_L_law 358 pc_L_law i en := by
  refine allOK_at ?_
  refine And.intro (EOK.l (okNew (C := RX8) (T := TX8) (N := 10) dL_law_0 rfl rfl inX8 tyX8_ok wn_1_11 wm_1_13 wm_1_1 (by intro j hj; rcases (show j = 0 ∨ j = 1 ∨ j = 2 ∨ j = 3 ∨ j = 4 ∨ j = 5 ∨ j = 6 ∨ j = 7 ∨ j = 8 ∨ j = 9 by omega) with rfl | rfl | rfl | rfl | rfl | rfl | rfl | rfl | rfl | rfl <;> rfl) (fun _ => rfl) (by decide) (by decide))) ?_
  refine And.intro (EOK.l (okDup dL_law_3 rfl)) ?_
  refine And.intro (EOK.l (okCallI (y := yX8_init) (oCallA_is _ _ _) dL_law_4 rfl (ok_F_X8_init l) (fun _ _ _ _ h => frC_args h) wn_1_13 wm_1_15 wm_1_1 wm_1_16 rfl pl_X8_init (by decide))) ?_
  refine And.intro (EOK.l (okAstore_n dL_law_7 rfl rfl (by decide))) ?_
  refine And.intro (EOK.l (okNew (C := RX8) (T := TX8) (N := 10) dL_law_8 rfl rfl inX8 tyX8_ok wn_1_11 wm_1_13 wm_1_1 (by intro j hj; rcases (show j = 0 ∨ j = 1 ∨ j = 2 ∨ j = 3 ∨ j = 4 ∨ j = 5 ∨ j = 6 ∨ j = 7 ∨ j = 8 ∨ j = 9 by omega) with rfl | rfl | rfl | rfl | rfl | rfl | rfl | rfl | rfl | rfl <;> rfl) (fun _ => rfl) (by decide) (by decide))) ?_
  refine And.intro (EOK.l (okDup dL_law_11 rfl)) ?_
  refine And.intro (EOK.l (okCallI (y := yX8_init) (oCallA_is _ _ _) dL_law_12 rfl (ok_F_X8_init l) (fun _ _ _ _ h => frC_args h) wn_1_13 wm_1_15 wm_1_1 wm_1_16 rfl pl_X8_init (by decide))) ?_
  refine And.intro (EOK.l (okAstore_n dL_law_15 rfl rfl (by decide))) ?_
  refine And.intro (EOK.l (okIconst dL_law_16 rfl (by first | rfl | decide))) ?_
  refine And.intro (EOK.l (okIstore_n dL_law_17 rfl rfl (by decide))) ?_
  refine And.intro (EOK.l (okIload_n dL_law_18 rfl rfl)) ?_
  refine And.intro (EOK.l (okBipush dL_law_19 rfl (by first | rfl | decide))) ?_
  refine And.intro (EOK.l (okCge dL_law_21 rfl (by rfl))) ?_
  refine And.intro (EOK.l (okAload_n dL_law_24 rfl rfl)) ?_
  refine And.intro (EOK.l (okIconst dL_law_25 rfl (by first | rfl | decide))) ?_
  refine And.intro (EOK.l (okIload_n dL_law_26 rfl rfl)) ?_
  refine And.intro (EOK.l (okMul dL_law_27 rfl)) ?_
  refine And.intro (okCellS dL_law_28 rfl wn_2_62 wn_2_63 wm_1_0 wn_2_64 (by decide)) ?_
  refine And.intro (EOK.l (okIstore dL_law_31 rfl (by decide))) ?_
  refine And.intro (EOK.l (okAload_n dL_law_33 rfl rfl)) ?_
  refine And.intro (EOK.l (okIconst dL_law_34 rfl (by first | rfl | decide))) ?_
  refine And.intro (EOK.l (okIload_n dL_law_35 rfl rfl)) ?_
  refine And.intro (EOK.l (okMul dL_law_36 rfl)) ?_
  refine And.intro (EOK.l (okIconst dL_law_37 rfl (by first | rfl | decide))) ?_
  refine And.intro (EOK.l (okAdd dL_law_38 rfl)) ?_
  refine And.intro (okCellS dL_law_39 rfl wn_2_62 wn_2_63 wm_1_0 wn_2_64 (by decide)) ?_
  refine And.intro (EOK.l (okIstore dL_law_42 rfl (by decide))) ?_
  refine And.intro (EOK.l (okIload dL_law_44 rfl)) ?_
  refine And.intro (EOK.l (okBipush dL_law_46 rfl (by first | rfl | decide))) ?_
  refine And.intro (EOK.l (okCallS (y := yL_low) (oCallZ_is _ _ _) dL_law_48 rfl (ok_F_L_low l) wn_2_66 wn_2_67 wm_1_0 wn_2_68 pl_L_low (by decide))) ?_
  refine And.intro (EOK.l (okBipush dL_law_51 rfl (by first | rfl | decide))) ?_
  refine And.intro (EOK.l (okCeq dL_law_53 rfl (by rfl))) ?_
  refine And.intro (EOK.l (okAload_n dL_law_56 rfl rfl)) ?_
  refine And.intro (EOK.l (okIload dL_law_57 rfl)) ?_
  refine And.intro (EOK.l (okIload dL_law_59 rfl)) ?_
  refine And.intro (EOK.l (okCallS (y := yL_change) (oCallZ_is _ _ _) dL_law_61 rfl (ok_FBo_L_change l) wn_2_70 wn_2_71 wm_1_0 wn_2_72 pl_L_change (by decide))) ?_
  refine And.intro (EOK.l (okAload_n dL_law_64 rfl rfl)) ?_
  refine And.intro (EOK.l (okIload dL_law_65 rfl)) ?_
  refine And.intro (EOK.l (okIload dL_law_67 rfl)) ?_
  refine And.intro (EOK.l (okCallS (y := yL_change) (oCallZ_is _ _ _) dL_law_69 rfl (ok_FBq_L_change l) wn_2_70 wn_2_71 wm_1_0 wn_2_72 pl_L_change (by decide))) ?_
  refine And.intro (EOK.l (okCne dL_law_72 rfl (by rfl))) ?_
  refine And.intro (EOK.l (okAload_n dL_law_75 rfl rfl)) ?_
  refine And.intro (EOK.l (okCallS (y := yL_areAccounts) (oCallZ_is _ _ _) dL_law_76 rfl (ok_FBo_L_areAccounts l) wn_3_88 wn_3_89 wm_1_0 wn_3_90 pl_L_areAccounts (by decide))) ?_
  refine And.intro (EOK.l (okIfeq dL_law_79 rfl (by rfl))) ?_
  refine And.intro (EOK.l (okAload_n dL_law_82 rfl rfl)) ?_
  refine And.intro (EOK.l (okCallS (y := yL_isLoop) (oCallZ_is _ _ _) dL_law_83 rfl (ok_FBo_L_isLoop l) wn_3_117 wn_3_118 wm_1_0 wn_3_119 pl_L_isLoop (by decide))) ?_
  refine And.intro (EOK.l (okIfeq dL_law_86 rfl (by rfl))) ?_
  refine And.intro (EOK.l (okAload_n dL_law_89 rfl rfl)) ?_
  refine And.intro (EOK.l (okCallS (y := yL_isTick) (oCallZ_is _ _ _) dL_law_90 rfl (ok_FBo_L_isTick l) wn_3_136 wn_3_137 wm_1_0 wn_3_138 pl_L_isTick (by decide))) ?_
  refine And.intro (EOK.l (okIfne dL_law_93 rfl (by rfl))) ?_
  refine And.intro (EOK.l (okIconst dL_law_96 rfl (by first | rfl | decide))) ?_
  refine And.intro (EOK.l (okZret dL_law_97 rfl)) ?_
  refine And.intro (EOK.l (okIinc dL_law_98 rfl (by first | rfl | decide) (by decide))) ?_
  refine And.intro (EOK.l (okGoto dL_law_101 (by rfl))) ?_
  refine And.intro (EOK.l (okAload_n dL_law_104 rfl rfl)) ?_
  refine And.intro (EOK.l (okAload_n dL_law_105 rfl rfl)) ?_
  refine And.intro (EOK.l (okCallS (y := yL_areAlike) (oCallZ_is _ _ _) dL_law_106 rfl (ok_F_L_areAlike l) wn_3_147 wn_3_148 wm_1_0 wn_3_149 pl_L_areAlike (by decide))) ?_
  refine And.intro (EOK.l (okZret dL_law_109 rfl)) ?_
  exact trivial
end
