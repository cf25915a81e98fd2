noncomputable section
def shT (v : pLV) : Int32 := mnI (v 1 2) (v 0 19 + v 0 20)
def shF (v : pLV) : Int32 := tkR (v 0 19) (v 0 20) (shT v)
def shU (v : pLV) : pLV := vS (vS v 19 (v 0 19 - shF v)) 20 (tkG (v 0 19) (v 0 20) (shT v))
def shB (v : pLV) : pLV := vS (vS (vS (shU v) 6 (v 0 6 + 1)) 26 (v 0 26 + shF v)) 4 (v 0 1)
/-- whether what comes from the sheet is spilled -/
def shS (v : pLV) : Int32 := if shF v + v 1 7 ≤ v 0 31 - v 0 13 - v 0 14 then 0 else 1
def shtV (v : pLV) : pLV := if v 0 2 = 0 then (if v 0 3 = 0 then cpV (NL (shU v)) (shF v) else pourV 1 (NL (shB v)) (shF v) (v 1 7)) else pourV 1 (NL (shB v)) (shF v) (v 1 7)
def shtZ (v : pLV) : Int32 := if v 0 2 = 0 then (if v 0 3 = 0 then 0 else shS v) else shS v
theorem dX5_makeSheet_0 : decode cX5_makeSheet 0 = .ok (.aload_n 0, 1) := by decide +kernel
theorem dX5_makeSheet_1 : decode cX5_makeSheet 1 = .ok (.getfield 48, 3) := by decide +kernel
theorem dX5_makeSheet_4 : decode cX5_makeSheet 4 = .ok (.aload_n 0, 1) := by decide +kernel
theorem dX5_makeSheet_5 : decode cX5_makeSheet 5 = .ok (.getfield 48, 3) := by decide +kernel
theorem dX5_makeSheet_8 : decode cX5_makeSheet 8 = .ok (.aload_n 0, 1) := by decide +kernel
theorem dX5_makeSheet_9 : decode cX5_makeSheet 9 = .ok (.getfield 72, 3) := by decide +kernel
theorem dX5_makeSheet_12 : decode cX5_makeSheet 12 = .ok (.iconst 2, 1) := by decide +kernel
theorem dX5_makeSheet_13 : decode cX5_makeSheet 13 = .ok (.iaload, 1) := by decide +kernel
theorem dX5_makeSheet_14 : decode cX5_makeSheet 14 = .ok (.invokevirtual 189, 3) := by decide +kernel
theorem dX5_makeSheet_17 : decode cX5_makeSheet 17 = .ok (.invokevirtual 193, 3) := by decide +kernel
theorem dX5_makeSheet_20 : decode cX5_makeSheet 20 = .ok (.istore_n 1, 1) := by decide +kernel
theorem dX5_makeSheet_21 : decode cX5_makeSheet 21 = .ok (.aload_n 0, 1) := by decide +kernel
theorem dX5_makeSheet_22 : decode cX5_makeSheet 22 = .ok (.getfield 18, 3) := by decide +kernel
theorem dX5_makeSheet_25 : decode cX5_makeSheet 25 = .ok (.ifCond .ne 17, 3) := by decide +kernel
theorem dX5_makeSheet_28 : decode cX5_makeSheet 28 = .ok (.aload_n 0, 1) := by decide +kernel
theorem dX5_makeSheet_29 : decode cX5_makeSheet 29 = .ok (.getfield 21, 3) := by decide +kernel
theorem dX5_makeSheet_32 : decode cX5_makeSheet 32 = .ok (.ifCond .ne 10, 3) := by decide +kernel
theorem dX5_makeSheet_35 : decode cX5_makeSheet 35 = .ok (.aload_n 0, 1) := by decide +kernel
theorem dX5_makeSheet_36 : decode cX5_makeSheet 36 = .ok (.iload_n 1, 1) := by decide +kernel
theorem dX5_makeSheet_37 : decode cX5_makeSheet 37 = .ok (.invokevirtual 203, 3) := by decide +kernel
theorem dX5_makeSheet_40 : decode cX5_makeSheet 40 = .ok (.iconst 0, 1) := by decide +kernel
theorem dX5_makeSheet_41 : decode cX5_makeSheet 41 = .ok (.ireturn, 1) := by decide +kernel
theorem dX5_makeSheet_42 : decode cX5_makeSheet 42 = .ok (.aload_n 0, 1) := by decide +kernel
theorem dX5_makeSheet_43 : decode cX5_makeSheet 43 = .ok (.dup, 1) := by decide +kernel
theorem dX5_makeSheet_44 : decode cX5_makeSheet 44 = .ok (.getfield 30, 3) := by decide +kernel
theorem dX5_makeSheet_47 : decode cX5_makeSheet 47 = .ok (.iconst 1, 1) := by decide +kernel
theorem dX5_makeSheet_48 : decode cX5_makeSheet 48 = .ok (.iadd, 1) := by decide +kernel
theorem dX5_makeSheet_49 : decode cX5_makeSheet 49 = .ok (.putfield 30, 3) := by decide +kernel
theorem dX5_makeSheet_52 : decode cX5_makeSheet 52 = .ok (.aload_n 0, 1) := by decide +kernel
theorem dX5_makeSheet_53 : decode cX5_makeSheet 53 = .ok (.getfield 54, 3) := by decide +kernel
theorem dX5_makeSheet_56 : decode cX5_makeSheet 56 = .ok (.dup, 1) := by decide +kernel
theorem dX5_makeSheet_57 : decode cX5_makeSheet 57 = .ok (.getfield 206, 3) := by decide +kernel
theorem dX5_makeSheet_60 : decode cX5_makeSheet 60 = .ok (.iload_n 1, 1) := by decide +kernel
theorem dX5_makeSheet_61 : decode cX5_makeSheet 61 = .ok (.iadd, 1) := by decide +kernel
theorem dX5_makeSheet_62 : decode cX5_makeSheet 62 = .ok (.putfield 206, 3) := by decide +kernel
theorem dX5_makeSheet_65 : decode cX5_makeSheet 65 = .ok (.aload_n 0, 1) := by decide +kernel
theorem dX5_makeSheet_66 : decode cX5_makeSheet 66 = .ok (.aload_n 0, 1) := by decide +kernel
theorem dX5_makeSheet_67 : decode cX5_makeSheet 67 = .ok (.getfield 15, 3) := by decide +kernel
theorem dX5_makeSheet_70 : decode cX5_makeSheet 70 = .ok (.putfield 24, 3) := by decide +kernel
theorem dX5_makeSheet_73 : decode cX5_makeSheet 73 = .ok (.iload_n 1, 1) := by decide +kernel
theorem dX5_makeSheet_74 : decode cX5_makeSheet 74 = .ok (.aload_n 0, 1) := by decide +kernel
theorem dX5_makeSheet_75 : decode cX5_makeSheet 75 = .ok (.getfield 72, 3) := by decide +kernel
theorem dX5_makeSheet_78 : decode cX5_makeSheet 78 = .ok (.bipush 7, 2) := by decide +kernel
theorem dX5_makeSheet_80 : decode cX5_makeSheet 80 = .ok (.iaload, 1) := by decide +kernel
theorem dX5_makeSheet_81 : decode cX5_makeSheet 81 = .ok (.iadd, 1) := by decide +kernel
theorem dX5_makeSheet_82 : decode cX5_makeSheet 82 = .ok (.aload_n 0, 1) := by decide +kernel
theorem dX5_makeSheet_83 : decode cX5_makeSheet 83 = .ok (.getfield 42, 3) := by decide +kernel
theorem dX5_makeSheet_86 : decode cX5_makeSheet 86 = .ok (.invokevirtual 183, 3) := by decide +kernel
theorem dX5_makeSheet_89 : decode cX5_makeSheet 89 = .ok (.if_icmp .le 7, 3) := by decide +kernel
theorem dX5_makeSheet_92 : decode cX5_makeSheet 92 = .ok (.iconst 1, 1) := by decide +kernel
theorem dX5_makeSheet_93 : decode cX5_makeSheet 93 = .ok (.goto 4, 3) := by decide +kernel
theorem dX5_makeSheet_96 : decode cX5_makeSheet 96 = .ok (.iconst 0, 1) := by decide +kernel
theorem dX5_makeSheet_97 : decode cX5_makeSheet 97 = .ok (.istore_n 2, 1) := by decide +kernel
theorem dX5_makeSheet_98 : decode cX5_makeSheet 98 = .ok (.aload_n 0, 1) := by decide +kernel
theorem dX5_makeSheet_99 : decode cX5_makeSheet 99 = .ok (.aload_n 0, 1) := by decide +kernel
theorem dX5_makeSheet_100 : decode cX5_makeSheet 100 = .ok (.getfield 42, 3) := by decide +kernel
theorem dX5_makeSheet_103 : decode cX5_makeSheet 103 = .ok (.iload_n 1, 1) := by decide +kernel
theorem dX5_makeSheet_104 : decode cX5_makeSheet 104 = .ok (.aload_n 0, 1) := by decide +kernel
theorem dX5_makeSheet_105 : decode cX5_makeSheet 105 = .ok (.getfield 72, 3) := by decide +kernel
theorem dX5_makeSheet_108 : decode cX5_makeSheet 108 = .ok (.bipush 7, 2) := by decide +kernel
theorem dX5_makeSheet_110 : decode cX5_makeSheet 110 = .ok (.iaload, 1) := by decide +kernel
theorem dX5_makeSheet_111 : decode cX5_makeSheet 111 = .ok (.invokevirtual 136, 3) := by decide +kernel
theorem dX5_makeSheet_114 : decode cX5_makeSheet 114 = .ok (.pop, 1) := by decide +kernel
theorem dX5_makeSheet_115 : decode cX5_makeSheet 115 = .ok (.iload_n 2, 1) := by decide +kernel
theorem dX5_makeSheet_116 : decode cX5_makeSheet 116 = .ok (.ireturn, 1) := by decide +kernel
def k_X5_makeSheet : List pEn := [oAload 0, oGet 5 10, oAload 0, oGet 5 10, oAload 0, oGet 5 14, oConst (2), oIaldN 2, oCall 2 F_X1_there, oCall 2 F_X1_takeOut, oIstore 1, oAload 0, oGet 5 2, oIfne 22, oAload 0, oGet 5 3, oIfne 22, oAload 0, oIload 1, oCallZ 2 F_X5_countPaper, oConst (0), oZret, oAload 0, oDup, oGet 5 6, oConst (1), oAdd, oPut 5 6, oAload 0, oGet 5 11, oDup, oGet 0 4, oIload 1, oAdd, oPut 0 4, oAload 0, oAload 0, oGet 5 1, oPut 5 4, oIload 1, oAload 0, oGet 5 14, oConst (7), oIaldN 7, oAdd, oAload 0, oGet 5 8, oCall 1 F_X1_missing, oCle 51, oConst (1), oGoto 52, oConst (0), oIstore 2, oAload 0, oAload 0, oGet 5 8, oIload 1, oAload 0, oGet 5 14, oConst (7), oIaldN 7, oCallZ 4 F_X5_pour, oPop, oIload 2, oZret]
def pc_X5_makeSheet (i : Nat) : Nat := ([0, 1, 4, 5, 8, 9, 12, 13, 14, 17, 20, 21, 22, 25, 28, 29, 32, 35, 36, 37, 40, 41, 42, 43, 44, 47, 48, 49, 52, 53, 56, 57, 60, 61, 62, 65, 66, 67, 70, 73, 74, 75, 78, 80, 81, 82, 83, 86, 89, 92, 93, 96, 97, 98, 99, 100, 103, 104, 105, 108, 110, 111, 114, 115, 116] : List Nat).getD i 0
abbrev rm_X5_makeSheet : Room := { frames := 3, cells := 0, slots := 0, locals := 70 }
theorem pl_X5_makeSheet : pPlain yX5_makeSheet 0 := by decide +kernel
set_option maxRecDepth 100000 in
set_option maxHeartbeats 4000000 in
theorem ok_k_X5_makeSheet (l : Launch) : ∀ (i : Nat) (en : pEn), k_X5_makeSheet[i]? = some en → EOK l cX5_makeSheet yX5_makeSheet.cls 3 ((some FieldType.boolean)) rm_X5_makeSheet 0 pc_X5_makeSheet i en := by
  refine allOK_at ?_
  refine And.intro (okAload_n dX5_makeSheet_0 rfl rfl) ?_
  refine And.intro (okGet (C := RX5) (T := TX5) (N := 15) dX5_makeSheet_1 rfl rfl (by decide) inX5 wm_1_170) ?_
  refine And.intro (okAload_n dX5_makeSheet_4 rfl rfl) ?_
  refine And.intro (okGet (C := RX5) (T := TX5) (N := 15) dX5_makeSheet_5 rfl rfl (by decide) inX5 wm_1_170) ?_
  refine And.intro (okAload_n dX5_makeSheet_8 rfl rfl) ?_
  refine And.intro (okGet (C := RX5) (T := TX5) (N := 15) dX5_makeSheet_9 rfl rfl (by decide) inX5 wm_1_178) ?_
  refine And.intro (okIconst dX5_makeSheet_12 rfl (by first | rfl | decide)) ?_
  refine And.intro (okIaldN dX5_makeSheet_13 rfl) ?_
  refine And.intro (okCallV (y := yX1_there) (T := TX1) (oCall_is _ _ _) dX5_makeSheet_14 rfl (ok_F_X1_there l) rc_F_X1_there rfl wm_3_1 wm_2_151 wm_2_152 wm_1_3 wm_2_153 pl_X1_there (by decide)) ?_
  refine And.intro (okCallV (y := yX1_takeOut) (T := TX1) (oCall_is _ _ _) dX5_makeSheet_17 rfl (ok_F_X1_takeOut l) rc_F_X1_takeOut rfl wm_3_2 wm_2_143 wm_2_144 wm_1_3 wm_2_145 pl_X1_takeOut (by decide)) ?_
  refine And.intro (okIstore_n dX5_makeSheet_20 rfl rfl (by decide)) ?_
  refine And.intro (okAload_n dX5_makeSheet_21 rfl rfl) ?_
  refine And.intro (okGet (C := RX5) (T := TX5) (N := 15) dX5_makeSheet_22 rfl rfl (by decide) inX5 wm_1_156) ?_
  refine And.intro (okIfne dX5_makeSheet_25 rfl (by rfl)) ?_
  refine And.intro (okAload_n dX5_makeSheet_28 rfl rfl) ?_
  refine And.intro (okGet (C := RX5) (T := TX5) (N := 15) dX5_makeSheet_29 rfl rfl (by decide) inX5 wm_1_158) ?_
  refine And.intro (okIfne dX5_makeSheet_32 rfl (by rfl)) ?_
  refine And.intro (okAload_n dX5_makeSheet_35 rfl rfl) ?_
  refine And.intro (okIload_n dX5_makeSheet_36 rfl rfl) ?_
  refine And.intro (okCallV (y := yX5_countPaper) (T := TX5) (oCallZ_is _ _ _) dX5_makeSheet_37 rfl (ok_F_X5_countPaper l) rc_F_X5_countPaper rfl wm_3_29 wm_3_31 wp_12 wm_1_2 wm_3_32 pl_X5_countPaper (by decide)) ?_
  refine And.intro (okIconst dX5_makeSheet_40 rfl (by first | rfl | decide)) ?_
  refine And.intro (okZret dX5_makeSheet_41 rfl) ?_
  refine And.intro (okAload_n dX5_makeSheet_42 rfl rfl) ?_
  refine And.intro (okDup dX5_makeSheet_43 rfl) ?_
  refine And.intro (okGet (C := RX5) (T := TX5) (N := 15) dX5_makeSheet_44 rfl rfl (by decide) inX5 wm_1_164) ?_
  refine And.intro (okIconst dX5_makeSheet_47 rfl (by first | rfl | decide)) ?_
  refine And.intro (okAdd dX5_makeSheet_48 rfl) ?_
  refine And.intro (okPut (C := RX5) (T := TX5) (N := 15) dX5_makeSheet_49 rfl rfl (by decide) inX5 tyX5_ok nmX5 rfl rfl wm_1_164) ?_
  refine And.intro (okAload_n dX5_makeSheet_52 rfl rfl) ?_
  refine And.intro (okGet (C := RX5) (T := TX5) (N := 15) dX5_makeSheet_53 rfl rfl (by decide) inX5 wm_1_172) ?_
  refine And.intro (okDup dX5_makeSheet_56 rfl) ?_
  refine And.intro (okGet (C := RX0) (T := TX0) (N := 6) dX5_makeSheet_57 rfl rfl (by decide) inX0 wm_1_66) ?_
  refine And.intro (okIload_n dX5_makeSheet_60 rfl rfl) ?_
  refine And.intro (okAdd dX5_makeSheet_61 rfl) ?_
  refine And.intro (okPut (C := RX0) (T := TX0) (N := 6) dX5_makeSheet_62 rfl rfl (by decide) inX0 tyX0_ok nmX0 rfl rfl wm_1_66) ?_
  refine And.intro (okAload_n dX5_makeSheet_65 rfl rfl) ?_
  refine And.intro (okAload_n dX5_makeSheet_66 rfl rfl) ?_
  refine And.intro (okGet (C := RX5) (T := TX5) (N := 15) dX5_makeSheet_67 rfl rfl (by decide) inX5 wm_1_154) ?_
  refine And.intro (okPut (C := RX5) (T := TX5) (N := 15) dX5_makeSheet_70 rfl rfl (by decide) inX5 tyX5_ok nmX5 rfl rfl wm_1_160) ?_
  refine And.intro (okIload_n dX5_makeSheet_73 rfl rfl) ?_
  refine And.intro (okAload_n dX5_makeSheet_74 rfl rfl) ?_
  refine And.intro (okGet (C := RX5) (T := TX5) (N := 15) dX5_makeSheet_75 rfl rfl (by decide) inX5 wm_1_178) ?_
  refine And.intro (okBipush dX5_makeSheet_78 rfl (by first | rfl | decide)) ?_
  refine And.intro (okIaldN dX5_makeSheet_80 rfl) ?_
  refine And.intro (okAdd dX5_makeSheet_81 rfl) ?_
  refine And.intro (okAload_n dX5_makeSheet_82 rfl rfl) ?_
  refine And.intro (okGet (C := RX5) (T := TX5) (N := 15) dX5_makeSheet_83 rfl rfl (by decide) inX5 wm_1_167) ?_
  refine And.intro (okCallV (y := yX1_missing) (T := TX1) (oCall_is _ _ _) dX5_makeSheet_86 rfl (ok_F_X1_missing l) rc_F_X1_missing rfl wm_2_236 wm_2_237 wm_2_238 wm_1_3 wm_2_239 pl_X1_missing (by decide)) ?_
  refine And.intro (okCle dX5_makeSheet_89 rfl (by rfl)) ?_
  refine And.intro (okIconst dX5_makeSheet_92 rfl (by first | rfl | decide)) ?_
  refine And.intro (okGoto dX5_makeSheet_93 (by rfl)) ?_
  refine And.intro (okIconst dX5_makeSheet_96 rfl (by first | rfl | decide)) ?_
  refine And.intro (okIstore_n dX5_makeSheet_97 rfl rfl (by decide)) ?_
  refine And.intro (okAload_n dX5_makeSheet_98 rfl rfl) ?_
  refine And.intro (okAload_n dX5_makeSheet_99 rfl rfl) ?_
  refine And.intro (okGet (C := RX5) (T := TX5) (N := 15) dX5_makeSheet_100 rfl rfl (by decide) inX5 wm_1_167) ?_
  refine And.intro (okIload_n dX5_makeSheet_103 rfl rfl) ?_
  refine And.intro (okAload_n dX5_makeSheet_104 rfl rfl) ?_
  refine And.intro (okGet (C := RX5) (T := TX5) (N := 15) dX5_makeSheet_105 rfl rfl (by decide) inX5 wm_1_178) ?_
  refine And.intro (okBipush dX5_makeSheet_108 rfl (by first | rfl | decide)) ?_
  refine And.intro (okIaldN dX5_makeSheet_110 rfl) ?_
  refine And.intro (okCallV (y := yX5_pour) (T := TX5) (oCallZ_is _ _ _) dX5_makeSheet_111 rfl (ok_F_X5_pour l) rc_F_X5_pour rfl wm_2_231 wm_2_135 wm_2_136 wm_1_2 wm_2_137 pl_X5_pour (by decide)) ?_
  refine And.intro (okPop dX5_makeSheet_114 rfl) ?_
  refine And.intro (okIload_n dX5_makeSheet_115 rfl rfl) ?_
  refine And.intro (okZret dX5_makeSheet_116 rfl) ?_
  exact trivial
def G_X5_makeSheet : pG := fun args w => match args with
  | [.ref 0] => unL 0 w (fun v => some (some (.int (shtZ v)), loopCells 0 (shtV v)))
  | _ => none
set_option maxHeartbeats 400000 in
set_option maxRecDepth 100000 in
theorem run_X5_makeSheet (rg : pRg) (v : pLV)  : ∃ fu, ex k_X5_makeSheet fu 0 [(0, .ref 0)] [] (loopCells 0 v) rg = some (some (.int (shtZ v)), loopCells 0 (shtV v), rg) := by
  refine ⟨60, ?_⟩
  conv => lhs; whnf
  refine pif_c (fun h => ?_) (fun h => ?_)
  · conv => lhs; whnf
    refine pif_c (fun h2 => ?_) (fun h2 => ?_)
    · conv => lhs; whnf
      refine (callK_v (cl_X5_countPaper (shU v) (shF v) rg) rfl).trans ?_
      conv => lhs; whnf
      refine (pif_t (by decide)).trans ?_
      simp only [shtV, shtZ, if_pos h, if_pos h2] <;> rfl
    · conv => lhs; whnf
      refine pif_c (fun h3 => ?_) (fun h3 => ?_)
      · have e : shS v = 0 := if_pos h3
        conv => lhs; whnf
        refine (callK_r (cl_X5_pour1 (shB v) (shF v) (v 1 7) rg) rfl).trans ?_
        conv => lhs; whnf
        refine (pif_t (by decide)).trans ?_
        simp only [shtV, shtZ, if_pos h, if_neg h2, e] <;> rfl
      · have e : shS v = 1 := if_neg h3
        conv => lhs; whnf
        refine (callK_r (cl_X5_pour1 (shB v) (shF v) (v 1 7) rg) rfl).trans ?_
        conv => lhs; whnf
        refine (pif_t (by decide)).trans ?_
        simp only [shtV, shtZ, if_pos h, if_neg h2, e] <;> rfl
  · conv => lhs; whnf
    refine pif_c (fun h3 => ?_) (fun h3 => ?_)
    · have e : shS v = 0 := if_pos h3
      conv => lhs; whnf
      refine (callK_r (cl_X5_pour1 (shB v) (shF v) (v 1 7) rg) rfl).trans ?_
      conv => lhs; whnf
      refine (pif_t (by decide)).trans ?_
      simp only [shtV, shtZ, if_neg h, e] <;> rfl
    · have e : shS v = 1 := if_neg h3
      conv => lhs; whnf
      refine (callK_r (cl_X5_pour1 (shB v) (shF v) (v 1 7) rg) rfl).trans ?_
      conv => lhs; whnf
      refine (pif_t (by decide)).trans ?_
      simp only [shtV, shtZ, if_neg h, e] <;> rfl
theorem ct_X5_makeSheet (l : Launch) : ∀ args0 w0 v0 w1 rg, G_X5_makeSheet args0 w0 = some (v0, w1) → pCT l yX5_makeSheet (pWs yX5_makeSheet cX5_makeSheet 3 ((some FieldType.boolean))) rm_X5_makeSheet args0 w0 rg (v0, w1, rg) := by
  intro args0 w0 v0 w1 rg h
  unfold G_X5_makeSheet at h
  split at h
  next  =>
    obtain ⟨v, hw, h2⟩ := unL_some h
    clear h
    subst hw
    cases h2
    exact met_of_exL (by decide) (ok_k_X5_makeSheet l) rfl (run_X5_makeSheet rg v ) (Nat.le_of_ble_eq_true rfl) rfl rfl
  next => cases h
def F_X5_makeSheet : pF := fz (faN G_X5_makeSheet)
theorem ok_F_X5_makeSheet (l : Launch) : pFOK l yX5_makeSheet (pWs yX5_makeSheet cX5_makeSheet 3 ((some FieldType.boolean))) rm_X5_makeSheet F_X5_makeSheet := pFOK_fz (pFOK_fa (fun a b c d rg h => ct_X5_makeSheet l a b c d rg h))
theorem rc_F_X5_makeSheet : pRcv 5 F_X5_makeSheet := pRcv_fz (pRcv_fa (fun a b c d h => by
  unfold G_X5_makeSheet at h
  split at h
  next =>
    obtain ⟨v, rfl, h⟩ := unL_some h
    exact ⟨_, _, _, rfl, rfl⟩
  next => cases h))
theorem cl_X5_makeSheet (v : pLV)  (rg : pRg) : F_X5_makeSheet [.ref 0] (loopCells 0 v) rg = some (some (.int (shtZ (NL v))), loopCells 0 (shtV (NL v)), rg) := (fz_eq _ _ _ _).trans rfl
end
