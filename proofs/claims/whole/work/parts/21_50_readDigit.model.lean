noncomputable section
theorem iwR_01 (m : pLV) : iwR m = 0 ∨ iwR m = 1 := by
  unfold iwR
  split
  · exact inI_01 _ _ _
  · split
    · exact inI_01 _ _ _
    · split
      · exact inI_01 _ _ _
      · exact inI_01 _ _ _
def rdS (x : pLV) (k : Int32) : pLV := vS (vS x 20 (10 * x 0 20 + x 4 k.toNatClampNeg - 48)) 18 (x 0 18 + 1)
def rdA (m : pLV) (k : Int32) : pLV := rdS (vS (vS (vS (vS m 17 (m 0 17 + 1)) 18 0) 20 0) 19 k) k
def rdN (m : pLV) (k : Int32) : pLV := if m 0 17 = 1 then rdA m k else if m 0 17 = 3 then rdA m k else rdS m k
def rdgM (m : pLV) (k : Int32) : pLV := if m 0 17 = 0 then faM (NM m) 1 k else if m 0 18 = 4 then (if m 0 17 = 2 then faM (NM m) 1 k else if m 0 17 = 4 then faM (NM m) 1 k else rdN m k) else rdN m k
theorem dX9_readDigit_0 : decode cX9_readDigit 0 = .ok (.aload_n 0, 1) := by decide +kernel
theorem dX9_readDigit_1 : decode cX9_readDigit 1 = .ok (.getfield 107, 3) := by decide +kernel
theorem dX9_readDigit_4 : decode cX9_readDigit 4 = .ok (.ifCond .eq 27, 3) := by decide +kernel
theorem dX9_readDigit_7 : decode cX9_readDigit 7 = .ok (.aload_n 0, 1) := by decide +kernel
theorem dX9_readDigit_8 : decode cX9_readDigit 8 = .ok (.getfield 119, 3) := by decide +kernel
theorem dX9_readDigit_11 : decode cX9_readDigit 11 = .ok (.iconst 4, 1) := by decide +kernel
theorem dX9_readDigit_12 : decode cX9_readDigit 12 = .ok (.if_icmp .ne 26, 3) := by decide +kernel
theorem dX9_readDigit_15 : decode cX9_readDigit 15 = .ok (.aload_n 0, 1) := by decide +kernel
theorem dX9_readDigit_16 : decode cX9_readDigit 16 = .ok (.getfield 107, 3) := by decide +kernel
theorem dX9_readDigit_19 : decode cX9_readDigit 19 = .ok (.iconst 2, 1) := by decide +kernel
theorem dX9_readDigit_20 : decode cX9_readDigit 20 = .ok (.if_icmp .eq 11, 3) := by decide +kernel
theorem dX9_readDigit_23 : decode cX9_readDigit 23 = .ok (.aload_n 0, 1) := by decide +kernel
theorem dX9_readDigit_24 : decode cX9_readDigit 24 = .ok (.getfield 107, 3) := by decide +kernel
theorem dX9_readDigit_27 : decode cX9_readDigit 27 = .ok (.iconst 4, 1) := by decide +kernel
theorem dX9_readDigit_28 : decode cX9_readDigit 28 = .ok (.if_icmp .ne 10, 3) := by decide +kernel
theorem dX9_readDigit_31 : decode cX9_readDigit 31 = .ok (.aload_n 0, 1) := by decide +kernel
theorem dX9_readDigit_32 : decode cX9_readDigit 32 = .ok (.iconst 1, 1) := by decide +kernel
theorem dX9_readDigit_33 : decode cX9_readDigit 33 = .ok (.iload_n 1, 1) := by decide +kernel
theorem dX9_readDigit_34 : decode cX9_readDigit 34 = .ok (.invokevirtual 116, 3) := by decide +kernel
theorem dX9_readDigit_37 : decode cX9_readDigit 37 = .ok (.return_, 1) := by decide +kernel
theorem dX9_readDigit_38 : decode cX9_readDigit 38 = .ok (.aload_n 0, 1) := by decide +kernel
theorem dX9_readDigit_39 : decode cX9_readDigit 39 = .ok (.getfield 107, 3) := by decide +kernel
theorem dX9_readDigit_42 : decode cX9_readDigit 42 = .ok (.iconst 1, 1) := by decide +kernel
theorem dX9_readDigit_43 : decode cX9_readDigit 43 = .ok (.if_icmp .eq 11, 3) := by decide +kernel
theorem dX9_readDigit_46 : decode cX9_readDigit 46 = .ok (.aload_n 0, 1) := by decide +kernel
theorem dX9_readDigit_47 : decode cX9_readDigit 47 = .ok (.getfield 107, 3) := by decide +kernel
theorem dX9_readDigit_50 : decode cX9_readDigit 50 = .ok (.iconst 3, 1) := by decide +kernel
theorem dX9_readDigit_51 : decode cX9_readDigit 51 = .ok (.if_icmp .ne 28, 3) := by decide +kernel
theorem dX9_readDigit_54 : decode cX9_readDigit 54 = .ok (.aload_n 0, 1) := by decide +kernel
theorem dX9_readDigit_55 : decode cX9_readDigit 55 = .ok (.dup, 1) := by decide +kernel
theorem dX9_readDigit_56 : decode cX9_readDigit 56 = .ok (.getfield 107, 3) := by decide +kernel
theorem dX9_readDigit_59 : decode cX9_readDigit 59 = .ok (.iconst 1, 1) := by decide +kernel
theorem dX9_readDigit_60 : decode cX9_readDigit 60 = .ok (.iadd, 1) := by decide +kernel
theorem dX9_readDigit_61 : decode cX9_readDigit 61 = .ok (.putfield 107, 3) := by decide +kernel
theorem dX9_readDigit_64 : decode cX9_readDigit 64 = .ok (.aload_n 0, 1) := by decide +kernel
theorem dX9_readDigit_65 : decode cX9_readDigit 65 = .ok (.iconst 0, 1) := by decide +kernel
theorem dX9_readDigit_66 : decode cX9_readDigit 66 = .ok (.putfield 119, 3) := by decide +kernel
theorem dX9_readDigit_69 : decode cX9_readDigit 69 = .ok (.aload_n 0, 1) := by decide +kernel
theorem dX9_readDigit_70 : decode cX9_readDigit 70 = .ok (.iconst 0, 1) := by decide +kernel
theorem dX9_readDigit_71 : decode cX9_readDigit 71 = .ok (.putfield 110, 3) := by decide +kernel
theorem dX9_readDigit_74 : decode cX9_readDigit 74 = .ok (.aload_n 0, 1) := by decide +kernel
theorem dX9_readDigit_75 : decode cX9_readDigit 75 = .ok (.iload_n 1, 1) := by decide +kernel
theorem dX9_readDigit_76 : decode cX9_readDigit 76 = .ok (.putfield 113, 3) := by decide +kernel
theorem dX9_readDigit_79 : decode cX9_readDigit 79 = .ok (.aload_n 0, 1) := by decide +kernel
theorem dX9_readDigit_80 : decode cX9_readDigit 80 = .ok (.bipush 10, 2) := by decide +kernel
theorem dX9_readDigit_82 : decode cX9_readDigit 82 = .ok (.aload_n 0, 1) := by decide +kernel
theorem dX9_readDigit_83 : decode cX9_readDigit 83 = .ok (.getfield 110, 3) := by decide +kernel
theorem dX9_readDigit_86 : decode cX9_readDigit 86 = .ok (.imul, 1) := by decide +kernel
theorem dX9_readDigit_87 : decode cX9_readDigit 87 = .ok (.aload_n 0, 1) := by decide +kernel
theorem dX9_readDigit_88 : decode cX9_readDigit 88 = .ok (.getfield 19, 3) := by decide +kernel
theorem dX9_readDigit_91 : decode cX9_readDigit 91 = .ok (.iload_n 1, 1) := by decide +kernel
theorem dX9_readDigit_92 : decode cX9_readDigit 92 = .ok (.iaload, 1) := by decide +kernel
theorem dX9_readDigit_93 : decode cX9_readDigit 93 = .ok (.iadd, 1) := by decide +kernel
theorem dX9_readDigit_94 : decode cX9_readDigit 94 = .ok (.bipush 48, 2) := by decide +kernel
theorem dX9_readDigit_96 : decode cX9_readDigit 96 = .ok (.isub, 1) := by decide +kernel
theorem dX9_readDigit_97 : decode cX9_readDigit 97 = .ok (.putfield 110, 3) := by decide +kernel
theorem dX9_readDigit_100 : decode cX9_readDigit 100 = .ok (.aload_n 0, 1) := by decide +kernel
theorem dX9_readDigit_101 : decode cX9_readDigit 101 = .ok (.dup, 1) := by decide +kernel
theorem dX9_readDigit_102 : decode cX9_readDigit 102 = .ok (.getfield 119, 3) := by decide +kernel
theorem dX9_readDigit_105 : decode cX9_readDigit 105 = .ok (.iconst 1, 1) := by decide +kernel
theorem dX9_readDigit_106 : decode cX9_readDigit 106 = .ok (.iadd, 1) := by decide +kernel
theorem dX9_readDigit_107 : decode cX9_readDigit 107 = .ok (.putfield 119, 3) := by decide +kernel
theorem dX9_readDigit_110 : decode cX9_readDigit 110 = .ok (.return_, 1) := by decide +kernel
def k_X9_readDigit : List pEn := [oAload 0, oGet 9 17, oIfeq 15, oAload 0, oGet 9 18, oConst (4), oCne 20, oAload 0, oGet 9 17, oConst (2), oCeq 15, oAload 0, oGet 9 17, oConst (4), oCne 20, oAload 0, oConst (1), oIload 1, oCallZ 3 F_X9_fails, oVret, oAload 0, oGet 9 17, oConst (1), oCeq 28, oAload 0, oGet 9 17, oConst (3), oCne 43, oAload 0, oDup, oGet 9 17, oConst (1), oAdd, oPut 9 17, oAload 0, oConst (0), oPut 9 18, oAload 0, oConst (0), oPut 9 20, oAload 0, oIload 1, oPut 9 19, oAload 0, oConst (10), oAload 0, oGet 9 20, oMul, oAload 0, oGet 9 5, oIload 1, oIald, oAdd, oConst (48), oSub, oPut 9 20, oAload 0, oDup, oGet 9 18, oConst (1), oAdd, oPut 9 18, oVret]
def pc_X9_readDigit (i : Nat) : Nat := ([0, 1, 4, 7, 8, 11, 12, 15, 16, 19, 20, 23, 24, 27, 28, 31, 32, 33, 34, 37, 38, 39, 42, 43, 46, 47, 50, 51, 54, 55, 56, 59, 60, 61, 64, 65, 66, 69, 70, 71, 74, 75, 76, 79, 80, 82, 83, 86, 87, 88, 91, 92, 93, 94, 96, 97, 100, 101, 102, 105, 106, 107, 110] : List Nat).getD i 0
abbrev rm_X9_readDigit : Room := { frames := 1, cells := 0, slots := 0, locals := 22 }
theorem pl_X9_readDigit : pPlain yX9_readDigit 1 := by decide +kernel
set_option maxRecDepth 100000 in
set_option maxHeartbeats 4000000 in
theorem ok_k_X9_readDigit (l : Launch) : ∀ (i : Nat) (en : pEn), k_X9_readDigit[i]? = some en → EOK l cX9_readDigit yX9_readDigit.cls 2 (none) rm_X9_readDigit 0 pc_X9_readDigit i en := by
  refine allOK_at ?_
  refine And.intro (okAload_n dX9_readDigit_0 rfl rfl) ?_
  refine And.intro (okGet (C := RX9) (T := TX9) (N := 22) dX9_readDigit_1 rfl rfl (by decide) inX9 wm_3_158) ?_
  refine And.intro (okIfeq dX9_readDigit_4 rfl (by rfl)) ?_
  refine And.intro (okAload_n dX9_readDigit_7 rfl rfl) ?_
  refine And.intro (okGet (C := RX9) (T := TX9) (N := 22) dX9_readDigit_8 rfl rfl (by decide) inX9 wm_3_159) ?_
  refine And.intro (okIconst dX9_readDigit_11 rfl (by first | rfl | decide)) ?_
  refine And.intro (okCne dX9_readDigit_12 rfl (by rfl)) ?_
  refine And.intro (okAload_n dX9_readDigit_15 rfl rfl) ?_
  refine And.intro (okGet (C := RX9) (T := TX9) (N := 22) dX9_readDigit_16 rfl rfl (by decide) inX9 wm_3_158) ?_
  refine And.intro (okIconst dX9_readDigit_19 rfl (by first | rfl | decide)) ?_
  refine And.intro (okCeq dX9_readDigit_20 rfl (by rfl)) ?_
  refine And.intro (okAload_n dX9_readDigit_23 rfl rfl) ?_
  refine And.intro (okGet (C := RX9) (T := TX9) (N := 22) dX9_readDigit_24 rfl rfl (by decide) inX9 wm_3_158) ?_
  refine And.intro (okIconst dX9_readDigit_27 rfl (by first | rfl | decide)) ?_
  refine And.intro (okCne dX9_readDigit_28 rfl (by rfl)) ?_
  refine And.intro (okAload_n dX9_readDigit_31 rfl rfl) ?_
  refine And.intro (okIconst dX9_readDigit_32 rfl (by first | rfl | decide)) ?_
  refine And.intro (okIload_n dX9_readDigit_33 rfl rfl) ?_
  refine And.intro (okCallV (y := yX9_fails) (T := TX9) (oCallZ_is _ _ _) dX9_readDigit_34 rfl (ok_F_X9_fails l) rc_F_X9_fails rfl wm_4_37 wm_4_39 wp_23 wm_1_10 wm_4_40 pl_X9_fails (by decide)) ?_
  refine And.intro (okVret dX9_readDigit_37 rfl) ?_
  refine And.intro (okAload_n dX9_readDigit_38 rfl rfl) ?_
  refine And.intro (okGet (C := RX9) (T := TX9) (N := 22) dX9_readDigit_39 rfl rfl (by decide) inX9 wm_3_158) ?_
  refine And.intro (okIconst dX9_readDigit_42 rfl (by first | rfl | decide)) ?_
  refine And.intro (okCeq dX9_readDigit_43 rfl (by rfl)) ?_
  refine And.intro (okAload_n dX9_readDigit_46 rfl rfl) ?_
  refine And.intro (okGet (C := RX9) (T := TX9) (N := 22) dX9_readDigit_47 rfl rfl (by decide) inX9 wm_3_158) ?_
  refine And.intro (okIconst dX9_readDigit_50 rfl (by first | rfl | decide)) ?_
  refine And.intro (okCne dX9_readDigit_51 rfl (by rfl)) ?_
  refine And.intro (okAload_n dX9_readDigit_54 rfl rfl) ?_
  refine And.intro (okDup dX9_readDigit_55 rfl) ?_
  refine And.intro (okGet (C := RX9) (T := TX9) (N := 22) dX9_readDigit_56 rfl rfl (by decide) inX9 wm_3_158) ?_
  refine And.intro (okIconst dX9_readDigit_59 rfl (by first | rfl | decide)) ?_
  refine And.intro (okAdd dX9_readDigit_60 rfl) ?_
  refine And.intro (okPut (C := RX9) (T := TX9) (N := 22) dX9_readDigit_61 rfl rfl (by decide) inX9 tyX9_ok nmX9 rfl rfl wm_3_158) ?_
  refine And.intro (okAload_n dX9_readDigit_64 rfl rfl) ?_
  refine And.intro (okIconst dX9_readDigit_65 rfl (by first | rfl | decide)) ?_
  refine And.intro (okPut (C := RX9) (T := TX9) (N := 22) dX9_readDigit_66 rfl rfl (by decide) inX9 tyX9_ok nmX9 rfl rfl wm_3_159) ?_
  refine And.intro (okAload_n dX9_readDigit_69 rfl rfl) ?_
  refine And.intro (okIconst dX9_readDigit_70 rfl (by first | rfl | decide)) ?_
  refine And.intro (okPut (C := RX9) (T := TX9) (N := 22) dX9_readDigit_71 rfl rfl (by decide) inX9 tyX9_ok nmX9 rfl rfl wm_3_161) ?_
  refine And.intro (okAload_n dX9_readDigit_74 rfl rfl) ?_
  refine And.intro (okIload_n dX9_readDigit_75 rfl rfl) ?_
  refine And.intro (okPut (C := RX9) (T := TX9) (N := 22) dX9_readDigit_76 rfl rfl (by decide) inX9 tyX9_ok nmX9 rfl rfl wm_3_160) ?_
  refine And.intro (okAload_n dX9_readDigit_79 rfl rfl) ?_
  refine And.intro (okBipush dX9_readDigit_80 rfl (by first | rfl | decide)) ?_
  refine And.intro (okAload_n dX9_readDigit_82 rfl rfl) ?_
  refine And.intro (okGet (C := RX9) (T := TX9) (N := 22) dX9_readDigit_83 rfl rfl (by decide) inX9 wm_3_161) ?_
  refine And.intro (okMul dX9_readDigit_86 rfl) ?_
  refine And.intro (okAload_n dX9_readDigit_87 rfl rfl) ?_
  refine And.intro (okGet (C := RX9) (T := TX9) (N := 22) dX9_readDigit_88 rfl rfl (by decide) inX9 wm_3_146) ?_
  refine And.intro (okIload_n dX9_readDigit_91 rfl rfl) ?_
  refine And.intro (okIald dX9_readDigit_92 rfl) ?_
  refine And.intro (okAdd dX9_readDigit_93 rfl) ?_
  refine And.intro (okBipush dX9_readDigit_94 rfl (by first | rfl | decide)) ?_
  refine And.intro (okSub dX9_readDigit_96 rfl) ?_
  refine And.intro (okPut (C := RX9) (T := TX9) (N := 22) dX9_readDigit_97 rfl rfl (by decide) inX9 tyX9_ok nmX9 rfl rfl wm_3_161) ?_
  refine And.intro (okAload_n dX9_readDigit_100 rfl rfl) ?_
  refine And.intro (okDup dX9_readDigit_101 rfl) ?_
  refine And.intro (okGet (C := RX9) (T := TX9) (N := 22) dX9_readDigit_102 rfl rfl (by decide) inX9 wm_3_159) ?_
  refine And.intro (okIconst dX9_readDigit_105 rfl (by first | rfl | decide)) ?_
  refine And.intro (okAdd dX9_readDigit_106 rfl) ?_
  refine And.intro (okPut (C := RX9) (T := TX9) (N := 22) dX9_readDigit_107 rfl rfl (by decide) inX9 tyX9_ok nmX9 rfl rfl wm_3_159) ?_
  refine And.intro (okVret dX9_readDigit_110 rfl) ?_
  exact trivial
def G_X9_readDigit : pG := fun args w => match args with
  | [.ref 0, .int k] => unM w (fun m => pif (kOK k) (some (none, mdl (rdgM m k))) none)
  | _ => none
set_option maxHeartbeats 400000 in
set_option maxRecDepth 100000 in
theorem run_X9_readDigit (rg : pRg) (m : pLV) (k : Int32) (hc : kOK k) : ∃ fu, ex k_X9_readDigit fu 0 [(0, .ref 0), (1, .int k)] [] (mdl m) rg = some (none, mdl (rdgM m k), rg) := by
  refine ⟨60, ?_⟩
  conv => lhs; whnf
  refine pif_c (fun h1 => ?_) (fun h1 => ?_)
  · rw [show rdgM m k = _ from if_pos h1]
    conv => lhs; whnf
    refine (callK_v (cl_X9_fails m 1 k rg) (by rfl)).trans ?_
    rfl
  · conv => lhs; whnf
    refine pif_c (fun h2 => ?_) (fun h2 => ?_)
    · conv => lhs; whnf
      refine pif_c (fun h3 => ?_) (fun h3 => ?_)
      · rw [show rdgM m k = _ from (if_neg h1).trans ((if_pos h2).trans (if_pos h3))]
        conv => lhs; whnf
        refine (callK_v (cl_X9_fails m 1 k rg) (by rfl)).trans ?_
        rfl
      · conv => lhs; whnf
        refine pif_c (fun h4 => ?_) (fun h4 => ?_)
        · rw [show rdgM m k = _ from (if_neg h1).trans ((if_pos h2).trans ((if_neg h3).trans (if_pos h4)))]
          conv => lhs; whnf
          refine (callK_v (cl_X9_fails m 1 k rg) (by rfl)).trans ?_
          rfl
        · conv => lhs; whnf
          refine pif_c (fun h5 => ?_) (fun h5 => ?_)
          · rw [show rdgM m k = _ from (if_neg h1).trans ((if_pos h2).trans ((if_neg h3).trans (if_neg h4))), show rdN m k = _ from if_pos h5]
            conv => lhs; whnf
            refine (pif_f (k_in hc)).trans ?_
            rfl
          · conv => lhs; whnf
            refine pif_c (fun h6 => ?_) (fun h6 => ?_)
            · rw [show rdgM m k = _ from (if_neg h1).trans ((if_pos h2).trans ((if_neg h3).trans (if_neg h4))), show rdN m k = _ from (if_neg h5).trans (if_pos h6)]
              conv => lhs; whnf
              refine (pif_f (k_in hc)).trans ?_
              rfl
            · rw [show rdgM m k = _ from (if_neg h1).trans ((if_pos h2).trans ((if_neg h3).trans (if_neg h4))), show rdN m k = _ from (if_neg h5).trans (if_neg h6)]
              conv => lhs; whnf
              refine (pif_f (k_in hc)).trans ?_
              rfl
    · conv => lhs; whnf
      refine pif_c (fun h5 => ?_) (fun h5 => ?_)
      · rw [show rdgM m k = _ from (if_neg h1).trans (if_neg h2), show rdN m k = _ from if_pos h5]
        conv => lhs; whnf
        refine (pif_f (k_in hc)).trans ?_
        rfl
      · conv => lhs; whnf
        refine pif_c (fun h6 => ?_) (fun h6 => ?_)
        · rw [show rdgM m k = _ from (if_neg h1).trans (if_neg h2), show rdN m k = _ from (if_neg h5).trans (if_pos h6)]
          conv => lhs; whnf
          refine (pif_f (k_in hc)).trans ?_
          rfl
        · rw [show rdgM m k = _ from (if_neg h1).trans (if_neg h2), show rdN m k = _ from (if_neg h5).trans (if_neg h6)]
          conv => lhs; whnf
          refine (pif_f (k_in hc)).trans ?_
          rfl
theorem ct_X9_readDigit (l : Launch) : ∀ args0 w0 v0 w1 rg, G_X9_readDigit args0 w0 = some (v0, w1) → pCT l yX9_readDigit (pWs yX9_readDigit cX9_readDigit 2 (none)) rm_X9_readDigit args0 w0 rg (v0, w1, rg) := by
  intro args0 w0 v0 w1 rg h
  unfold G_X9_readDigit at h
  split at h
  next k =>
    obtain ⟨m, hw, h2⟩ := unM_some h
    clear h
    subst hw
    by_cases hc : kOK k
    · have h2 := (pif_t hc).symm.trans h2
      cases h2
      exact met_of_exM (by decide) (ok_k_X9_readDigit l) rfl (run_X9_readDigit rg m k hc) (Nat.le_of_ble_eq_true rfl) rfl rfl
    · have h2 := (pif_f hc).symm.trans h2
      cases h2
  next => cases h
def F_X9_readDigit : pF := faN G_X9_readDigit
theorem ok_F_X9_readDigit (l : Launch) : pFOK l yX9_readDigit (pWs yX9_readDigit cX9_readDigit 2 (none)) rm_X9_readDigit F_X9_readDigit := pFOK_fa (fun a b c d rg h => ct_X9_readDigit l a b c d rg h)
theorem rc_F_X9_readDigit : pRcv 9 F_X9_readDigit := pRcv_fa (fun a b c d h => by
  unfold G_X9_readDigit at h
  split at h
  next =>
    obtain ⟨m, rfl, h⟩ := unM_some h
    exact ⟨_, _, _, rfl, rfl⟩
  next => cases h)
theorem cl_X9_readDigit (m : pLV) (k : Int32) (rg : pRg) (hc : kOK k) : F_X9_readDigit [.ref 0, .int k] (mdl m) rg = some (none, mdl (rdgM (NM m) k), rg) := by
  have h : G_X9_readDigit [.ref 0, .int k] (mdl m) = some (none, mdl (rdgM (NM m) k)) := pif_t hc
  unfold F_X9_readDigit faN
  rw [h]
end
