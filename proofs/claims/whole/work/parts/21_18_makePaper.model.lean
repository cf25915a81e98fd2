noncomputable section
theorem fl_11 (n : Nat) (m : pLV) (a b : Int32) : fillM n m a b 0 11 = 0 ∨ fillM n m a b 0 11 = 1 := by
  unfold fillM flV
  split
  · exact Or.inl rfl
  · exact Or.inr rfl
def mpA (x : pLV) : pLV := vA x 1 (upd (x 1) (35 + x 1 10).toNatClampNeg (x 1 (35 + x 1 10).toNatClampNeg + x 0 9))
def mpB (x : pLV) : pLV := vA x 1 (upd (upd (upd (x 1) 34 (x 1 34 + x 0 9)) 17 (x 1 17 + 1)) 14 (x 1 10))
def mpC (y : pLV) : pLV := vS y 12 (y 0 11)
def mpD (x : pLV) : pLV := mpC (fillM 1 (NM (mpB x)) (x 0 9) (x 1 7))
def mpE (x : pLV) : pLV := if x 1 11 = 0 then (if x 1 12 = 0 then mpA x else mpD x) else mpD x
def mkpM (m : pLV) : pLV := mpE (takeM 3 (NM m) (m 1 2))
theorem dX9_makePaper_0 : decode cX9_makePaper 0 = .ok (.aload_n 0, 1) := by decide +kernel
theorem dX9_makePaper_1 : decode cX9_makePaper 1 = .ok (.iconst 3, 1) := by decide +kernel
theorem dX9_makePaper_2 : decode cX9_makePaper 2 = .ok (.aload_n 0, 1) := by decide +kernel
theorem dX9_makePaper_3 : decode cX9_makePaper 3 = .ok (.getfield 7, 3) := by decide +kernel
theorem dX9_makePaper_6 : decode cX9_makePaper 6 = .ok (.iconst 2, 1) := by decide +kernel
theorem dX9_makePaper_7 : decode cX9_makePaper 7 = .ok (.iaload, 1) := by decide +kernel
theorem dX9_makePaper_8 : decode cX9_makePaper 8 = .ok (.invokevirtual 62, 3) := by decide +kernel
theorem dX9_makePaper_11 : decode cX9_makePaper 11 = .ok (.aload_n 0, 1) := by decide +kernel
theorem dX9_makePaper_12 : decode cX9_makePaper 12 = .ok (.getfield 7, 3) := by decide +kernel
theorem dX9_makePaper_15 : decode cX9_makePaper 15 = .ok (.bipush 11, 2) := by decide +kernel
theorem dX9_makePaper_17 : decode cX9_makePaper 17 = .ok (.iaload, 1) := by decide +kernel
theorem dX9_makePaper_18 : decode cX9_makePaper 18 = .ok (.ifCond .ne 38, 3) := by decide +kernel
theorem dX9_makePaper_21 : decode cX9_makePaper 21 = .ok (.aload_n 0, 1) := by decide +kernel
theorem dX9_makePaper_22 : decode cX9_makePaper 22 = .ok (.getfield 7, 3) := by decide +kernel
theorem dX9_makePaper_25 : decode cX9_makePaper 25 = .ok (.bipush 12, 2) := by decide +kernel
theorem dX9_makePaper_27 : decode cX9_makePaper 27 = .ok (.iaload, 1) := by decide +kernel
theorem dX9_makePaper_28 : decode cX9_makePaper 28 = .ok (.ifCond .ne 28, 3) := by decide +kernel
theorem dX9_makePaper_31 : decode cX9_makePaper 31 = .ok (.aload_n 0, 1) := by decide +kernel
theorem dX9_makePaper_32 : decode cX9_makePaper 32 = .ok (.getfield 7, 3) := by decide +kernel
theorem dX9_makePaper_35 : decode cX9_makePaper 35 = .ok (.bipush 35, 2) := by decide +kernel
theorem dX9_makePaper_37 : decode cX9_makePaper 37 = .ok (.aload_n 0, 1) := by decide +kernel
theorem dX9_makePaper_38 : decode cX9_makePaper 38 = .ok (.getfield 7, 3) := by decide +kernel
theorem dX9_makePaper_41 : decode cX9_makePaper 41 = .ok (.bipush 10, 2) := by decide +kernel
theorem dX9_makePaper_43 : decode cX9_makePaper 43 = .ok (.iaload, 1) := by decide +kernel
theorem dX9_makePaper_44 : decode cX9_makePaper 44 = .ok (.iadd, 1) := by decide +kernel
theorem dX9_makePaper_45 : decode cX9_makePaper 45 = .ok (.dup2, 1) := by decide +kernel
theorem dX9_makePaper_46 : decode cX9_makePaper 46 = .ok (.iaload, 1) := by decide +kernel
theorem dX9_makePaper_47 : decode cX9_makePaper 47 = .ok (.aload_n 0, 1) := by decide +kernel
theorem dX9_makePaper_48 : decode cX9_makePaper 48 = .ok (.getfield 49, 3) := by decide +kernel
theorem dX9_makePaper_51 : decode cX9_makePaper 51 = .ok (.iadd, 1) := by decide +kernel
theorem dX9_makePaper_52 : decode cX9_makePaper 52 = .ok (.iastore, 1) := by decide +kernel
theorem dX9_makePaper_53 : decode cX9_makePaper 53 = .ok (.goto 67, 3) := by decide +kernel
theorem dX9_makePaper_56 : decode cX9_makePaper 56 = .ok (.aload_n 0, 1) := by decide +kernel
theorem dX9_makePaper_57 : decode cX9_makePaper 57 = .ok (.getfield 7, 3) := by decide +kernel
theorem dX9_makePaper_60 : decode cX9_makePaper 60 = .ok (.bipush 34, 2) := by decide +kernel
theorem dX9_makePaper_62 : decode cX9_makePaper 62 = .ok (.dup2, 1) := by decide +kernel
theorem dX9_makePaper_63 : decode cX9_makePaper 63 = .ok (.iaload, 1) := by decide +kernel
theorem dX9_makePaper_64 : decode cX9_makePaper 64 = .ok (.aload_n 0, 1) := by decide +kernel
theorem dX9_makePaper_65 : decode cX9_makePaper 65 = .ok (.getfield 49, 3) := by decide +kernel
theorem dX9_makePaper_68 : decode cX9_makePaper 68 = .ok (.iadd, 1) := by decide +kernel
theorem dX9_makePaper_69 : decode cX9_makePaper 69 = .ok (.iastore, 1) := by decide +kernel
theorem dX9_makePaper_70 : decode cX9_makePaper 70 = .ok (.aload_n 0, 1) := by decide +kernel
theorem dX9_makePaper_71 : decode cX9_makePaper 71 = .ok (.getfield 7, 3) := by decide +kernel
theorem dX9_makePaper_74 : decode cX9_makePaper 74 = .ok (.bipush 17, 2) := by decide +kernel
theorem dX9_makePaper_76 : decode cX9_makePaper 76 = .ok (.dup2, 1) := by decide +kernel
theorem dX9_makePaper_77 : decode cX9_makePaper 77 = .ok (.iaload, 1) := by decide +kernel
theorem dX9_makePaper_78 : decode cX9_makePaper 78 = .ok (.iconst 1, 1) := by decide +kernel
theorem dX9_makePaper_79 : decode cX9_makePaper 79 = .ok (.iadd, 1) := by decide +kernel
theorem dX9_makePaper_80 : decode cX9_makePaper 80 = .ok (.iastore, 1) := by decide +kernel
theorem dX9_makePaper_81 : decode cX9_makePaper 81 = .ok (.aload_n 0, 1) := by decide +kernel
theorem dX9_makePaper_82 : decode cX9_makePaper 82 = .ok (.getfield 7, 3) := by decide +kernel
theorem dX9_makePaper_85 : decode cX9_makePaper 85 = .ok (.bipush 14, 2) := by decide +kernel
theorem dX9_makePaper_87 : decode cX9_makePaper 87 = .ok (.aload_n 0, 1) := by decide +kernel
theorem dX9_makePaper_88 : decode cX9_makePaper 88 = .ok (.getfield 7, 3) := by decide +kernel
theorem dX9_makePaper_91 : decode cX9_makePaper 91 = .ok (.bipush 10, 2) := by decide +kernel
theorem dX9_makePaper_93 : decode cX9_makePaper 93 = .ok (.iaload, 1) := by decide +kernel
theorem dX9_makePaper_94 : decode cX9_makePaper 94 = .ok (.iastore, 1) := by decide +kernel
theorem dX9_makePaper_95 : decode cX9_makePaper 95 = .ok (.aload_n 0, 1) := by decide +kernel
theorem dX9_makePaper_96 : decode cX9_makePaper 96 = .ok (.iconst 1, 1) := by decide +kernel
theorem dX9_makePaper_97 : decode cX9_makePaper 97 = .ok (.aload_n 0, 1) := by decide +kernel
theorem dX9_makePaper_98 : decode cX9_makePaper 98 = .ok (.getfield 49, 3) := by decide +kernel
theorem dX9_makePaper_101 : decode cX9_makePaper 101 = .ok (.aload_n 0, 1) := by decide +kernel
theorem dX9_makePaper_102 : decode cX9_makePaper 102 = .ok (.getfield 7, 3) := by decide +kernel
theorem dX9_makePaper_105 : decode cX9_makePaper 105 = .ok (.bipush 7, 2) := by decide +kernel
theorem dX9_makePaper_107 : decode cX9_makePaper 107 = .ok (.iaload, 1) := by decide +kernel
theorem dX9_makePaper_108 : decode cX9_makePaper 108 = .ok (.invokevirtual 73, 3) := by decide +kernel
theorem dX9_makePaper_111 : decode cX9_makePaper 111 = .ok (.istore_n 1, 1) := by decide +kernel
theorem dX9_makePaper_112 : decode cX9_makePaper 112 = .ok (.aload_n 0, 1) := by decide +kernel
theorem dX9_makePaper_113 : decode cX9_makePaper 113 = .ok (.aload_n 0, 1) := by decide +kernel
theorem dX9_makePaper_114 : decode cX9_makePaper 114 = .ok (.getfield 58, 3) := by decide +kernel
theorem dX9_makePaper_117 : decode cX9_makePaper 117 = .ok (.putfield 80, 3) := by decide +kernel
theorem dX9_makePaper_120 : decode cX9_makePaper 120 = .ok (.return_, 1) := by decide +kernel
def k_X9_makePaper : List pEn := [oAload 0, oConst (3), oAload 0, oGet 9 0, oConst (2), oIaldN 2, oCallZ 3 F_X9_takeFrom, oAload 0, oGet 9 0, oConst (11), oIaldN 11, oIfne 32, oAload 0, oGet 9 0, oConst (12), oIaldN 12, oIfne 32, oAload 0, oGet 9 0, oConst (35), oAload 0, oGet 9 0, oConst (10), oIaldN 10, oAdd, oDup2, oIald, oAload 0, oGet 9 9, oAdd, oIast, oGoto 71, oAload 0, oGet 9 0, oConst (34), oDup2, oIaldN 34, oAload 0, oGet 9 9, oAdd, oIastN 34, oAload 0, oGet 9 0, oConst (17), oDup2, oIaldN 17, oConst (1), oAdd, oIastN 17, oAload 0, oGet 9 0, oConst (14), oAload 0, oGet 9 0, oConst (10), oIaldN 10, oIastN 14, oAload 0, oConst (1), oAload 0, oGet 9 9, oAload 0, oGet 9 0, oConst (7), oIaldN 7, oCallZ 4 F_X9_fillInto, oIstore 1, oAload 0, oAload 0, oGet 9 11, oPutB 9 12, oVret]
def pc_X9_makePaper (i : Nat) : Nat := ([0, 1, 2, 3, 6, 7, 8, 11, 12, 15, 17, 18, 21, 22, 25, 27, 28, 31, 32, 35, 37, 38, 41, 43, 44, 45, 46, 47, 48, 51, 52, 53, 56, 57, 60, 62, 63, 64, 65, 68, 69, 70, 71, 74, 76, 77, 78, 79, 80, 81, 82, 85, 87, 88, 91, 93, 94, 95, 96, 97, 98, 101, 102, 105, 107, 108, 111, 112, 113, 114, 117, 120] : List Nat).getD i 0
abbrev rm_X9_makePaper : Room := { frames := 3, cells := 0, slots := 0, locals := 69 }
theorem pl_X9_makePaper : pPlain yX9_makePaper 0 := by decide +kernel
set_option maxRecDepth 100000 in
set_option maxHeartbeats 4000000 in
theorem ok_k_X9_makePaper (l : Launch) : ∀ (i : Nat) (en : pEn), k_X9_makePaper[i]? = some en → EOK l cX9_makePaper yX9_makePaper.cls 2 (none) rm_X9_makePaper 0 pc_X9_makePaper i en := by
  refine allOK_at ?_
  refine And.intro (okAload_n dX9_makePaper_0 rfl rfl) ?_
  refine And.intro (okIconst dX9_makePaper_1 rfl (by first | rfl | decide)) ?_
  refine And.intro (okAload_n dX9_makePaper_2 rfl rfl) ?_
  refine And.intro (okGet (C := RX9) (T := TX9) (N := 22) dX9_makePaper_3 rfl rfl (by decide) inX9 wm_3_141) ?_
  refine And.intro (okIconst dX9_makePaper_6 rfl (by first | rfl | decide)) ?_
  refine And.intro (okIaldN dX9_makePaper_7 rfl) ?_
  refine And.intro (okCallV (y := yX9_takeFrom) (T := TX9) (oCallZ_is _ _ _) dX9_makePaper_8 rfl (ok_F_X9_takeFrom l) rc_F_X9_takeFrom rfl wm_4_21 wm_4_23 wp_21 wm_1_10 wm_4_24 pl_X9_takeFrom (by decide)) ?_
  refine And.intro (okAload_n dX9_makePaper_11 rfl rfl) ?_
  refine And.intro (okGet (C := RX9) (T := TX9) (N := 22) dX9_makePaper_12 rfl rfl (by decide) inX9 wm_3_141) ?_
  refine And.intro (okBipush dX9_makePaper_15 rfl (by first | rfl | decide)) ?_
  refine And.intro (okIaldN dX9_makePaper_17 rfl) ?_
  refine And.intro (okIfne dX9_makePaper_18 rfl (by rfl)) ?_
  refine And.intro (okAload_n dX9_makePaper_21 rfl rfl) ?_
  refine And.intro (okGet (C := RX9) (T := TX9) (N := 22) dX9_makePaper_22 rfl rfl (by decide) inX9 wm_3_141) ?_
  refine And.intro (okBipush dX9_makePaper_25 rfl (by first | rfl | decide)) ?_
  refine And.intro (okIaldN dX9_makePaper_27 rfl) ?_
  refine And.intro (okIfne dX9_makePaper_28 rfl (by rfl)) ?_
  refine And.intro (okAload_n dX9_makePaper_31 rfl rfl) ?_
  refine And.intro (okGet (C := RX9) (T := TX9) (N := 22) dX9_makePaper_32 rfl rfl (by decide) inX9 wm_3_141) ?_
  refine And.intro (okBipush dX9_makePaper_35 rfl (by first | rfl | decide)) ?_
  refine And.intro (okAload_n dX9_makePaper_37 rfl rfl) ?_
  refine And.intro (okGet (C := RX9) (T := TX9) (N := 22) dX9_makePaper_38 rfl rfl (by decide) inX9 wm_3_141) ?_
  refine And.intro (okBipush dX9_makePaper_41 rfl (by first | rfl | decide)) ?_
  refine And.intro (okIaldN dX9_makePaper_43 rfl) ?_
  refine And.intro (okAdd dX9_makePaper_44 rfl) ?_
  refine And.intro (okDup2 dX9_makePaper_45 rfl) ?_
  refine And.intro (okIald dX9_makePaper_46 rfl) ?_
  refine And.intro (okAload_n dX9_makePaper_47 rfl rfl) ?_
  refine And.intro (okGet (C := RX9) (T := TX9) (N := 22) dX9_makePaper_48 rfl rfl (by decide) inX9 wm_3_150) ?_
  refine And.intro (okAdd dX9_makePaper_51 rfl) ?_
  refine And.intro (okIast dX9_makePaper_52 rfl) ?_
  refine And.intro (okGoto dX9_makePaper_53 (by rfl)) ?_
  refine And.intro (okAload_n dX9_makePaper_56 rfl rfl) ?_
  refine And.intro (okGet (C := RX9) (T := TX9) (N := 22) dX9_makePaper_57 rfl rfl (by decide) inX9 wm_3_141) ?_
  refine And.intro (okBipush dX9_makePaper_60 rfl (by first | rfl | decide)) ?_
  refine And.intro (okDup2 dX9_makePaper_62 rfl) ?_
  refine And.intro (okIaldN dX9_makePaper_63 rfl) ?_
  refine And.intro (okAload_n dX9_makePaper_64 rfl rfl) ?_
  refine And.intro (okGet (C := RX9) (T := TX9) (N := 22) dX9_makePaper_65 rfl rfl (by decide) inX9 wm_3_150) ?_
  refine And.intro (okAdd dX9_makePaper_68 rfl) ?_
  refine And.intro (okIastN dX9_makePaper_69 rfl) ?_
  refine And.intro (okAload_n dX9_makePaper_70 rfl rfl) ?_
  refine And.intro (okGet (C := RX9) (T := TX9) (N := 22) dX9_makePaper_71 rfl rfl (by decide) inX9 wm_3_141) ?_
  refine And.intro (okBipush dX9_makePaper_74 rfl (by first | rfl | decide)) ?_
  refine And.intro (okDup2 dX9_makePaper_76 rfl) ?_
  refine And.intro (okIaldN dX9_makePaper_77 rfl) ?_
  refine And.intro (okIconst dX9_makePaper_78 rfl (by first | rfl | decide)) ?_
  refine And.intro (okAdd dX9_makePaper_79 rfl) ?_
  refine And.intro (okIastN dX9_makePaper_80 rfl) ?_
  refine And.intro (okAload_n dX9_makePaper_81 rfl rfl) ?_
  refine And.intro (okGet (C := RX9) (T := TX9) (N := 22) dX9_makePaper_82 rfl rfl (by decide) inX9 wm_3_141) ?_
  refine And.intro (okBipush dX9_makePaper_85 rfl (by first | rfl | decide)) ?_
  refine And.intro (okAload_n dX9_makePaper_87 rfl rfl) ?_
  refine And.intro (okGet (C := RX9) (T := TX9) (N := 22) dX9_makePaper_88 rfl rfl (by decide) inX9 wm_3_141) ?_
  refine And.intro (okBipush dX9_makePaper_91 rfl (by first | rfl | decide)) ?_
  refine And.intro (okIaldN dX9_makePaper_93 rfl) ?_
  refine And.intro (okIastN dX9_makePaper_94 rfl) ?_
  refine And.intro (okAload_n dX9_makePaper_95 rfl rfl) ?_
  refine And.intro (okIconst dX9_makePaper_96 rfl (by first | rfl | decide)) ?_
  refine And.intro (okAload_n dX9_makePaper_97 rfl rfl) ?_
  refine And.intro (okGet (C := RX9) (T := TX9) (N := 22) dX9_makePaper_98 rfl rfl (by decide) inX9 wm_3_150) ?_
  refine And.intro (okAload_n dX9_makePaper_101 rfl rfl) ?_
  refine And.intro (okGet (C := RX9) (T := TX9) (N := 22) dX9_makePaper_102 rfl rfl (by decide) inX9 wm_3_141) ?_
  refine And.intro (okBipush dX9_makePaper_105 rfl (by first | rfl | decide)) ?_
  refine And.intro (okIaldN dX9_makePaper_107 rfl) ?_
  refine And.intro (okCallV (y := yX9_fillInto) (T := TX9) (oCallZ_is _ _ _) dX9_makePaper_108 rfl (ok_F_X9_fillInto l) rc_F_X9_fillInto rfl wm_4_10 wm_4_12 wp_19 wm_1_10 wm_4_13 pl_X9_fillInto (by decide)) ?_
  refine And.intro (okIstore_n dX9_makePaper_111 rfl rfl (by decide)) ?_
  refine And.intro (okAload_n dX9_makePaper_112 rfl rfl) ?_
  refine And.intro (okAload_n dX9_makePaper_113 rfl rfl) ?_
  refine And.intro (okGet (C := RX9) (T := TX9) (N := 22) dX9_makePaper_114 rfl rfl (by decide) inX9 wm_3_152) ?_
  refine And.intro (okPutB (C := RX9) (T := TX9) (N := 22) dX9_makePaper_117 rfl rfl (by decide) inX9 tyX9_ok nmX9 rfl rfl wm_3_153) ?_
  refine And.intro (okVret dX9_makePaper_120 rfl) ?_
  exact trivial
def G_X9_makePaper : pG := fun args w => match args with
  | [.ref 0] => unM w (fun m => pif (0 ≤ m 1 10 ∧ m 1 10 ≤ 3) (some (none, mdl (mkpM m))) none)
  | _ => none
set_option maxHeartbeats 400000 in
set_option maxRecDepth 100000 in
theorem run_X9_makePaper (rg : pRg) (m : pLV)  (hc : 0 ≤ m 1 10 ∧ m 1 10 ≤ 3) : ∃ fu, ex k_X9_makePaper fu 0 [(0, .ref 0)] [] (mdl m) rg = some (none, mdl (mkpM m), rg) := by
  refine ⟨60, ?_⟩
  conv => lhs; whnf
  refine (callK_v (cl_X9_takeFrom3 m (m 1 2) rg) (by rfl)).trans ?_
  unfold mkpM
  have hx : 0 ≤ (takeM 3 (NM m) (m 1 2)) 1 10 ∧ (takeM 3 (NM m) (m 1 2)) 1 10 ≤ 3 := hc
  revert hx
  generalize takeM 3 (NM m) (m 1 2) = x
  revert x; refine id ?_; intro x hx
  conv => lhs; whnf
  refine pif_c (fun h1 => ?_) (fun h1 => ?_)
  · conv => lhs; whnf
    refine pif_c (fun h2 => ?_) (fun h2 => ?_)
    · conv => lhs; whnf
      refine (pif_f (bnd_lit 110 35 rfl hx.1 (le_toInt 3 rfl hx.2) (by decide) (by decide) (by decide))).trans ?_
      conv => lhs; whnf
      refine (pif_f (bnd_lit 110 35 rfl hx.1 (le_toInt 3 rfl hx.2) (by decide) (by decide) (by decide))).trans ?_
      rw [show mpE x = mpA x from (if_pos h1).trans (if_pos h2)] <;> rfl
    · conv => lhs; whnf
      refine (callK_r (cl_X9_fillInto1 (mpB x) (x 0 9) (x 1 7) rg) (by rfl)).trans ?_
      rw [show mpE x = mpD x from (if_pos h1).trans (if_neg h2)]
      unfold mpD
      have hy := fl_11 1 (NM (mpB x)) (x 0 9) (x 1 7)
      revert hy
      generalize fillR 1 (NM (mpB x)) (x 0 9) (x 1 7) = z
      generalize fillM 1 (NM (mpB x)) (x 0 9) (x 1 7) = y
      revert z y; refine id ?_; intro z y hy
      conv => lhs; whnf
      refine (pif_t (hy)).trans ?_
      rfl
  · conv => lhs; whnf
    refine (callK_r (cl_X9_fillInto1 (mpB x) (x 0 9) (x 1 7) rg) (by rfl)).trans ?_
    rw [show mpE x = mpD x from if_neg h1]
    unfold mpD
    have hy := fl_11 1 (NM (mpB x)) (x 0 9) (x 1 7)
    revert hy
    generalize fillR 1 (NM (mpB x)) (x 0 9) (x 1 7) = z
    generalize fillM 1 (NM (mpB x)) (x 0 9) (x 1 7) = y
    revert z y; refine id ?_; intro z y hy
    conv => lhs; whnf
    refine (pif_t (hy)).trans ?_
    rfl
theorem ct_X9_makePaper (l : Launch) : ∀ args0 w0 v0 w1 rg, G_X9_makePaper args0 w0 = some (v0, w1) → pCT l yX9_makePaper (pWs yX9_makePaper cX9_makePaper 2 (none)) rm_X9_makePaper args0 w0 rg (v0, w1, rg) := by
  intro args0 w0 v0 w1 rg h
  unfold G_X9_makePaper at h
  split at h
  next  =>
    obtain ⟨m, hw, h2⟩ := unM_some h
    clear h
    subst hw
    by_cases hc : 0 ≤ m 1 10 ∧ m 1 10 ≤ 3
    · have h2 := (pif_t hc).symm.trans h2
      cases h2
      exact met_of_exM (by decide) (ok_k_X9_makePaper l) rfl (run_X9_makePaper rg m  hc) (Nat.le_of_ble_eq_true rfl) rfl rfl
    · have h2 := (pif_f hc).symm.trans h2
      cases h2
  next => cases h
def F_X9_makePaper : pF := faN G_X9_makePaper
theorem ok_F_X9_makePaper (l : Launch) : pFOK l yX9_makePaper (pWs yX9_makePaper cX9_makePaper 2 (none)) rm_X9_makePaper F_X9_makePaper := pFOK_fa (fun a b c d rg h => ct_X9_makePaper l a b c d rg h)
theorem rc_F_X9_makePaper : pRcv 9 F_X9_makePaper := pRcv_fa (fun a b c d h => by
  unfold G_X9_makePaper at h
  split at h
  next =>
    obtain ⟨m, rfl, h⟩ := unM_some h
    exact ⟨_, _, _, rfl, rfl⟩
  next => cases h)
theorem cl_X9_makePaper (m : pLV)  (rg : pRg) (hc : 0 ≤ (NM m) 1 10 ∧ (NM m) 1 10 ≤ 3) : F_X9_makePaper [.ref 0] (mdl m) rg = some (none, mdl (mkpM (NM m)), rg) := by
  have h : G_X9_makePaper [.ref 0] (mdl m) = some (none, mdl (mkpM (NM m))) := pif_t hc
  unfold F_X9_makePaper faN
  rw [h]
end
