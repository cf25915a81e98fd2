noncomputable section
def tmM (n : Nat) (m : pLV) (x : Int32) : Int32 := if x < sumM n m then x else sumM n m
def tfM (n : Nat) (m : pLV) (y : Int32) : Int32 := if sumM n m = 0 then 0 else (y.toInt64 * (m 1 (18 + 3 * n)).toInt64 / (sumM n m).toInt64).toInt32
/-- what is left of a chest, y the mass and z the fibre that are taken -/
def twM (n : Nat) (m : pLV) (y z : Int32) : pLV := vA (vS (vS m 9 z) 10 (y - z)) 1 (upd (upd (m 1) (18 + 3 * n) (m 1 (18 + 3 * n) - z)) (19 + 3 * n) (upd (m 1) (18 + 3 * n) (m 1 (18 + 3 * n) - z) (19 + 3 * n) - (y - z)))
def takeM (n : Nat) (m : pLV) (x : Int32) : pLV := twM n m (tmM n m x) (tfM n m (tmM n m x))
theorem ne0_64 {x : Int32} (h : ¬ x = 0) : ¬ x.toInt64 = 0 := by
  intro e
  have h2 : x.toInt64.toInt = x.toInt := Int32.toInt_toInt64 x
  rw [e] at h2
  refine h (Int32.toInt_inj.mp ?_)
  rw [← h2]; rfl
theorem dX9_takeFrom_0 : decode cX9_takeFrom 0 = .ok (.aload_n 0, 1) := by decide +kernel
theorem dX9_takeFrom_1 : decode cX9_takeFrom 1 = .ok (.iload_n 1, 1) := by decide +kernel
theorem dX9_takeFrom_2 : decode cX9_takeFrom 2 = .ok (.invokevirtual 45, 3) := by decide +kernel
theorem dX9_takeFrom_5 : decode cX9_takeFrom 5 = .ok (.istore_n 3, 1) := by decide +kernel
theorem dX9_takeFrom_6 : decode cX9_takeFrom 6 = .ok (.iload_n 2, 1) := by decide +kernel
theorem dX9_takeFrom_7 : decode cX9_takeFrom 7 = .ok (.iload_n 3, 1) := by decide +kernel
theorem dX9_takeFrom_8 : decode cX9_takeFrom 8 = .ok (.if_icmp .ge 7, 3) := by decide +kernel
theorem dX9_takeFrom_11 : decode cX9_takeFrom 11 = .ok (.iload_n 2, 1) := by decide +kernel
theorem dX9_takeFrom_12 : decode cX9_takeFrom 12 = .ok (.goto 4, 3) := by decide +kernel
theorem dX9_takeFrom_15 : decode cX9_takeFrom 15 = .ok (.iload_n 3, 1) := by decide +kernel
theorem dX9_takeFrom_16 : decode cX9_takeFrom 16 = .ok (.istore 4, 2) := by decide +kernel
theorem dX9_takeFrom_18 : decode cX9_takeFrom 18 = .ok (.aload_n 0, 1) := by decide +kernel
theorem dX9_takeFrom_19 : decode cX9_takeFrom 19 = .ok (.iload_n 3, 1) := by decide +kernel
theorem dX9_takeFrom_20 : decode cX9_takeFrom 20 = .ok (.ifCond .ne 7, 3) := by decide +kernel
theorem dX9_takeFrom_23 : decode cX9_takeFrom 23 = .ok (.iconst 0, 1) := by decide +kernel
theorem dX9_takeFrom_24 : decode cX9_takeFrom 24 = .ok (.goto 23, 3) := by decide +kernel
theorem dX9_takeFrom_27 : decode cX9_takeFrom 27 = .ok (.iload 4, 2) := by decide +kernel
theorem dX9_takeFrom_29 : decode cX9_takeFrom 29 = .ok (.i2l, 1) := by decide +kernel
theorem dX9_takeFrom_30 : decode cX9_takeFrom 30 = .ok (.aload_n 0, 1) := by decide +kernel
theorem dX9_takeFrom_31 : decode cX9_takeFrom 31 = .ok (.getfield 7, 3) := by decide +kernel
theorem dX9_takeFrom_34 : decode cX9_takeFrom 34 = .ok (.bipush 18, 2) := by decide +kernel
theorem dX9_takeFrom_36 : decode cX9_takeFrom 36 = .ok (.iconst 3, 1) := by decide +kernel
theorem dX9_takeFrom_37 : decode cX9_takeFrom 37 = .ok (.iload_n 1, 1) := by decide +kernel
theorem dX9_takeFrom_38 : decode cX9_takeFrom 38 = .ok (.imul, 1) := by decide +kernel
theorem dX9_takeFrom_39 : decode cX9_takeFrom 39 = .ok (.iadd, 1) := by decide +kernel
theorem dX9_takeFrom_40 : decode cX9_takeFrom 40 = .ok (.iaload, 1) := by decide +kernel
theorem dX9_takeFrom_41 : decode cX9_takeFrom 41 = .ok (.i2l, 1) := by decide +kernel
theorem dX9_takeFrom_42 : decode cX9_takeFrom 42 = .ok (.lmul, 1) := by decide +kernel
theorem dX9_takeFrom_43 : decode cX9_takeFrom 43 = .ok (.iload_n 3, 1) := by decide +kernel
theorem dX9_takeFrom_44 : decode cX9_takeFrom 44 = .ok (.i2l, 1) := by decide +kernel
theorem dX9_takeFrom_45 : decode cX9_takeFrom 45 = .ok (.ldiv, 1) := by decide +kernel
theorem dX9_takeFrom_46 : decode cX9_takeFrom 46 = .ok (.l2i, 1) := by decide +kernel
theorem dX9_takeFrom_47 : decode cX9_takeFrom 47 = .ok (.putfield 49, 3) := by decide +kernel
theorem dX9_takeFrom_50 : decode cX9_takeFrom 50 = .ok (.aload_n 0, 1) := by decide +kernel
theorem dX9_takeFrom_51 : decode cX9_takeFrom 51 = .ok (.iload 4, 2) := by decide +kernel
theorem dX9_takeFrom_53 : decode cX9_takeFrom 53 = .ok (.aload_n 0, 1) := by decide +kernel
theorem dX9_takeFrom_54 : decode cX9_takeFrom 54 = .ok (.getfield 49, 3) := by decide +kernel
theorem dX9_takeFrom_57 : decode cX9_takeFrom 57 = .ok (.isub, 1) := by decide +kernel
theorem dX9_takeFrom_58 : decode cX9_takeFrom 58 = .ok (.putfield 52, 3) := by decide +kernel
theorem dX9_takeFrom_61 : decode cX9_takeFrom 61 = .ok (.aload_n 0, 1) := by decide +kernel
theorem dX9_takeFrom_62 : decode cX9_takeFrom 62 = .ok (.getfield 7, 3) := by decide +kernel
theorem dX9_takeFrom_65 : decode cX9_takeFrom 65 = .ok (.bipush 18, 2) := by decide +kernel
theorem dX9_takeFrom_67 : decode cX9_takeFrom 67 = .ok (.iconst 3, 1) := by decide +kernel
theorem dX9_takeFrom_68 : decode cX9_takeFrom 68 = .ok (.iload_n 1, 1) := by decide +kernel
theorem dX9_takeFrom_69 : decode cX9_takeFrom 69 = .ok (.imul, 1) := by decide +kernel
theorem dX9_takeFrom_70 : decode cX9_takeFrom 70 = .ok (.iadd, 1) := by decide +kernel
theorem dX9_takeFrom_71 : decode cX9_takeFrom 71 = .ok (.dup2, 1) := by decide +kernel
theorem dX9_takeFrom_72 : decode cX9_takeFrom 72 = .ok (.iaload, 1) := by decide +kernel
theorem dX9_takeFrom_73 : decode cX9_takeFrom 73 = .ok (.aload_n 0, 1) := by decide +kernel
theorem dX9_takeFrom_74 : decode cX9_takeFrom 74 = .ok (.getfield 49, 3) := by decide +kernel
theorem dX9_takeFrom_77 : decode cX9_takeFrom 77 = .ok (.isub, 1) := by decide +kernel
theorem dX9_takeFrom_78 : decode cX9_takeFrom 78 = .ok (.iastore, 1) := by decide +kernel
theorem dX9_takeFrom_79 : decode cX9_takeFrom 79 = .ok (.aload_n 0, 1) := by decide +kernel
theorem dX9_takeFrom_80 : decode cX9_takeFrom 80 = .ok (.getfield 7, 3) := by decide +kernel
theorem dX9_takeFrom_83 : decode cX9_takeFrom 83 = .ok (.bipush 18, 2) := by decide +kernel
theorem dX9_takeFrom_85 : decode cX9_takeFrom 85 = .ok (.iconst 3, 1) := by decide +kernel
theorem dX9_takeFrom_86 : decode cX9_takeFrom 86 = .ok (.iload_n 1, 1) := by decide +kernel
theorem dX9_takeFrom_87 : decode cX9_takeFrom 87 = .ok (.imul, 1) := by decide +kernel
theorem dX9_takeFrom_88 : decode cX9_takeFrom 88 = .ok (.iadd, 1) := by decide +kernel
theorem dX9_takeFrom_89 : decode cX9_takeFrom 89 = .ok (.iconst 1, 1) := by decide +kernel
theorem dX9_takeFrom_90 : decode cX9_takeFrom 90 = .ok (.iadd, 1) := by decide +kernel
theorem dX9_takeFrom_91 : decode cX9_takeFrom 91 = .ok (.dup2, 1) := by decide +kernel
theorem dX9_takeFrom_92 : decode cX9_takeFrom 92 = .ok (.iaload, 1) := by decide +kernel
theorem dX9_takeFrom_93 : decode cX9_takeFrom 93 = .ok (.aload_n 0, 1) := by decide +kernel
theorem dX9_takeFrom_94 : decode cX9_takeFrom 94 = .ok (.getfield 52, 3) := by decide +kernel
theorem dX9_takeFrom_97 : decode cX9_takeFrom 97 = .ok (.isub, 1) := by decide +kernel
theorem dX9_takeFrom_98 : decode cX9_takeFrom 98 = .ok (.iastore, 1) := by decide +kernel
theorem dX9_takeFrom_99 : decode cX9_takeFrom 99 = .ok (.return_, 1) := by decide +kernel
def k_X9_takeFrom : List pEn := [oAload 0, oIload 1, oCallZ 2 F_X9_sum, oIstore 3, oIload 2, oIload 3, oCge 9, oIload 2, oGoto 10, oIload 3, oIstore 4, oAload 0, oIload 3, oIfne 16, oConst (0), oGoto 32, oIload 4, oI2l, oAload 0, oGet 9 0, oConst (18), oConst (3), oIload 1, oMul, oAdd, oIaldP [18, 19, 20, 21, 22, 23, 24, 25, 26, 27, 28, 29], oI2l, oLmul, oIload 3, oI2l, oLdiv, oL2i, oPut 9 9, oAload 0, oIload 4, oAload 0, oGet 9 9, oSub, oPut 9 10, oAload 0, oGet 9 0, oConst (18), oConst (3), oIload 1, oMul, oAdd, oDup2, oIaldP [18, 19, 20, 21, 22, 23, 24, 25, 26, 27, 28, 29], oAload 0, oGet 9 9, oSub, oIastP [18, 19, 20, 21, 22, 23, 24, 25, 26, 27, 28, 29], oAload 0, oGet 9 0, oConst (18), oConst (3), oIload 1, oMul, oAdd, oConst (1), oAdd, oDup2, oIaldP [18, 19, 20, 21, 22, 23, 24, 25, 26, 27, 28, 29], oAload 0, oGet 9 10, oSub, oIastP [18, 19, 20, 21, 22, 23, 24, 25, 26, 27, 28, 29], oVret]
def pc_X9_takeFrom (i : Nat) : Nat := ([0, 1, 2, 5, 6, 7, 8, 11, 12, 15, 16, 18, 19, 20, 23, 24, 27, 29, 30, 31, 34, 36, 37, 38, 39, 40, 41, 42, 43, 44, 45, 46, 47, 50, 51, 53, 54, 57, 58, 61, 62, 65, 67, 68, 69, 70, 71, 72, 73, 74, 77, 78, 79, 80, 83, 85, 86, 87, 88, 89, 90, 91, 92, 93, 94, 97, 98, 99] : List Nat).getD i 0
abbrev rm_X9_takeFrom : Room := { frames := 1, cells := 0, slots := 0, locals := 21 }
theorem pl_X9_takeFrom : pPlain yX9_takeFrom 2 := by decide +kernel
set_option maxRecDepth 100000 in
set_option maxHeartbeats 4000000 in
theorem ok_k_X9_takeFrom (l : Launch) : ∀ (i : Nat) (en : pEn), k_X9_takeFrom[i]? = some en → EOK l cX9_takeFrom yX9_takeFrom.cls 5 (none) rm_X9_takeFrom 0 pc_X9_takeFrom i en := by
  refine allOK_at ?_
  refine And.intro (okAload_n dX9_takeFrom_0 rfl rfl) ?_
  refine And.intro (okIload_n dX9_takeFrom_1 rfl rfl) ?_
  refine And.intro (okCallV (y := yX9_sum) (T := TX9) (oCallZ_is _ _ _) dX9_takeFrom_2 rfl (ok_F_X9_sum l) rc_F_X9_sum rfl wm_4_14 wm_4_16 wp_20 wm_1_10 wm_4_17 pl_X9_sum (by decide)) ?_
  refine And.intro (okIstore_n dX9_takeFrom_5 rfl rfl (by decide)) ?_
  refine And.intro (okIload_n dX9_takeFrom_6 rfl rfl) ?_
  refine And.intro (okIload_n dX9_takeFrom_7 rfl rfl) ?_
  refine And.intro (okCge dX9_takeFrom_8 rfl (by rfl)) ?_
  refine And.intro (okIload_n dX9_takeFrom_11 rfl rfl) ?_
  refine And.intro (okGoto dX9_takeFrom_12 (by rfl)) ?_
  refine And.intro (okIload_n dX9_takeFrom_15 rfl rfl) ?_
  refine And.intro (okIstore dX9_takeFrom_16 rfl (by decide)) ?_
  refine And.intro (okAload_n dX9_takeFrom_18 rfl rfl) ?_
  refine And.intro (okIload_n dX9_takeFrom_19 rfl rfl) ?_
  refine And.intro (okIfne dX9_takeFrom_20 rfl (by rfl)) ?_
  refine And.intro (okIconst dX9_takeFrom_23 rfl (by first | rfl | decide)) ?_
  refine And.intro (okGoto dX9_takeFrom_24 (by rfl)) ?_
  refine And.intro (okIload dX9_takeFrom_27 rfl) ?_
  refine And.intro (okI2l dX9_takeFrom_29 rfl) ?_
  refine And.intro (okAload_n dX9_takeFrom_30 rfl rfl) ?_
  refine And.intro (okGet (C := RX9) (T := TX9) (N := 22) dX9_takeFrom_31 rfl rfl (by decide) inX9 wm_3_141) ?_
  refine And.intro (okBipush dX9_takeFrom_34 rfl (by first | rfl | decide)) ?_
  refine And.intro (okIconst dX9_takeFrom_36 rfl (by first | rfl | decide)) ?_
  refine And.intro (okIload_n dX9_takeFrom_37 rfl rfl) ?_
  refine And.intro (okMul dX9_takeFrom_38 rfl) ?_
  refine And.intro (okAdd dX9_takeFrom_39 rfl) ?_
  refine And.intro (okIaldP dX9_takeFrom_40 rfl) ?_
  refine And.intro (okI2l dX9_takeFrom_41 rfl) ?_
  refine And.intro (okLmul dX9_takeFrom_42 rfl) ?_
  refine And.intro (okIload_n dX9_takeFrom_43 rfl rfl) ?_
  refine And.intro (okI2l dX9_takeFrom_44 rfl) ?_
  refine And.intro (okLdiv dX9_takeFrom_45 rfl) ?_
  refine And.intro (okL2i dX9_takeFrom_46 rfl) ?_
  refine And.intro (okPut (C := RX9) (T := TX9) (N := 22) dX9_takeFrom_47 rfl rfl (by decide) inX9 tyX9_ok nmX9 rfl rfl wm_3_150) ?_
  refine And.intro (okAload_n dX9_takeFrom_50 rfl rfl) ?_
  refine And.intro (okIload dX9_takeFrom_51 rfl) ?_
  refine And.intro (okAload_n dX9_takeFrom_53 rfl rfl) ?_
  refine And.intro (okGet (C := RX9) (T := TX9) (N := 22) dX9_takeFrom_54 rfl rfl (by decide) inX9 wm_3_150) ?_
  refine And.intro (okSub dX9_takeFrom_57 rfl) ?_
  refine And.intro (okPut (C := RX9) (T := TX9) (N := 22) dX9_takeFrom_58 rfl rfl (by decide) inX9 tyX9_ok nmX9 rfl rfl wm_3_151) ?_
  refine And.intro (okAload_n dX9_takeFrom_61 rfl rfl) ?_
  refine And.intro (okGet (C := RX9) (T := TX9) (N := 22) dX9_takeFrom_62 rfl rfl (by decide) inX9 wm_3_141) ?_
  refine And.intro (okBipush dX9_takeFrom_65 rfl (by first | rfl | decide)) ?_
  refine And.intro (okIconst dX9_takeFrom_67 rfl (by first | rfl | decide)) ?_
  refine And.intro (okIload_n dX9_takeFrom_68 rfl rfl) ?_
  refine And.intro (okMul dX9_takeFrom_69 rfl) ?_
  refine And.intro (okAdd dX9_takeFrom_70 rfl) ?_
  refine And.intro (okDup2 dX9_takeFrom_71 rfl) ?_
  refine And.intro (okIaldP dX9_takeFrom_72 rfl) ?_
  refine And.intro (okAload_n dX9_takeFrom_73 rfl rfl) ?_
  refine And.intro (okGet (C := RX9) (T := TX9) (N := 22) dX9_takeFrom_74 rfl rfl (by decide) inX9 wm_3_150) ?_
  refine And.intro (okSub dX9_takeFrom_77 rfl) ?_
  refine And.intro (okIastP dX9_takeFrom_78 rfl) ?_
  refine And.intro (okAload_n dX9_takeFrom_79 rfl rfl) ?_
  refine And.intro (okGet (C := RX9) (T := TX9) (N := 22) dX9_takeFrom_80 rfl rfl (by decide) inX9 wm_3_141) ?_
  refine And.intro (okBipush dX9_takeFrom_83 rfl (by first | rfl | decide)) ?_
  refine And.intro (okIconst dX9_takeFrom_85 rfl (by first | rfl | decide)) ?_
  refine And.intro (okIload_n dX9_takeFrom_86 rfl rfl) ?_
  refine And.intro (okMul dX9_takeFrom_87 rfl) ?_
  refine And.intro (okAdd dX9_takeFrom_88 rfl) ?_
  refine And.intro (okIconst dX9_takeFrom_89 rfl (by first | rfl | decide)) ?_
  refine And.intro (okAdd dX9_takeFrom_90 rfl) ?_
  refine And.intro (okDup2 dX9_takeFrom_91 rfl) ?_
  refine And.intro (okIaldP dX9_takeFrom_92 rfl) ?_
  refine And.intro (okAload_n dX9_takeFrom_93 rfl rfl) ?_
  refine And.intro (okGet (C := RX9) (T := TX9) (N := 22) dX9_takeFrom_94 rfl rfl (by decide) inX9 wm_3_151) ?_
  refine And.intro (okSub dX9_takeFrom_97 rfl) ?_
  refine And.intro (okIastP dX9_takeFrom_98 rfl) ?_
  refine And.intro (okVret dX9_takeFrom_99 rfl) ?_
  exact trivial
def G_X9_takeFrom : pG := fun args w => match args with
  | [.ref 0, .int c, .int x] => unM w (fun m => match chI c with
    | some n => some (none, mdl (takeM n m x))
    | none => none)
  | _ => none
set_option maxHeartbeats 400000 in
set_option maxRecDepth 100000 in
theorem run_X9_takeFrom0 (rg : pRg) (m : pLV) (x : Int32) : ∃ fu, ex k_X9_takeFrom fu 0 [(0, .ref 0), (1, .int 0), (2, .int x)] [] (mdl m) rg = some (none, mdl (takeM 0 m x), rg) := by
  refine ⟨60, ?_⟩
  conv => lhs; whnf
  refine (callK_r (cl_X9_sum0 m rg) rfl).trans ?_
  conv => lhs; whnf
  refine pif_c (fun h => ?_) (fun h => ?_)
  · have h : ¬ x < sumM 0 m := Int32.not_lt.mpr h
    conv => lhs; whnf
    refine pif_c (fun h2 => ?_) (fun h2 => ?_)
    · rw [show takeM 0 m x = twM 0 m (sumM 0 m) 0 from by
        unfold takeM; rw [show tmM 0 m x = sumM 0 m from if_neg h]; unfold tfM; rw [if_pos (show sumM 0 m = 0 from h2)]]
      rfl
    · conv => lhs; whnf
      refine (pif_f (ne0_64 h2)).trans ?_
      rw [show takeM 0 m x = twM 0 m (sumM 0 m) ((sumM 0 m : Int32).toInt64 * (m 1 (18 + 3 * 0)).toInt64 / (sumM 0 m).toInt64).toInt32 from by
        unfold takeM; rw [show tmM 0 m x = sumM 0 m from if_neg h]; unfold tfM; rw [if_neg (show ¬ sumM 0 m = 0 from h2)]]
      rfl
  · have h : x < sumM 0 m := Int32.not_le.mp h
    conv => lhs; whnf
    refine pif_c (fun h2 => ?_) (fun h2 => ?_)
    · rw [show takeM 0 m x = twM 0 m (x) 0 from by
        unfold takeM; rw [show tmM 0 m x = x from if_pos h]; unfold tfM; rw [if_pos (show sumM 0 m = 0 from h2)]]
      rfl
    · conv => lhs; whnf
      refine (pif_f (ne0_64 h2)).trans ?_
      rw [show takeM 0 m x = twM 0 m (x) ((x : Int32).toInt64 * (m 1 (18 + 3 * 0)).toInt64 / (sumM 0 m).toInt64).toInt32 from by
        unfold takeM; rw [show tmM 0 m x = x from if_pos h]; unfold tfM; rw [if_neg (show ¬ sumM 0 m = 0 from h2)]]
      rfl
set_option maxHeartbeats 400000 in
set_option maxRecDepth 100000 in
theorem run_X9_takeFrom1 (rg : pRg) (m : pLV) (x : Int32) : ∃ fu, ex k_X9_takeFrom fu 0 [(0, .ref 0), (1, .int 1), (2, .int x)] [] (mdl m) rg = some (none, mdl (takeM 1 m x), rg) := by
  refine ⟨60, ?_⟩
  conv => lhs; whnf
  refine (callK_r (cl_X9_sum1 m rg) rfl).trans ?_
  conv => lhs; whnf
  refine pif_c (fun h => ?_) (fun h => ?_)
  · have h : ¬ x < sumM 1 m := Int32.not_lt.mpr h
    conv => lhs; whnf
    refine pif_c (fun h2 => ?_) (fun h2 => ?_)
    · rw [show takeM 1 m x = twM 1 m (sumM 1 m) 0 from by
        unfold takeM; rw [show tmM 1 m x = sumM 1 m from if_neg h]; unfold tfM; rw [if_pos (show sumM 1 m = 0 from h2)]]
      rfl
    · conv => lhs; whnf
      refine (pif_f (ne0_64 h2)).trans ?_
      rw [show takeM 1 m x = twM 1 m (sumM 1 m) ((sumM 1 m : Int32).toInt64 * (m 1 (18 + 3 * 1)).toInt64 / (sumM 1 m).toInt64).toInt32 from by
        unfold takeM; rw [show tmM 1 m x = sumM 1 m from if_neg h]; unfold tfM; rw [if_neg (show ¬ sumM 1 m = 0 from h2)]]
      rfl
  · have h : x < sumM 1 m := Int32.not_le.mp h
    conv => lhs; whnf
    refine pif_c (fun h2 => ?_) (fun h2 => ?_)
    · rw [show takeM 1 m x = twM 1 m (x) 0 from by
        unfold takeM; rw [show tmM 1 m x = x from if_pos h]; unfold tfM; rw [if_pos (show sumM 1 m = 0 from h2)]]
      rfl
    · conv => lhs; whnf
      refine (pif_f (ne0_64 h2)).trans ?_
      rw [show takeM 1 m x = twM 1 m (x) ((x : Int32).toInt64 * (m 1 (18 + 3 * 1)).toInt64 / (sumM 1 m).toInt64).toInt32 from by
        unfold takeM; rw [show tmM 1 m x = x from if_pos h]; unfold tfM; rw [if_neg (show ¬ sumM 1 m = 0 from h2)]]
      rfl
set_option maxHeartbeats 400000 in
set_option maxRecDepth 100000 in
theorem run_X9_takeFrom2 (rg : pRg) (m : pLV) (x : Int32) : ∃ fu, ex k_X9_takeFrom fu 0 [(0, .ref 0), (1, .int 2), (2, .int x)] [] (mdl m) rg = some (none, mdl (takeM 2 m x), rg) := by
  refine ⟨60, ?_⟩
  conv => lhs; whnf
  refine (callK_r (cl_X9_sum2 m rg) rfl).trans ?_
  conv => lhs; whnf
  refine pif_c (fun h => ?_) (fun h => ?_)
  · have h : ¬ x < sumM 2 m := Int32.not_lt.mpr h
    conv => lhs; whnf
    refine pif_c (fun h2 => ?_) (fun h2 => ?_)
    · rw [show takeM 2 m x = twM 2 m (sumM 2 m) 0 from by
        unfold takeM; rw [show tmM 2 m x = sumM 2 m from if_neg h]; unfold tfM; rw [if_pos (show sumM 2 m = 0 from h2)]]
      rfl
    · conv => lhs; whnf
      refine (pif_f (ne0_64 h2)).trans ?_
      rw [show takeM 2 m x = twM 2 m (sumM 2 m) ((sumM 2 m : Int32).toInt64 * (m 1 (18 + 3 * 2)).toInt64 / (sumM 2 m).toInt64).toInt32 from by
        unfold takeM; rw [show tmM 2 m x = sumM 2 m from if_neg h]; unfold tfM; rw [if_neg (show ¬ sumM 2 m = 0 from h2)]]
      rfl
  · have h : x < sumM 2 m := Int32.not_le.mp h
    conv => lhs; whnf
    refine pif_c (fun h2 => ?_) (fun h2 => ?_)
    · rw [show takeM 2 m x = twM 2 m (x) 0 from by
        unfold takeM; rw [show tmM 2 m x = x from if_pos h]; unfold tfM; rw [if_pos (show sumM 2 m = 0 from h2)]]
      rfl
    · conv => lhs; whnf
      refine (pif_f (ne0_64 h2)).trans ?_
      rw [show takeM 2 m x = twM 2 m (x) ((x : Int32).toInt64 * (m 1 (18 + 3 * 2)).toInt64 / (sumM 2 m).toInt64).toInt32 from by
        unfold takeM; rw [show tmM 2 m x = x from if_pos h]; unfold tfM; rw [if_neg (show ¬ sumM 2 m = 0 from h2)]]
      rfl
set_option maxHeartbeats 400000 in
set_option maxRecDepth 100000 in
theorem run_X9_takeFrom3 (rg : pRg) (m : pLV) (x : Int32) : ∃ fu, ex k_X9_takeFrom fu 0 [(0, .ref 0), (1, .int 3), (2, .int x)] [] (mdl m) rg = some (none, mdl (takeM 3 m x), rg) := by
  refine ⟨60, ?_⟩
  conv => lhs; whnf
  refine (callK_r (cl_X9_sum3 m rg) rfl).trans ?_
  conv => lhs; whnf
  refine pif_c (fun h => ?_) (fun h => ?_)
  · have h : ¬ x < sumM 3 m := Int32.not_lt.mpr h
    conv => lhs; whnf
    refine pif_c (fun h2 => ?_) (fun h2 => ?_)
    · rw [show takeM 3 m x = twM 3 m (sumM 3 m) 0 from by
        unfold takeM; rw [show tmM 3 m x = sumM 3 m from if_neg h]; unfold tfM; rw [if_pos (show sumM 3 m = 0 from h2)]]
      rfl
    · conv => lhs; whnf
      refine (pif_f (ne0_64 h2)).trans ?_
      rw [show takeM 3 m x = twM 3 m (sumM 3 m) ((sumM 3 m : Int32).toInt64 * (m 1 (18 + 3 * 3)).toInt64 / (sumM 3 m).toInt64).toInt32 from by
        unfold takeM; rw [show tmM 3 m x = sumM 3 m from if_neg h]; unfold tfM; rw [if_neg (show ¬ sumM 3 m = 0 from h2)]]
      rfl
  · have h : x < sumM 3 m := Int32.not_le.mp h
    conv => lhs; whnf
    refine pif_c (fun h2 => ?_) (fun h2 => ?_)
    · rw [show takeM 3 m x = twM 3 m (x) 0 from by
        unfold takeM; rw [show tmM 3 m x = x from if_pos h]; unfold tfM; rw [if_pos (show sumM 3 m = 0 from h2)]]
      rfl
    · conv => lhs; whnf
      refine (pif_f (ne0_64 h2)).trans ?_
      rw [show takeM 3 m x = twM 3 m (x) ((x : Int32).toInt64 * (m 1 (18 + 3 * 3)).toInt64 / (sumM 3 m).toInt64).toInt32 from by
        unfold takeM; rw [show tmM 3 m x = x from if_pos h]; unfold tfM; rw [if_neg (show ¬ sumM 3 m = 0 from h2)]]
      rfl
theorem ct_X9_takeFrom (l : Launch) : ∀ args0 w0 v0 w1 rg, G_X9_takeFrom args0 w0 = some (v0, w1) → pCT l yX9_takeFrom (pWs yX9_takeFrom cX9_takeFrom 5 (none)) rm_X9_takeFrom args0 w0 rg (v0, w1, rg) := by
  intro args0 w0 v0 w1 rg h
  unfold G_X9_takeFrom at h
  split at h
  next c x =>
    obtain ⟨m, hw, h2⟩ := unM_some h
    clear h
    subst hw
    split at h2
    next n hn =>
      cases h2
      rcases chI_in hn with ⟨rfl, rfl⟩ | ⟨rfl, rfl⟩ | ⟨rfl, rfl⟩ | ⟨rfl, rfl⟩
      · exact met_of_exM (by decide) (ok_k_X9_takeFrom l) rfl (run_X9_takeFrom0 rg m x) (Nat.le_of_ble_eq_true rfl) rfl rfl
      · exact met_of_exM (by decide) (ok_k_X9_takeFrom l) rfl (run_X9_takeFrom1 rg m x) (Nat.le_of_ble_eq_true rfl) rfl rfl
      · exact met_of_exM (by decide) (ok_k_X9_takeFrom l) rfl (run_X9_takeFrom2 rg m x) (Nat.le_of_ble_eq_true rfl) rfl rfl
      · exact met_of_exM (by decide) (ok_k_X9_takeFrom l) rfl (run_X9_takeFrom3 rg m x) (Nat.le_of_ble_eq_true rfl) rfl rfl
    next => cases h2
  next => cases h
def F_X9_takeFrom : pF := faN G_X9_takeFrom
theorem ok_F_X9_takeFrom (l : Launch) : pFOK l yX9_takeFrom (pWs yX9_takeFrom cX9_takeFrom 5 (none)) rm_X9_takeFrom F_X9_takeFrom := pFOK_fa (fun a b c d rg h => ct_X9_takeFrom l a b c d rg h)
theorem rc_F_X9_takeFrom : pRcv 9 F_X9_takeFrom := pRcv_fa (fun a b c d h => by
  unfold G_X9_takeFrom at h
  split at h
  next =>
    obtain ⟨m, rfl, h⟩ := unM_some h
    exact ⟨_, _, _, rfl, rfl⟩
  next => cases h)
theorem cl_X9_takeFrom0 (m : pLV) (x : Int32) (rg : pRg) : F_X9_takeFrom [.ref 0, .int 0, .int x] (mdl m) rg = some (none, mdl (takeM 0 (NM m) x), rg) := rfl
theorem cl_X9_takeFrom1 (m : pLV) (x : Int32) (rg : pRg) : F_X9_takeFrom [.ref 0, .int 1, .int x] (mdl m) rg = some (none, mdl (takeM 1 (NM m) x), rg) := rfl
theorem cl_X9_takeFrom2 (m : pLV) (x : Int32) (rg : pRg) : F_X9_takeFrom [.ref 0, .int 2, .int x] (mdl m) rg = some (none, mdl (takeM 2 (NM m) x), rg) := rfl
theorem cl_X9_takeFrom3 (m : pLV) (x : Int32) (rg : pRg) : F_X9_takeFrom [.ref 0, .int 3, .int x] (mdl m) rg = some (none, mdl (takeM 3 (NM m) x), rg) := rfl
end
