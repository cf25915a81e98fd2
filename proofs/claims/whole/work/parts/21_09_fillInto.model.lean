noncomputable section
def flA (n : Nat) (m : pLV) (a b : Int32) : pLV := vA m 1 (upd (upd (m 1) (18 + 3 * n) (m 1 (18 + 3 * n) + a)) (19 + 3 * n) (upd (m 1) (18 + 3 * n) (m 1 (18 + 3 * n) + a) (19 + 3 * n) + b))
def flS (n : Nat) (x : pLV) : Int32 := sumM n x - rmI (Int32.ofNat n)
def flT (n : Nat) (x : pLV) : pLV := takeM n (NM (vS x 11 1)) (flS n x)
def flW (y : pLV) : pLV := vA y 1 (upd (y 1) 32 (y 1 32 + y 0 9))
def flR (n : Nat) (x : pLV) : Int32 := if flS n x ≤ 0 then 0 else flT n x 0 9
def flV (n : Nat) (x : pLV) : pLV := if flS n x ≤ 0 then vS x 11 0 else flW (flT n x)
def fillR (n : Nat) (m : pLV) (a b : Int32) : Int32 := flR n (NM (flA n m a b))
def fillM (n : Nat) (m : pLV) (a b : Int32) : pLV := flV n (NM (flA n m a b))
theorem dX9_fillInto_0 : decode cX9_fillInto 0 = .ok (.aload_n 0, 1) := by decide +kernel
theorem dX9_fillInto_1 : decode cX9_fillInto 1 = .ok (.getfield 7, 3) := by decide +kernel
theorem dX9_fillInto_4 : decode cX9_fillInto 4 = .ok (.bipush 18, 2) := by decide +kernel
theorem dX9_fillInto_6 : decode cX9_fillInto 6 = .ok (.iconst 3, 1) := by decide +kernel
theorem dX9_fillInto_7 : decode cX9_fillInto 7 = .ok (.iload_n 1, 1) := by decide +kernel
theorem dX9_fillInto_8 : decode cX9_fillInto 8 = .ok (.imul, 1) := by decide +kernel
theorem dX9_fillInto_9 : decode cX9_fillInto 9 = .ok (.iadd, 1) := by decide +kernel
theorem dX9_fillInto_10 : decode cX9_fillInto 10 = .ok (.dup2, 1) := by decide +kernel
theorem dX9_fillInto_11 : decode cX9_fillInto 11 = .ok (.iaload, 1) := by decide +kernel
theorem dX9_fillInto_12 : decode cX9_fillInto 12 = .ok (.iload_n 2, 1) := by decide +kernel
theorem dX9_fillInto_13 : decode cX9_fillInto 13 = .ok (.iadd, 1) := by decide +kernel
theorem dX9_fillInto_14 : decode cX9_fillInto 14 = .ok (.iastore, 1) := by decide +kernel
theorem dX9_fillInto_15 : decode cX9_fillInto 15 = .ok (.aload_n 0, 1) := by decide +kernel
theorem dX9_fillInto_16 : decode cX9_fillInto 16 = .ok (.getfield 7, 3) := by decide +kernel
theorem dX9_fillInto_19 : decode cX9_fillInto 19 = .ok (.bipush 18, 2) := by decide +kernel
theorem dX9_fillInto_21 : decode cX9_fillInto 21 = .ok (.iconst 3, 1) := by decide +kernel
theorem dX9_fillInto_22 : decode cX9_fillInto 22 = .ok (.iload_n 1, 1) := by decide +kernel
theorem dX9_fillInto_23 : decode cX9_fillInto 23 = .ok (.imul, 1) := by decide +kernel
theorem dX9_fillInto_24 : decode cX9_fillInto 24 = .ok (.iadd, 1) := by decide +kernel
theorem dX9_fillInto_25 : decode cX9_fillInto 25 = .ok (.iconst 1, 1) := by decide +kernel
theorem dX9_fillInto_26 : decode cX9_fillInto 26 = .ok (.iadd, 1) := by decide +kernel
theorem dX9_fillInto_27 : decode cX9_fillInto 27 = .ok (.dup2, 1) := by decide +kernel
theorem dX9_fillInto_28 : decode cX9_fillInto 28 = .ok (.iaload, 1) := by decide +kernel
theorem dX9_fillInto_29 : decode cX9_fillInto 29 = .ok (.iload_n 3, 1) := by decide +kernel
theorem dX9_fillInto_30 : decode cX9_fillInto 30 = .ok (.iadd, 1) := by decide +kernel
theorem dX9_fillInto_31 : decode cX9_fillInto 31 = .ok (.iastore, 1) := by decide +kernel
theorem dX9_fillInto_32 : decode cX9_fillInto 32 = .ok (.aload_n 0, 1) := by decide +kernel
theorem dX9_fillInto_33 : decode cX9_fillInto 33 = .ok (.iload_n 1, 1) := by decide +kernel
theorem dX9_fillInto_34 : decode cX9_fillInto 34 = .ok (.invokevirtual 45, 3) := by decide +kernel
theorem dX9_fillInto_37 : decode cX9_fillInto 37 = .ok (.iload_n 1, 1) := by decide +kernel
theorem dX9_fillInto_38 : decode cX9_fillInto 38 = .ok (.invokestatic 55, 3) := by decide +kernel
theorem dX9_fillInto_41 : decode cX9_fillInto 41 = .ok (.isub, 1) := by decide +kernel
theorem dX9_fillInto_42 : decode cX9_fillInto 42 = .ok (.istore 4, 2) := by decide +kernel
theorem dX9_fillInto_44 : decode cX9_fillInto 44 = .ok (.aload_n 0, 1) := by decide +kernel
theorem dX9_fillInto_45 : decode cX9_fillInto 45 = .ok (.iload 4, 2) := by decide +kernel
theorem dX9_fillInto_47 : decode cX9_fillInto 47 = .ok (.ifCond .le 7, 3) := by decide +kernel
theorem dX9_fillInto_50 : decode cX9_fillInto 50 = .ok (.iconst 1, 1) := by decide +kernel
theorem dX9_fillInto_51 : decode cX9_fillInto 51 = .ok (.goto 4, 3) := by decide +kernel
theorem dX9_fillInto_54 : decode cX9_fillInto 54 = .ok (.iconst 0, 1) := by decide +kernel
theorem dX9_fillInto_55 : decode cX9_fillInto 55 = .ok (.putfield 58, 3) := by decide +kernel
theorem dX9_fillInto_58 : decode cX9_fillInto 58 = .ok (.aload_n 0, 1) := by decide +kernel
theorem dX9_fillInto_59 : decode cX9_fillInto 59 = .ok (.getfield 58, 3) := by decide +kernel
theorem dX9_fillInto_62 : decode cX9_fillInto 62 = .ok (.ifCond .ne 5, 3) := by decide +kernel
theorem dX9_fillInto_65 : decode cX9_fillInto 65 = .ok (.iconst 0, 1) := by decide +kernel
theorem dX9_fillInto_66 : decode cX9_fillInto 66 = .ok (.ireturn, 1) := by decide +kernel
theorem dX9_fillInto_67 : decode cX9_fillInto 67 = .ok (.aload_n 0, 1) := by decide +kernel
theorem dX9_fillInto_68 : decode cX9_fillInto 68 = .ok (.iload_n 1, 1) := by decide +kernel
theorem dX9_fillInto_69 : decode cX9_fillInto 69 = .ok (.iload 4, 2) := by decide +kernel
theorem dX9_fillInto_71 : decode cX9_fillInto 71 = .ok (.invokevirtual 62, 3) := by decide +kernel
theorem dX9_fillInto_74 : decode cX9_fillInto 74 = .ok (.aload_n 0, 1) := by decide +kernel
theorem dX9_fillInto_75 : decode cX9_fillInto 75 = .ok (.getfield 7, 3) := by decide +kernel
theorem dX9_fillInto_78 : decode cX9_fillInto 78 = .ok (.bipush 32, 2) := by decide +kernel
theorem dX9_fillInto_80 : decode cX9_fillInto 80 = .ok (.dup2, 1) := by decide +kernel
theorem dX9_fillInto_81 : decode cX9_fillInto 81 = .ok (.iaload, 1) := by decide +kernel
theorem dX9_fillInto_82 : decode cX9_fillInto 82 = .ok (.aload_n 0, 1) := by decide +kernel
theorem dX9_fillInto_83 : decode cX9_fillInto 83 = .ok (.getfield 49, 3) := by decide +kernel
theorem dX9_fillInto_86 : decode cX9_fillInto 86 = .ok (.iadd, 1) := by decide +kernel
theorem dX9_fillInto_87 : decode cX9_fillInto 87 = .ok (.iastore, 1) := by decide +kernel
theorem dX9_fillInto_88 : decode cX9_fillInto 88 = .ok (.aload_n 0, 1) := by decide +kernel
theorem dX9_fillInto_89 : decode cX9_fillInto 89 = .ok (.getfield 49, 3) := by decide +kernel
theorem dX9_fillInto_92 : decode cX9_fillInto 92 = .ok (.ireturn, 1) := by decide +kernel
def k_X9_fillInto : List pEn := [oAload 0, oGet 9 0, oConst (18), oConst (3), oIload 1, oMul, oAdd, oDup2, oIaldP [18, 19, 20, 21, 22, 23, 24, 25, 26, 27, 28, 29], oIload 2, oAdd, oIastP [18, 19, 20, 21, 22, 23, 24, 25, 26, 27, 28, 29], oAload 0, oGet 9 0, oConst (18), oConst (3), oIload 1, oMul, oAdd, oConst (1), oAdd, oDup2, oIaldP [18, 19, 20, 21, 22, 23, 24, 25, 26, 27, 28, 29], oIload 3, oAdd, oIastP [18, 19, 20, 21, 22, 23, 24, 25, 26, 27, 28, 29], oAload 0, oIload 1, oCallZ 2 F_X9_sum, oIload 1, oCall 1 F_X9_roomOf, oSub, oIstore 4, oAload 0, oIload 4, oIfle 38, oConst (1), oGoto 39, oConst (0), oPutB 9 11, oAload 0, oGet 9 11, oIfne 45, oConst (0), oIret, oAload 0, oIload 1, oIload 4, oCallZ 3 F_X9_takeFrom, oAload 0, oGet 9 0, oConst (32), oDup2, oIaldN 32, oAload 0, oGet 9 9, oAdd, oIastN 32, oAload 0, oGet 9 9, oIret]
def pc_X9_fillInto (i : Nat) : Nat := ([0, 1, 4, 6, 7, 8, 9, 10, 11, 12, 13, 14, 15, 16, 19, 21, 22, 23, 24, 25, 26, 27, 28, 29, 30, 31, 32, 33, 34, 37, 38, 41, 42, 44, 45, 47, 50, 51, 54, 55, 58, 59, 62, 65, 66, 67, 68, 69, 71, 74, 75, 78, 80, 81, 82, 83, 86, 87, 88, 89, 92] : List Nat).getD i 0
abbrev rm_X9_fillInto : Room := { frames := 2, cells := 0, slots := 0, locals := 45 }
theorem pl_X9_fillInto : pPlain yX9_fillInto 3 := by decide +kernel
set_option maxRecDepth 100000 in
set_option maxHeartbeats 4000000 in
theorem ok_k_X9_fillInto (l : Launch) : ∀ (i : Nat) (en : pEn), k_X9_fillInto[i]? = some en → EOK l cX9_fillInto yX9_fillInto.cls 5 ((some FieldType.int)) rm_X9_fillInto 0 pc_X9_fillInto i en := by
  refine allOK_at ?_
  refine And.intro (okAload_n dX9_fillInto_0 rfl rfl) ?_
  refine And.intro (okGet (C := RX9) (T := TX9) (N := 22) dX9_fillInto_1 rfl rfl (by decide) inX9 wm_3_141) ?_
  refine And.intro (okBipush dX9_fillInto_4 rfl (by first | rfl | decide)) ?_
  refine And.intro (okIconst dX9_fillInto_6 rfl (by first | rfl | decide)) ?_
  refine And.intro (okIload_n dX9_fillInto_7 rfl rfl) ?_
  refine And.intro (okMul dX9_fillInto_8 rfl) ?_
  refine And.intro (okAdd dX9_fillInto_9 rfl) ?_
  refine And.intro (okDup2 dX9_fillInto_10 rfl) ?_
  refine And.intro (okIaldP dX9_fillInto_11 rfl) ?_
  refine And.intro (okIload_n dX9_fillInto_12 rfl rfl) ?_
  refine And.intro (okAdd dX9_fillInto_13 rfl) ?_
  refine And.intro (okIastP dX9_fillInto_14 rfl) ?_
  refine And.intro (okAload_n dX9_fillInto_15 rfl rfl) ?_
  refine And.intro (okGet (C := RX9) (T := TX9) (N := 22) dX9_fillInto_16 rfl rfl (by decide) inX9 wm_3_141) ?_
  refine And.intro (okBipush dX9_fillInto_19 rfl (by first | rfl | decide)) ?_
  refine And.intro (okIconst dX9_fillInto_21 rfl (by first | rfl | decide)) ?_
  refine And.intro (okIload_n dX9_fillInto_22 rfl rfl) ?_
  refine And.intro (okMul dX9_fillInto_23 rfl) ?_
  refine And.intro (okAdd dX9_fillInto_24 rfl) ?_
  refine And.intro (okIconst dX9_fillInto_25 rfl (by first | rfl | decide)) ?_
  refine And.intro (okAdd dX9_fillInto_26 rfl) ?_
  refine And.intro (okDup2 dX9_fillInto_27 rfl) ?_
  refine And.intro (okIaldP dX9_fillInto_28 rfl) ?_
  refine And.intro (okIload_n dX9_fillInto_29 rfl rfl) ?_
  refine And.intro (okAdd dX9_fillInto_30 rfl) ?_
  refine And.intro (okIastP dX9_fillInto_31 rfl) ?_
  refine And.intro (okAload_n dX9_fillInto_32 rfl rfl) ?_
  refine And.intro (okIload_n dX9_fillInto_33 rfl rfl) ?_
  refine And.intro (okCallV (y := yX9_sum) (T := TX9) (oCallZ_is _ _ _) dX9_fillInto_34 rfl (ok_F_X9_sum l) rc_F_X9_sum rfl wm_4_14 wm_4_16 wp_20 wm_1_10 wm_4_17 pl_X9_sum (by decide)) ?_
  refine And.intro (okIload_n dX9_fillInto_37 rfl rfl) ?_
  refine And.intro (okCallS (y := yX9_roomOf) (oCall_is _ _ _) dX9_fillInto_38 rfl (ok_F_X9_roomOf l) wm_4_18 wm_4_19 wm_1_10 wm_4_20 pl_X9_roomOf (by decide)) ?_
  refine And.intro (okSub dX9_fillInto_41 rfl) ?_
  refine And.intro (okIstore dX9_fillInto_42 rfl (by decide)) ?_
  refine And.intro (okAload_n dX9_fillInto_44 rfl rfl) ?_
  refine And.intro (okIload dX9_fillInto_45 rfl) ?_
  refine And.intro (okIfle dX9_fillInto_47 rfl (by rfl)) ?_
  refine And.intro (okIconst dX9_fillInto_50 rfl (by first | rfl | decide)) ?_
  refine And.intro (okGoto dX9_fillInto_51 (by rfl)) ?_
  refine And.intro (okIconst dX9_fillInto_54 rfl (by first | rfl | decide)) ?_
  refine And.intro (okPutB (C := RX9) (T := TX9) (N := 22) dX9_fillInto_55 rfl rfl (by decide) inX9 tyX9_ok nmX9 rfl rfl wm_3_152) ?_
  refine And.intro (okAload_n dX9_fillInto_58 rfl rfl) ?_
  refine And.intro (okGet (C := RX9) (T := TX9) (N := 22) dX9_fillInto_59 rfl rfl (by decide) inX9 wm_3_152) ?_
  refine And.intro (okIfne dX9_fillInto_62 rfl (by rfl)) ?_
  refine And.intro (okIconst dX9_fillInto_65 rfl (by first | rfl | decide)) ?_
  refine And.intro (okIret dX9_fillInto_66 rfl) ?_
  refine And.intro (okAload_n dX9_fillInto_67 rfl rfl) ?_
  refine And.intro (okIload_n dX9_fillInto_68 rfl rfl) ?_
  refine And.intro (okIload dX9_fillInto_69 rfl) ?_
  refine And.intro (okCallV (y := yX9_takeFrom) (T := TX9) (oCallZ_is _ _ _) dX9_fillInto_71 rfl (ok_F_X9_takeFrom l) rc_F_X9_takeFrom rfl wm_4_21 wm_4_23 wp_21 wm_1_10 wm_4_24 pl_X9_takeFrom (by decide)) ?_
  refine And.intro (okAload_n dX9_fillInto_74 rfl rfl) ?_
  refine And.intro (okGet (C := RX9) (T := TX9) (N := 22) dX9_fillInto_75 rfl rfl (by decide) inX9 wm_3_141) ?_
  refine And.intro (okBipush dX9_fillInto_78 rfl (by first | rfl | decide)) ?_
  refine And.intro (okDup2 dX9_fillInto_80 rfl) ?_
  refine And.intro (okIaldN dX9_fillInto_81 rfl) ?_
  refine And.intro (okAload_n dX9_fillInto_82 rfl rfl) ?_
  refine And.intro (okGet (C := RX9) (T := TX9) (N := 22) dX9_fillInto_83 rfl rfl (by decide) inX9 wm_3_150) ?_
  refine And.intro (okAdd dX9_fillInto_86 rfl) ?_
  refine And.intro (okIastN dX9_fillInto_87 rfl) ?_
  refine And.intro (okAload_n dX9_fillInto_88 rfl rfl) ?_
  refine And.intro (okGet (C := RX9) (T := TX9) (N := 22) dX9_fillInto_89 rfl rfl (by decide) inX9 wm_3_150) ?_
  refine And.intro (okIret dX9_fillInto_92 rfl) ?_
  exact trivial
def G_X9_fillInto : pG := fun args w => match args with
  | [.ref 0, .int c, .int a, .int b] => unM w (fun m => match chI c with
    | some n => some (some (.int (fillR n m a b)), mdl (fillM n m a b))
    | none => none)
  | _ => none
set_option maxHeartbeats 400000 in
set_option maxRecDepth 100000 in
theorem run_X9_fillInto0 (rg : pRg) (m : pLV) (a b : Int32) : ∃ fu, ex k_X9_fillInto fu 0 [(0, .ref 0), (1, .int 0), (2, .int a), (3, .int b)] [] (mdl m) rg = some (some (.int (fillR 0 m a b)), mdl (fillM 0 m a b), rg) := by
  refine ⟨60, ?_⟩
  conv => lhs; whnf
  refine (callK_r (cl_X9_sum0 (flA 0 m a b) rg) rfl).trans ?_
  unfold fillM fillR
  generalize NM (flA 0 m a b) = x
  revert x; refine id ?_; intro x
  conv => lhs; whnf
  refine pif_c (fun h => ?_) (fun h => ?_)
  · have h : flS 0 x ≤ 0 := h
    conv => lhs; whnf
    refine (pif_t (by decide)).trans ?_
    conv => lhs; whnf
    refine (pif_t (by decide)).trans ?_
    simp only [flR, flV, if_pos h] <;> rfl
  · have h : ¬ flS 0 x ≤ 0 := h
    conv => lhs; whnf
    refine (pif_t (by decide)).trans ?_
    conv => lhs; whnf
    refine (pif_f (by decide)).trans ?_
    conv => lhs; whnf
    refine (callK_v (cl_X9_takeFrom0 (vS x 11 1) (flS 0 x) rg) rfl).trans ?_
    simp only [flR, flV, if_neg h, flT]
    generalize takeM 0 (NM (vS x 11 1)) (flS 0 x) = y
    revert y; refine id ?_; intro y
    rfl
set_option maxHeartbeats 400000 in
set_option maxRecDepth 100000 in
theorem run_X9_fillInto1 (rg : pRg) (m : pLV) (a b : Int32) : ∃ fu, ex k_X9_fillInto fu 0 [(0, .ref 0), (1, .int 1), (2, .int a), (3, .int b)] [] (mdl m) rg = some (some (.int (fillR 1 m a b)), mdl (fillM 1 m a b), rg) := by
  refine ⟨60, ?_⟩
  conv => lhs; whnf
  refine (callK_r (cl_X9_sum1 (flA 1 m a b) rg) rfl).trans ?_
  unfold fillM fillR
  generalize NM (flA 1 m a b) = x
  revert x; refine id ?_; intro x
  conv => lhs; whnf
  refine pif_c (fun h => ?_) (fun h => ?_)
  · have h : flS 1 x ≤ 0 := h
    conv => lhs; whnf
    refine (pif_t (by decide)).trans ?_
    conv => lhs; whnf
    refine (pif_t (by decide)).trans ?_
    simp only [flR, flV, if_pos h] <;> rfl
  · have h : ¬ flS 1 x ≤ 0 := h
    conv => lhs; whnf
    refine (pif_t (by decide)).trans ?_
    conv => lhs; whnf
    refine (pif_f (by decide)).trans ?_
    conv => lhs; whnf
    refine (callK_v (cl_X9_takeFrom1 (vS x 11 1) (flS 1 x) rg) rfl).trans ?_
    simp only [flR, flV, if_neg h, flT]
    generalize takeM 1 (NM (vS x 11 1)) (flS 1 x) = y
    revert y; refine id ?_; intro y
    rfl
set_option maxHeartbeats 400000 in
set_option maxRecDepth 100000 in
theorem run_X9_fillInto2 (rg : pRg) (m : pLV) (a b : Int32) : ∃ fu, ex k_X9_fillInto fu 0 [(0, .ref 0), (1, .int 2), (2, .int a), (3, .int b)] [] (mdl m) rg = some (some (.int (fillR 2 m a b)), mdl (fillM 2 m a b), rg) := by
  refine ⟨60, ?_⟩
  conv => lhs; whnf
  refine (callK_r (cl_X9_sum2 (flA 2 m a b) rg) rfl).trans ?_
  unfold fillM fillR
  generalize NM (flA 2 m a b) = x
  revert x; refine id ?_; intro x
  conv => lhs; whnf
  refine pif_c (fun h => ?_) (fun h => ?_)
  · have h : flS 2 x ≤ 0 := h
    conv => lhs; whnf
    refine (pif_t (by decide)).trans ?_
    conv => lhs; whnf
    refine (pif_t (by decide)).trans ?_
    simp only [flR, flV, if_pos h] <;> rfl
  · have h : ¬ flS 2 x ≤ 0 := h
    conv => lhs; whnf
    refine (pif_t (by decide)).trans ?_
    conv => lhs; whnf
    refine (pif_f (by decide)).trans ?_
    conv => lhs; whnf
    refine (callK_v (cl_X9_takeFrom2 (vS x 11 1) (flS 2 x) rg) rfl).trans ?_
    simp only [flR, flV, if_neg h, flT]
    generalize takeM 2 (NM (vS x 11 1)) (flS 2 x) = y
    revert y; refine id ?_; intro y
    rfl
set_option maxHeartbeats 400000 in
set_option maxRecDepth 100000 in
theorem run_X9_fillInto3 (rg : pRg) (m : pLV) (a b : Int32) : ∃ fu, ex k_X9_fillInto fu 0 [(0, .ref 0), (1, .int 3), (2, .int a), (3, .int b)] [] (mdl m) rg = some (some (.int (fillR 3 m a b)), mdl (fillM 3 m a b), rg) := by
  refine ⟨60, ?_⟩
  conv => lhs; whnf
  refine (callK_r (cl_X9_sum3 (flA 3 m a b) rg) rfl).trans ?_
  unfold fillM fillR
  generalize NM (flA 3 m a b) = x
  revert x; refine id ?_; intro x
  conv => lhs; whnf
  refine pif_c (fun h => ?_) (fun h => ?_)
  · have h : flS 3 x ≤ 0 := h
    conv => lhs; whnf
    refine (pif_t (by decide)).trans ?_
    conv => lhs; whnf
    refine (pif_t (by decide)).trans ?_
    simp only [flR, flV, if_pos h] <;> rfl
  · have h : ¬ flS 3 x ≤ 0 := h
    conv => lhs; whnf
    refine (pif_t (by decide)).trans ?_
    conv => lhs; whnf
    refine (pif_f (by decide)).trans ?_
    conv => lhs; whnf
    refine (callK_v (cl_X9_takeFrom3 (vS x 11 1) (flS 3 x) rg) rfl).trans ?_
    simp only [flR, flV, if_neg h, flT]
    generalize takeM 3 (NM (vS x 11 1)) (flS 3 x) = y
    revert y; refine id ?_; intro y
    rfl
theorem ct_X9_fillInto (l : Launch) : ∀ args0 w0 v0 w1 rg, G_X9_fillInto args0 w0 = some (v0, w1) → pCT l yX9_fillInto (pWs yX9_fillInto cX9_fillInto 5 ((some FieldType.int))) rm_X9_fillInto args0 w0 rg (v0, w1, rg) := by
  intro args0 w0 v0 w1 rg h
  unfold G_X9_fillInto at h
  split at h
  next c a b =>
    obtain ⟨m, hw, h2⟩ := unM_some h
    clear h
    subst hw
    split at h2
    next n hn =>
      cases h2
      rcases chI_in hn with ⟨rfl, rfl⟩ | ⟨rfl, rfl⟩ | ⟨rfl, rfl⟩ | ⟨rfl, rfl⟩
      · exact met_of_exM (by decide) (ok_k_X9_fillInto l) rfl (run_X9_fillInto0 rg m a b) (Nat.le_of_ble_eq_true rfl) rfl rfl
      · exact met_of_exM (by decide) (ok_k_X9_fillInto l) rfl (run_X9_fillInto1 rg m a b) (Nat.le_of_ble_eq_true rfl) rfl rfl
      · exact met_of_exM (by decide) (ok_k_X9_fillInto l) rfl (run_X9_fillInto2 rg m a b) (Nat.le_of_ble_eq_true rfl) rfl rfl
      · exact met_of_exM (by decide) (ok_k_X9_fillInto l) rfl (run_X9_fillInto3 rg m a b) (Nat.le_of_ble_eq_true rfl) rfl rfl
    next => cases h2
  next => cases h
def F_X9_fillInto : pF := faN G_X9_fillInto
theorem ok_F_X9_fillInto (l : Launch) : pFOK l yX9_fillInto (pWs yX9_fillInto cX9_fillInto 5 ((some FieldType.int))) rm_X9_fillInto F_X9_fillInto := pFOK_fa (fun a b c d rg h => ct_X9_fillInto l a b c d rg h)
theorem rc_F_X9_fillInto : pRcv 9 F_X9_fillInto := pRcv_fa (fun a b c d h => by
  unfold G_X9_fillInto at h
  split at h
  next =>
    obtain ⟨m, rfl, h⟩ := unM_some h
    exact ⟨_, _, _, rfl, rfl⟩
  next => cases h)
theorem cl_X9_fillInto0 (m : pLV) (a b : Int32) (rg : pRg) : F_X9_fillInto [.ref 0, .int 0, .int a, .int b] (mdl m) rg = some (some (.int (fillR 0 (NM m) a b)), mdl (fillM 0 (NM m) a b), rg) := rfl
theorem cl_X9_fillInto1 (m : pLV) (a b : Int32) (rg : pRg) : F_X9_fillInto [.ref 0, .int 1, .int a, .int b] (mdl m) rg = some (some (.int (fillR 1 (NM m) a b)), mdl (fillM 1 (NM m) a b), rg) := rfl
theorem cl_X9_fillInto2 (m : pLV) (a b : Int32) (rg : pRg) : F_X9_fillInto [.ref 0, .int 2, .int a, .int b] (mdl m) rg = some (some (.int (fillR 2 (NM m) a b)), mdl (fillM 2 (NM m) a b), rg) := rfl
theorem cl_X9_fillInto3 (m : pLV) (a b : Int32) (rg : pRg) : F_X9_fillInto [.ref 0, .int 3, .int a, .int b] (mdl m) rg = some (some (.int (fillR 3 (NM m) a b)), mdl (fillM 3 (NM m) a b), rg) := rfl
end
