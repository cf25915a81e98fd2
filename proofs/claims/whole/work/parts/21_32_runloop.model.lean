noncomputable section
def tmI : Nat → pLV → pLV
  | 0, m => m
  | k + 1, m => tickM (NM (tmI k m))
def tksOK (n : Nat) (m : pLV) : Prop := ∀ k, k < n → tOK (NM (tmI k m))
theorem clamp_lt (n : Int32) : n.toNatClampNeg < 2 ^ 31 := by
  have h1 : n.toNatClampNeg = n.toInt.toNat := rfl
  have h2 : n.toInt < 2 ^ 31 := Int32.toInt_lt n
  omega
def runR (m : pLV) (n : Int32) : Int32 := if inI n 1 200 = 0 then -1 else apM (tmI n.toNatClampNeg (rememM (NM m))) - apM (rememM (NM m))
def runM (m : pLV) (n : Int32) : pLV := if inI n 1 200 = 0 then m else tmI n.toNatClampNeg (rememM (NM m))
def runOK (m : pLV) (n : Int32) : Prop := pOK m ∧ (inI n 1 200 = 0 ∨ tksOK n.toNatClampNeg (rememM (NM m)))
theorem dX9_run_0 : decode cX9_run 0 = .ok (.iload_n 1, 1) := by decide +kernel
theorem dX9_run_1 : decode cX9_run 1 = .ok (.iconst 1, 1) := by decide +kernel
theorem dX9_run_2 : decode cX9_run 2 = .ok (.sipush 200, 3) := by decide +kernel
theorem dX9_run_5 : decode cX9_run 5 = .ok (.invokestatic 41, 3) := by decide +kernel
theorem dX9_run_8 : decode cX9_run 8 = .ok (.ifCond .ne 5, 3) := by decide +kernel
theorem dX9_run_11 : decode cX9_run 11 = .ok (.iconst (-1), 1) := by decide +kernel
theorem dX9_run_12 : decode cX9_run 12 = .ok (.ireturn, 1) := by decide +kernel
theorem dX9_run_13 : decode cX9_run 13 = .ok (.aload_n 0, 1) := by decide +kernel
theorem dX9_run_14 : decode cX9_run 14 = .ok (.invokevirtual 141, 3) := by decide +kernel
theorem dX9_run_17 : decode cX9_run 17 = .ok (.aload_n 0, 1) := by decide +kernel
theorem dX9_run_18 : decode cX9_run 18 = .ok (.invokevirtual 156, 3) := by decide +kernel
theorem dX9_run_21 : decode cX9_run 21 = .ok (.istore_n 2, 1) := by decide +kernel
theorem dX9_run_22 : decode cX9_run 22 = .ok (.iconst 0, 1) := by decide +kernel
theorem dX9_run_23 : decode cX9_run 23 = .ok (.istore_n 3, 1) := by decide +kernel
theorem dX9_run_24 : decode cX9_run 24 = .ok (.iload_n 3, 1) := by decide +kernel
theorem dX9_run_25 : decode cX9_run 25 = .ok (.iload_n 1, 1) := by decide +kernel
theorem dX9_run_26 : decode cX9_run 26 = .ok (.if_icmp .ge 13, 3) := by decide +kernel
theorem dX9_run_29 : decode cX9_run 29 = .ok (.aload_n 0, 1) := by decide +kernel
theorem dX9_run_30 : decode cX9_run 30 = .ok (.invokevirtual 160, 3) := by decide +kernel
theorem dX9_run_33 : decode cX9_run 33 = .ok (.iinc 3 1, 3) := by decide +kernel
theorem dX9_run_36 : decode cX9_run 36 = .ok (.goto (-12), 3) := by decide +kernel
theorem dX9_run_39 : decode cX9_run 39 = .ok (.aload_n 0, 1) := by decide +kernel
theorem dX9_run_40 : decode cX9_run 40 = .ok (.invokevirtual 156, 3) := by decide +kernel
theorem dX9_run_43 : decode cX9_run 43 = .ok (.iload_n 2, 1) := by decide +kernel
theorem dX9_run_44 : decode cX9_run 44 = .ok (.isub, 1) := by decide +kernel
theorem dX9_run_45 : decode cX9_run 45 = .ok (.ireturn, 1) := by decide +kernel
def k_X9_run : List pEn := [oIload 1, oConst (1), oConst (200), oCall 3 F_X9_isIn, oIfne 7, oConst (-1), oIret, oAload 0, oCallZ 1 F_X9_remember, oAload 0, oCallZ 1 F_X9_allPaper, oIstore 2, oConst (0), oIstore 3, oIload 3, oIload 1, oCge 21, oAload 0, oCallZ 1 F_X9_tick, oIinc 3 (1), oGoto 14, oAload 0, oCallZ 1 F_X9_allPaper, oIload 2, oSub, oIret]
def pc_X9_run (i : Nat) : Nat := ([0, 1, 2, 5, 8, 11, 12, 13, 14, 17, 18, 21, 22, 23, 24, 25, 26, 29, 30, 33, 36, 39, 40, 43, 44, 45] : List Nat).getD i 0
abbrev rm_X9_run : Room := { frames := 5, cells := 0, slots := 0, locals := 120 }
theorem pl_X9_run : pPlain yX9_run 1 := by decide +kernel
set_option maxRecDepth 100000 in
set_option maxHeartbeats 4000000 in
theorem ok_k_X9_run (l : Launch) : ∀ (i : Nat) (en : pEn), k_X9_run[i]? = some en → EOK l cX9_run yX9_run.cls 4 ((some FieldType.int)) rm_X9_run 0 pc_X9_run i en := by
  refine allOK_at ?_
  refine And.intro (okIload_n dX9_run_0 rfl rfl) ?_
  refine And.intro (okIconst dX9_run_1 rfl (by first | rfl | decide)) ?_
  refine And.intro (okSipush dX9_run_2 rfl (by first | rfl | decide)) ?_
  refine And.intro (okCallS (y := yX9_isIn) (oCall_is _ _ _) dX9_run_5 rfl (ok_F_X9_isIn l) wm_3_223 wm_3_224 wm_1_10 wm_3_225 pl_X9_isIn (by decide)) ?_
  refine And.intro (okIfne dX9_run_8 rfl (by rfl)) ?_
  refine And.intro (okIconst dX9_run_11 rfl (by first | rfl | decide)) ?_
  refine And.intro (okIret dX9_run_12 rfl) ?_
  refine And.intro (okAload_n dX9_run_13 rfl rfl) ?_
  refine And.intro (okCallV (y := yX9_remember) (T := TX9) (oCallZ_is _ _ _) dX9_run_14 rfl (ok_F_X9_remember l) rc_F_X9_remember rfl wm_3_212 wm_3_214 wp_16 wm_1_10 wm_3_215 pl_X9_remember (by decide)) ?_
  refine And.intro (okAload_n dX9_run_17 rfl rfl) ?_
  refine And.intro (okCallV (y := yX9_allPaper) (T := TX9) (oCallZ_is _ _ _) dX9_run_18 rfl (ok_F_X9_allPaper l) rc_F_X9_allPaper rfl wm_4_64 wm_4_66 wp_28 wm_1_10 wm_4_67 pl_X9_allPaper (by decide)) ?_
  refine And.intro (okIstore_n dX9_run_21 rfl rfl (by decide)) ?_
  refine And.intro (okIconst dX9_run_22 rfl (by first | rfl | decide)) ?_
  refine And.intro (okIstore_n dX9_run_23 rfl rfl (by decide)) ?_
  refine And.intro (okIload_n dX9_run_24 rfl rfl) ?_
  refine And.intro (okIload_n dX9_run_25 rfl rfl) ?_
  refine And.intro (okCge dX9_run_26 rfl (by rfl)) ?_
  refine And.intro (okAload_n dX9_run_29 rfl rfl) ?_
  refine And.intro (okCallV (y := yX9_tick) (T := TX9) (oCallZ_is _ _ _) dX9_run_30 rfl (ok_F_X9_tick l) rc_F_X9_tick rfl wm_4_68 wm_4_70 wp_29 wm_1_10 wm_4_71 pl_X9_tick (by decide)) ?_
  refine And.intro (okIinc dX9_run_33 rfl (by first | rfl | decide) (by decide)) ?_
  refine And.intro (okGoto dX9_run_36 (by rfl)) ?_
  refine And.intro (okAload_n dX9_run_39 rfl rfl) ?_
  refine And.intro (okCallV (y := yX9_allPaper) (T := TX9) (oCallZ_is _ _ _) dX9_run_40 rfl (ok_F_X9_allPaper l) rc_F_X9_allPaper rfl wm_4_64 wm_4_66 wp_28 wm_1_10 wm_4_67 pl_X9_allPaper (by decide)) ?_
  refine And.intro (okIload_n dX9_run_43 rfl rfl) ?_
  refine And.intro (okSub dX9_run_44 rfl) ?_
  refine And.intro (okIret dX9_run_45 rfl) ?_
  exact trivial
set_option maxHeartbeats 400000 in
theorem lp_run (rg : pRg) (x : pLV) (n : Int32) (b : Int32) (hT : tksOK n.toNatClampNeg x) : ∀ (d k : Nat), k + d = n.toNatClampNeg → ∃ fu, ex k_X9_run fu 14 [(3, .int (nI k)), (2, .int b), (0, .ref 0), (1, .int n)] [] (mdl (tmI k x)) rg = some (some (.int (apM (tmI n.toNatClampNeg x) - b)), mdl (tmI n.toNatClampNeg x), rg) := by
  intro d
  induction d with
  | zero =>
    intro k hk
    obtain rfl : k = n.toNatClampNeg := by omega
    refine ⟨5, ?_⟩
    conv => lhs; whnf
    refine (pif_t (clamp_ge (Nat.le_refl _) (clamp_lt n))).trans ?_
    generalize tmI n.toNatClampNeg x = y
    revert y; refine id ?_; intro y
    conv => lhs; whnf
    refine (callK_r (cl_X9_allPaper y rg) (by rfl)).trans ?_
    rfl
  | succ d ih =>
    intro k hk
    obtain ⟨m0, hm⟩ := ih (k + 1) (by omega)
    refine ⟨m0 + 1, ?_⟩
    conv => lhs; whnf
    refine (pif_f (clamp_le (by omega))).trans ?_
    conv => lhs; whnf
    refine (callK_v (cl_X9_tick (tmI k x) rg (hT k (by omega))) (by rfl)).trans ?_
    conv => lhs; whnf
    rw [nI_1]
    exact hm
def G_X9_run : pG := fun args w => match args with
  | [.ref 0, .int n] => unM w (fun m => pif (runOK m n) (some (some (.int (runR m n)), mdl (runM m n))) none)
  | _ => none
set_option maxHeartbeats 400000 in
set_option maxRecDepth 100000 in
theorem run_X9_run (rg : pRg) (m : pLV) (n : Int32) (hc : runOK m n) : ∃ fu, ex k_X9_run fu 0 [(0, .ref 0), (1, .int n)] [] (mdl m) rg = some (some (.int (runR m n)), mdl (runM m n), rg) := by
  by_cases h : inI n 1 200 = 0
  · refine ⟨5, ?_⟩
    rw [show runR m n = _ from if_pos h, show runM m n = _ from if_pos h]
    conv => lhs; whnf
    refine (pif_t (h)).trans ?_
    rfl
  · have hT := hc.2.resolve_left h
    have hP := hc.1
    obtain ⟨fu, hf⟩ := lp_run rg (rememM (NM m)) n (apM (rememM (NM m))) hT n.toNatClampNeg 0 (by omega)
    obtain ⟨f1, rfl⟩ := ex_pos hf
    refine ⟨f1 + 2, ?_⟩
    rw [show runR m n = _ from if_neg h, show runM m n = _ from if_neg h]
    conv => lhs; whnf
    refine (pif_f (h)).trans ?_
    conv => lhs; whnf
    refine (callK_v (cl_X9_remember m rg hP) (by rfl)).trans ?_
    clear hT hP
    revert hf
    generalize rememM (NM m) = x
    revert x; refine id ?_; intro x hf
    conv => lhs; whnf
    refine (callK_r (cl_X9_allPaper x rg) (by rfl)).trans ?_
    conv at hf => lhs; whnf
    conv => lhs; whnf
    exact hf
theorem ct_X9_run (l : Launch) : ∀ args0 w0 v0 w1 rg, G_X9_run args0 w0 = some (v0, w1) → pCT l yX9_run (pWs yX9_run cX9_run 4 ((some FieldType.int))) rm_X9_run args0 w0 rg (v0, w1, rg) := by
  intro args0 w0 v0 w1 rg h
  unfold G_X9_run at h
  split at h
  next n =>
    obtain ⟨m, hw, h2⟩ := unM_some h
    clear h
    subst hw
    by_cases hc : runOK m n
    · have h2 := (pif_t hc).symm.trans h2
      cases h2
      exact met_of_exM (by decide) (ok_k_X9_run l) rfl (run_X9_run rg m n hc) (Nat.le_of_ble_eq_true rfl) rfl rfl
    · have h2 := (pif_f hc).symm.trans h2
      cases h2
  next => cases h
def F_X9_run : pF := faN G_X9_run
theorem ok_F_X9_run (l : Launch) : pFOK l yX9_run (pWs yX9_run cX9_run 4 ((some FieldType.int))) rm_X9_run F_X9_run := pFOK_fa (fun a b c d rg h => ct_X9_run l a b c d rg h)
theorem rc_F_X9_run : pRcv 9 F_X9_run := pRcv_fa (fun a b c d h => by
  unfold G_X9_run at h
  split at h
  next =>
    obtain ⟨m, rfl, h⟩ := unM_some h
    exact ⟨_, _, _, rfl, rfl⟩
  next => cases h)
theorem cl_X9_run (m : pLV) (n : Int32) (rg : pRg) (hc : runOK (NM m) n) : F_X9_run [.ref 0, .int n] (mdl m) rg = some (some (.int (runR (NM m) n)), mdl (runM (NM m) n), rg) := by
  have h : G_X9_run [.ref 0, .int n] (mdl m) = some (some (.int (runR (NM m) n)), mdl (runM (NM m) n)) := pif_t hc
  unfold F_X9_run faN
  rw [h]
end
