noncomputable section
theorem inI_03 {c : Int32} (h : ¬ inI c 0 3 = 0) : c = 0 ∨ c = 1 ∨ c = 2 ∨ c = 3 := by
  have h1 : ¬ c < 0 := fun q => h (if_pos q)
  have h2 : ¬ 3 < c := fun q => h ((if_neg h1).trans (if_pos q))
  have e1 := Int32.le_iff_toInt_le.mp (Int32.not_lt.mp h1)
  have e2 := Int32.le_iff_toInt_le.mp (Int32.not_lt.mp h2)
  have e3 : (3 : Int32).toInt = 3 := by decide
  have e4 : (0 : Int32).toInt = 0 := by decide
  have : c.toInt = 0 ∨ c.toInt = 1 ∨ c.toInt = 2 ∨ c.toInt = 3 := by omega
  rcases this with q | q | q | q
  · exact Or.inl (Int32.toInt_inj.mp (q.trans (by decide)))
  · exact Or.inr (Or.inl (Int32.toInt_inj.mp (q.trans (by decide))))
  · exact Or.inr (Or.inr (Or.inl (Int32.toInt_inj.mp (q.trans (by decide)))))
  · exact Or.inr (Or.inr (Or.inr (Int32.toInt_inj.mp (q.trans (by decide)))))
def fi1 (x : pLV) (f : Int32) : pLV := vA x 1 (upd (x 1) 31 (x 1 31 + f))
def filR (m : pLV) (c f v : Int32) : Int32 := if inI c 0 3 = 0 then -1 else if inI f 0 5000 = 0 then -1 else if inI v 0 50000 = 0 then -1 else fillR c.toNatClampNeg (NM (fi1 (rememM (NM m)) f)) f v
def filM (m : pLV) (c f v : Int32) : pLV := if inI c 0 3 = 0 then m else if inI f 0 5000 = 0 then m else if inI v 0 50000 = 0 then m else fillM c.toNatClampNeg (NM (fi1 (rememM (NM m)) f)) f v
theorem dX9_fill_0 : decode cX9_fill 0 = .ok (.iload_n 1, 1) := by decide +kernel
theorem dX9_fill_1 : decode cX9_fill 1 = .ok (.invokestatic 148, 3) := by decide +kernel
theorem dX9_fill_4 : decode cX9_fill 4 = .ok (.ifCond .eq 24, 3) := by decide +kernel
theorem dX9_fill_7 : decode cX9_fill 7 = .ok (.iload_n 2, 1) := by decide +kernel
theorem dX9_fill_8 : decode cX9_fill 8 = .ok (.iconst 0, 1) := by decide +kernel
theorem dX9_fill_9 : decode cX9_fill 9 = .ok (.sipush 5000, 3) := by decide +kernel
theorem dX9_fill_12 : decode cX9_fill 12 = .ok (.invokestatic 41, 3) := by decide +kernel
theorem dX9_fill_15 : decode cX9_fill 15 = .ok (.ifCond .eq 13, 3) := by decide +kernel
theorem dX9_fill_18 : decode cX9_fill 18 = .ok (.iload_n 3, 1) := by decide +kernel
theorem dX9_fill_19 : decode cX9_fill 19 = .ok (.iconst 0, 1) := by decide +kernel
theorem dX9_fill_20 : decode cX9_fill 20 = .ok (.ldc 152, 2) := by decide +kernel
theorem dX9_fill_22 : decode cX9_fill 22 = .ok (.invokestatic 41, 3) := by decide +kernel
theorem dX9_fill_25 : decode cX9_fill 25 = .ok (.ifCond .ne 5, 3) := by decide +kernel
theorem dX9_fill_28 : decode cX9_fill 28 = .ok (.iconst (-1), 1) := by decide +kernel
theorem dX9_fill_29 : decode cX9_fill 29 = .ok (.ireturn, 1) := by decide +kernel
theorem dX9_fill_30 : decode cX9_fill 30 = .ok (.aload_n 0, 1) := by decide +kernel
theorem dX9_fill_31 : decode cX9_fill 31 = .ok (.invokevirtual 141, 3) := by decide +kernel
theorem dX9_fill_34 : decode cX9_fill 34 = .ok (.aload_n 0, 1) := by decide +kernel
theorem dX9_fill_35 : decode cX9_fill 35 = .ok (.getfield 7, 3) := by decide +kernel
theorem dX9_fill_38 : decode cX9_fill 38 = .ok (.bipush 31, 2) := by decide +kernel
theorem dX9_fill_40 : decode cX9_fill 40 = .ok (.dup2, 1) := by decide +kernel
theorem dX9_fill_41 : decode cX9_fill 41 = .ok (.iaload, 1) := by decide +kernel
theorem dX9_fill_42 : decode cX9_fill 42 = .ok (.iload_n 2, 1) := by decide +kernel
theorem dX9_fill_43 : decode cX9_fill 43 = .ok (.iadd, 1) := by decide +kernel
theorem dX9_fill_44 : decode cX9_fill 44 = .ok (.iastore, 1) := by decide +kernel
theorem dX9_fill_45 : decode cX9_fill 45 = .ok (.aload_n 0, 1) := by decide +kernel
theorem dX9_fill_46 : decode cX9_fill 46 = .ok (.iload_n 1, 1) := by decide +kernel
theorem dX9_fill_47 : decode cX9_fill 47 = .ok (.iload_n 2, 1) := by decide +kernel
theorem dX9_fill_48 : decode cX9_fill 48 = .ok (.iload_n 3, 1) := by decide +kernel
theorem dX9_fill_49 : decode cX9_fill 49 = .ok (.invokevirtual 73, 3) := by decide +kernel
theorem dX9_fill_52 : decode cX9_fill 52 = .ok (.ireturn, 1) := by decide +kernel
def k_X9_fill : List pEn := [oIload 1, oCall 1 F_X9_isChest, oIfeq 13, oIload 2, oConst (0), oConst (5000), oCall 3 F_X9_isIn, oIfeq 13, oIload 3, oConst (0), oConst (50000), oCall 3 F_X9_isIn, oIfne 15, oConst (-1), oIret, oAload 0, oCallZ 1 F_X9_remember, oAload 0, oGet 9 0, oConst (31), oDup2, oIaldN 31, oIload 2, oAdd, oIastN 31, oAload 0, oIload 1, oIload 2, oIload 3, oCallZ 4 F_X9_fillInto, oIret]
def pc_X9_fill (i : Nat) : Nat := ([0, 1, 4, 7, 8, 9, 12, 15, 18, 19, 20, 22, 25, 28, 29, 30, 31, 34, 35, 38, 40, 41, 42, 43, 44, 45, 46, 47, 48, 49, 52] : List Nat).getD i 0
abbrev rm_X9_fill : Room := { frames := 3, cells := 0, slots := 0, locals := 69 }
theorem pl_X9_fill : pPlain yX9_fill 3 := by decide +kernel
set_option maxRecDepth 100000 in
set_option maxHeartbeats 4000000 in
theorem ok_k_X9_fill (l : Launch) : ∀ (i : Nat) (en : pEn), k_X9_fill[i]? = some en → EOK l cX9_fill yX9_fill.cls 4 ((some FieldType.int)) rm_X9_fill 0 pc_X9_fill i en := by
  refine allOK_at ?_
  refine And.intro (okIload_n dX9_fill_0 rfl rfl) ?_
  refine And.intro (okCallS (y := yX9_isChest) (oCall_is _ _ _) dX9_fill_1 rfl (ok_F_X9_isChest l) wm_4_6 wm_4_7 wm_1_10 wm_4_8 pl_X9_isChest (by decide)) ?_
  refine And.intro (okIfeq dX9_fill_4 rfl (by rfl)) ?_
  refine And.intro (okIload_n dX9_fill_7 rfl rfl) ?_
  refine And.intro (okIconst dX9_fill_8 rfl (by first | rfl | decide)) ?_
  refine And.intro (okSipush dX9_fill_9 rfl (by first | rfl | decide)) ?_
  refine And.intro (okCallS (y := yX9_isIn) (oCall_is _ _ _) dX9_fill_12 rfl (ok_F_X9_isIn l) wm_3_223 wm_3_224 wm_1_10 wm_3_225 pl_X9_isIn (by decide)) ?_
  refine And.intro (okIfeq dX9_fill_15 rfl (by rfl)) ?_
  refine And.intro (okIload_n dX9_fill_18 rfl rfl) ?_
  refine And.intro (okIconst dX9_fill_19 rfl (by first | rfl | decide)) ?_
  refine And.intro (okLdc dX9_fill_20 rfl wm_4_9) ?_
  refine And.intro (okCallS (y := yX9_isIn) (oCall_is _ _ _) dX9_fill_22 rfl (ok_F_X9_isIn l) wm_3_223 wm_3_224 wm_1_10 wm_3_225 pl_X9_isIn (by decide)) ?_
  refine And.intro (okIfne dX9_fill_25 rfl (by rfl)) ?_
  refine And.intro (okIconst dX9_fill_28 rfl (by first | rfl | decide)) ?_
  refine And.intro (okIret dX9_fill_29 rfl) ?_
  refine And.intro (okAload_n dX9_fill_30 rfl rfl) ?_
  refine And.intro (okCallV (y := yX9_remember) (T := TX9) (oCallZ_is _ _ _) dX9_fill_31 rfl (ok_F_X9_remember l) rc_F_X9_remember rfl wm_3_212 wm_3_214 wp_16 wm_1_10 wm_3_215 pl_X9_remember (by decide)) ?_
  refine And.intro (okAload_n dX9_fill_34 rfl rfl) ?_
  refine And.intro (okGet (C := RX9) (T := TX9) (N := 22) dX9_fill_35 rfl rfl (by decide) inX9 wm_3_141) ?_
  refine And.intro (okBipush dX9_fill_38 rfl (by first | rfl | decide)) ?_
  refine And.intro (okDup2 dX9_fill_40 rfl) ?_
  refine And.intro (okIaldN dX9_fill_41 rfl) ?_
  refine And.intro (okIload_n dX9_fill_42 rfl rfl) ?_
  refine And.intro (okAdd dX9_fill_43 rfl) ?_
  refine And.intro (okIastN dX9_fill_44 rfl) ?_
  refine And.intro (okAload_n dX9_fill_45 rfl rfl) ?_
  refine And.intro (okIload_n dX9_fill_46 rfl rfl) ?_
  refine And.intro (okIload_n dX9_fill_47 rfl rfl) ?_
  refine And.intro (okIload_n dX9_fill_48 rfl rfl) ?_
  refine And.intro (okCallV (y := yX9_fillInto) (T := TX9) (oCallZ_is _ _ _) dX9_fill_49 rfl (ok_F_X9_fillInto l) rc_F_X9_fillInto rfl wm_4_10 wm_4_12 wp_19 wm_1_10 wm_4_13 pl_X9_fillInto (by decide)) ?_
  refine And.intro (okIret dX9_fill_52 rfl) ?_
  exact trivial
def G_X9_fill : pG := fun args w => match args with
  | [.ref 0, .int c, .int f, .int v] => unM w (fun m => pif (pOK m) (some (some (.int (filR m c f v)), mdl (filM m c f v))) none)
  | _ => none
set_option maxHeartbeats 400000 in
set_option maxRecDepth 100000 in
theorem run_X9_fill (rg : pRg) (m : pLV) (c f v : Int32) (hc : pOK m) : ∃ fu, ex k_X9_fill fu 0 [(0, .ref 0), (1, .int c), (2, .int f), (3, .int v)] [] (mdl m) rg = some (some (.int (filR m c f v)), mdl (filM m c f v), rg) := by
  refine ⟨60, ?_⟩
  conv => lhs; whnf
  refine pif_c (fun h0 => ?_) (fun h0 => ?_)
  · rw [show filR m c f v = _ from if_pos h0, show filM m c f v = _ from if_pos h0] <;> rfl
  · conv => lhs; whnf
    refine pif_c (fun h1 => ?_) (fun h1 => ?_)
    · rw [show filR m c f v = _ from (if_neg h0).trans (if_pos h1), show filM m c f v = _ from (if_neg h0).trans (if_pos h1)] <;> rfl
    · conv => lhs; whnf
      refine pif_c (fun h2 => ?_) (fun h2 => ?_)
      · rw [show filR m c f v = _ from (if_neg h0).trans ((if_neg h1).trans (if_pos h2)), show filM m c f v = _ from (if_neg h0).trans ((if_neg h1).trans (if_pos h2))] <;> rfl
      · rw [show filR m c f v = _ from (if_neg h0).trans ((if_neg h1).trans (if_neg h2)), show filM m c f v = _ from (if_neg h0).trans ((if_neg h1).trans (if_neg h2))]
        conv => lhs; whnf
        refine (callK_v (cl_X9_remember m rg hc) (by rfl)).trans ?_
        generalize rememM (NM m) = x
        revert x; refine id ?_; intro x
        rcases inI_03 h0 with rfl | rfl | rfl | rfl
        · conv => lhs; whnf
          refine (callK_r (cl_X9_fillInto0 (fi1 x f) f v rg) (by rfl)).trans ?_
          rfl
        · conv => lhs; whnf
          refine (callK_r (cl_X9_fillInto1 (fi1 x f) f v rg) (by rfl)).trans ?_
          rfl
        · conv => lhs; whnf
          refine (callK_r (cl_X9_fillInto2 (fi1 x f) f v rg) (by rfl)).trans ?_
          rfl
        · conv => lhs; whnf
          refine (callK_r (cl_X9_fillInto3 (fi1 x f) f v rg) (by rfl)).trans ?_
          rfl
theorem ct_X9_fill (l : Launch) : ∀ args0 w0 v0 w1 rg, G_X9_fill args0 w0 = some (v0, w1) → pCT l yX9_fill (pWs yX9_fill cX9_fill 4 ((some FieldType.int))) rm_X9_fill args0 w0 rg (v0, w1, rg) := by
  intro args0 w0 v0 w1 rg h
  unfold G_X9_fill at h
  split at h
  next c f v =>
    obtain ⟨m, hw, h2⟩ := unM_some h
    clear h
    subst hw
    by_cases hc : pOK m
    · have h2 := (pif_t hc).symm.trans h2
      cases h2
      exact met_of_exM (by decide) (ok_k_X9_fill l) rfl (run_X9_fill rg m c f v hc) (Nat.le_of_ble_eq_true rfl) rfl rfl
    · have h2 := (pif_f hc).symm.trans h2
      cases h2
  next => cases h
def F_X9_fill : pF := faN G_X9_fill
theorem ok_F_X9_fill (l : Launch) : pFOK l yX9_fill (pWs yX9_fill cX9_fill 4 ((some FieldType.int))) rm_X9_fill F_X9_fill := pFOK_fa (fun a b c d rg h => ct_X9_fill l a b c d rg h)
theorem rc_F_X9_fill : pRcv 9 F_X9_fill := pRcv_fa (fun a b c d h => by
  unfold G_X9_fill at h
  split at h
  next =>
    obtain ⟨m, rfl, h⟩ := unM_some h
    exact ⟨_, _, _, rfl, rfl⟩
  next => cases h)
theorem cl_X9_fill (m : pLV) (c f v : Int32) (rg : pRg) (hc : pOK (NM m)) : F_X9_fill [.ref 0, .int c, .int f, .int v] (mdl m) rg = some (some (.int (filR (NM m) c f v)), mdl (filM (NM m) c f v), rg) := by
  have h : G_X9_fill [.ref 0, .int c, .int f, .int v] (mdl m) = some (some (.int (filR (NM m) c f v)), mdl (filM (NM m) c f v)) := pif_t hc
  unfold F_X9_fill faN
  rw [h]
end
