noncomputable section
def cpV (v : pLV) (x : Int32) : pLV := if v 0 1 < 0 then v else if ¬ v 0 1 < 4 then v else vA v 2 (upd (v 2) (v 0 1).toNatClampNeg (v 2 (v 0 1).toNatClampNeg + x))
theorem dX5_countPaper_0 : decode cX5_countPaper 0 = .ok (.aload_n 0, 1) := by decide +kernel
theorem dX5_countPaper_1 : decode cX5_countPaper 1 = .ok (.getfield 15, 3) := by decide +kernel
theorem dX5_countPaper_4 : decode cX5_countPaper 4 = .ok (.ifCond .lt 34, 3) := by decide +kernel
theorem dX5_countPaper_7 : decode cX5_countPaper 7 = .ok (.aload_n 0, 1) := by decide +kernel
theorem dX5_countPaper_8 : decode cX5_countPaper 8 = .ok (.getfield 15, 3) := by decide +kernel
theorem dX5_countPaper_11 : decode cX5_countPaper 11 = .ok (.aload_n 0, 1) := by decide +kernel
theorem dX5_countPaper_12 : decode cX5_countPaper 12 = .ok (.getfield 54, 3) := by decide +kernel
theorem dX5_countPaper_15 : decode cX5_countPaper 15 = .ok (.getfield 208, 3) := by decide +kernel
theorem dX5_countPaper_18 : decode cX5_countPaper 18 = .ok (.arraylength, 1) := by decide +kernel
theorem dX5_countPaper_19 : decode cX5_countPaper 19 = .ok (.if_icmp .ge 19, 3) := by decide +kernel
theorem dX5_countPaper_22 : decode cX5_countPaper 22 = .ok (.aload_n 0, 1) := by decide +kernel
theorem dX5_countPaper_23 : decode cX5_countPaper 23 = .ok (.getfield 54, 3) := by decide +kernel
theorem dX5_countPaper_26 : decode cX5_countPaper 26 = .ok (.getfield 208, 3) := by decide +kernel
theorem dX5_countPaper_29 : decode cX5_countPaper 29 = .ok (.aload_n 0, 1) := by decide +kernel
theorem dX5_countPaper_30 : decode cX5_countPaper 30 = .ok (.getfield 15, 3) := by decide +kernel
theorem dX5_countPaper_33 : decode cX5_countPaper 33 = .ok (.dup2, 1) := by decide +kernel
theorem dX5_countPaper_34 : decode cX5_countPaper 34 = .ok (.iaload, 1) := by decide +kernel
theorem dX5_countPaper_35 : decode cX5_countPaper 35 = .ok (.iload_n 1, 1) := by decide +kernel
theorem dX5_countPaper_36 : decode cX5_countPaper 36 = .ok (.iadd, 1) := by decide +kernel
theorem dX5_countPaper_37 : decode cX5_countPaper 37 = .ok (.iastore, 1) := by decide +kernel
theorem dX5_countPaper_38 : decode cX5_countPaper 38 = .ok (.return_, 1) := by decide +kernel
def k_X5_countPaper : List pEn := [oAload 0, oGet 5 1, oIflt 20, oAload 0, oGet 5 1, oAload 0, oGet 5 11, oGet 0 5, oAlen, oCge 20, oAload 0, oGet 5 11, oGet 0 5, oAload 0, oGet 5 1, oDup2, oIald, oIload 1, oAdd, oIast, oVret]
def pc_X5_countPaper (i : Nat) : Nat := ([0, 1, 4, 7, 8, 11, 12, 15, 18, 19, 22, 23, 26, 29, 30, 33, 34, 35, 36, 37, 38] : List Nat).getD i 0
abbrev rm_X5_countPaper : Room := { frames := 0, cells := 0, slots := 0, locals := 0 }
theorem pl_X5_countPaper : pPlain yX5_countPaper 1 := by decide +kernel
set_option maxRecDepth 100000 in
set_option maxHeartbeats 4000000 in
theorem ok_k_X5_countPaper (l : Launch) : ∀ (i : Nat) (en : pEn), k_X5_countPaper[i]? = some en → EOK l cX5_countPaper yX5_countPaper.cls 2 (none) rm_X5_countPaper 0 pc_X5_countPaper i en := by
  refine allOK_at ?_
  refine And.intro (okAload_n dX5_countPaper_0 rfl rfl) ?_
  refine And.intro (okGet (C := RX5) (T := TX5) (N := 15) dX5_countPaper_1 rfl rfl (by decide) inX5 wm_1_154) ?_
  refine And.intro (okIflt dX5_countPaper_4 rfl (by rfl)) ?_
  refine And.intro (okAload_n dX5_countPaper_7 rfl rfl) ?_
  refine And.intro (okGet (C := RX5) (T := TX5) (N := 15) dX5_countPaper_8 rfl rfl (by decide) inX5 wm_1_154) ?_
  refine And.intro (okAload_n dX5_countPaper_11 rfl rfl) ?_
  refine And.intro (okGet (C := RX5) (T := TX5) (N := 15) dX5_countPaper_12 rfl rfl (by decide) inX5 wm_1_172) ?_
  refine And.intro (okGet (C := RX0) (T := TX0) (N := 6) dX5_countPaper_15 rfl rfl (by decide) inX0 wm_1_69) ?_
  refine And.intro (okAlen dX5_countPaper_18 rfl) ?_
  refine And.intro (okCge dX5_countPaper_19 rfl (by rfl)) ?_
  refine And.intro (okAload_n dX5_countPaper_22 rfl rfl) ?_
  refine And.intro (okGet (C := RX5) (T := TX5) (N := 15) dX5_countPaper_23 rfl rfl (by decide) inX5 wm_1_172) ?_
  refine And.intro (okGet (C := RX0) (T := TX0) (N := 6) dX5_countPaper_26 rfl rfl (by decide) inX0 wm_1_69) ?_
  refine And.intro (okAload_n dX5_countPaper_29 rfl rfl) ?_
  refine And.intro (okGet (C := RX5) (T := TX5) (N := 15) dX5_countPaper_30 rfl rfl (by decide) inX5 wm_1_154) ?_
  refine And.intro (okDup2 dX5_countPaper_33 rfl) ?_
  refine And.intro (okIald dX5_countPaper_34 rfl) ?_
  refine And.intro (okIload_n dX5_countPaper_35 rfl rfl) ?_
  refine And.intro (okAdd dX5_countPaper_36 rfl) ?_
  refine And.intro (okIast dX5_countPaper_37 rfl) ?_
  refine And.intro (okVret dX5_countPaper_38 rfl) ?_
  exact trivial
def G_X5_countPaper : pG := fun args w => match args with
  | [.ref 0, .int x] => unL 0 w (fun v => some (none, loopCells 0 (cpV v x)))
  | _ => none
set_option maxHeartbeats 400000 in
set_option maxRecDepth 100000 in
theorem run_X5_countPaper (rg : pRg) (v : pLV) (x : Int32) : ∃ fu, ex k_X5_countPaper fu 0 [(0, .ref 0), (1, .int x)] [] (loopCells 0 v) rg = some (none, loopCells 0 (cpV v x), rg) := by
  refine ⟨60, ?_⟩
  conv => lhs; whnf
  refine pif_c (fun h => ?_) (fun h => ?_)
  · simp only [cpV, if_pos h]; rfl
  · conv => lhs; whnf
    refine pif_c (fun h2 => ?_) (fun h2 => ?_)
    · have h3 : ¬ v 0 1 < 4 := Int32.not_lt.mpr h2
      simp only [cpV, if_neg h, if_pos h3]; rfl
    · have h3 : v 0 1 < 4 := Int32.not_le.mp h2
      have h5 : ¬ (v 0 1 < 0 ∨ 4 ≤ (v 0 1).toNatClampNeg) := by
        rintro (e | e)
        · exact h e
        · have h4 := Int32.lt_iff_toInt_lt.mp h3
          have h6 : (4 : Int32).toInt = 4 := by decide
          have h7 : (v 0 1).toNatClampNeg = (v 0 1).toInt.toNat := rfl
          omega
      have h4 : ¬ ¬ v 0 1 < 4 := fun q => q h3
      conv => lhs; whnf
      refine (pif_f h5).trans ?_
      conv => lhs; whnf
      refine (pif_f h5).trans ?_
      simp only [cpV, if_neg h, if_neg h4]; rfl
theorem ct_X5_countPaper (l : Launch) : ∀ args0 w0 v0 w1 rg, G_X5_countPaper args0 w0 = some (v0, w1) → pCT l yX5_countPaper (pWs yX5_countPaper cX5_countPaper 2 (none)) rm_X5_countPaper args0 w0 rg (v0, w1, rg) := by
  intro args0 w0 v0 w1 rg h
  unfold G_X5_countPaper at h
  split at h
  next x =>
    obtain ⟨v, hw, h2⟩ := unL_some h
    clear h
    subst hw
    cases h2
    exact met_of_exL (by decide) (ok_k_X5_countPaper l) rfl (run_X5_countPaper rg v x) (Nat.le_of_ble_eq_true rfl) rfl rfl
  next => cases h
def F_X5_countPaper : pF := fz (faN G_X5_countPaper)
theorem ok_F_X5_countPaper (l : Launch) : pFOK l yX5_countPaper (pWs yX5_countPaper cX5_countPaper 2 (none)) rm_X5_countPaper F_X5_countPaper := pFOK_fz (pFOK_fa (fun a b c d rg h => ct_X5_countPaper l a b c d rg h))
theorem rc_F_X5_countPaper : pRcv 5 F_X5_countPaper := pRcv_fz (pRcv_fa (fun a b c d h => by
  unfold G_X5_countPaper at h
  split at h
  next =>
    obtain ⟨v, rfl, h⟩ := unL_some h
    exact ⟨_, _, _, rfl, rfl⟩
  next => cases h))
theorem cl_X5_countPaper (v : pLV) (x : Int32) (rg : pRg) : F_X5_countPaper [.ref 0, .int x] (loopCells 0 v) rg = some (none, loopCells 0 (cpV (NL v) x), rg) := (fz_eq _ _ _ _).trans rfl
end
