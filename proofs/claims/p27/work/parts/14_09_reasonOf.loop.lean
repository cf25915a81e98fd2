noncomputable section
def rsnV (v : pLV) (d w b : Int32) : Int32 := if d = 0 then 0 else if ¬ v 0 4 = v 0 1 then 3 else if v 1 3 = 0 then 1 else if b < w then 2 else 0
theorem dX5_reasonOf_0 : decode cX5_reasonOf 0 = .ok (.iload_n 1, 1) := by decide +kernel
theorem dX5_reasonOf_1 : decode cX5_reasonOf 1 = .ok (.ifCond .ne 5, 3) := by decide +kernel
theorem dX5_reasonOf_4 : decode cX5_reasonOf 4 = .ok (.iconst 0, 1) := by decide +kernel
theorem dX5_reasonOf_5 : decode cX5_reasonOf 5 = .ok (.ireturn, 1) := by decide +kernel
theorem dX5_reasonOf_6 : decode cX5_reasonOf 6 = .ok (.aload_n 0, 1) := by decide +kernel
theorem dX5_reasonOf_7 : decode cX5_reasonOf 7 = .ok (.getfield 24, 3) := by decide +kernel
theorem dX5_reasonOf_10 : decode cX5_reasonOf 10 = .ok (.aload_n 0, 1) := by decide +kernel
theorem dX5_reasonOf_11 : decode cX5_reasonOf 11 = .ok (.getfield 15, 3) := by decide +kernel
theorem dX5_reasonOf_14 : decode cX5_reasonOf 14 = .ok (.if_icmp .eq 5, 3) := by decide +kernel
theorem dX5_reasonOf_17 : decode cX5_reasonOf 17 = .ok (.iconst 3, 1) := by decide +kernel
theorem dX5_reasonOf_18 : decode cX5_reasonOf 18 = .ok (.ireturn, 1) := by decide +kernel
theorem dX5_reasonOf_19 : decode cX5_reasonOf 19 = .ok (.aload_n 0, 1) := by decide +kernel
theorem dX5_reasonOf_20 : decode cX5_reasonOf 20 = .ok (.getfield 72, 3) := by decide +kernel
theorem dX5_reasonOf_23 : decode cX5_reasonOf 23 = .ok (.iconst 3, 1) := by decide +kernel
theorem dX5_reasonOf_24 : decode cX5_reasonOf 24 = .ok (.iaload, 1) := by decide +kernel
theorem dX5_reasonOf_25 : decode cX5_reasonOf 25 = .ok (.ifCond .ne 5, 3) := by decide +kernel
theorem dX5_reasonOf_28 : decode cX5_reasonOf 28 = .ok (.iconst 1, 1) := by decide +kernel
theorem dX5_reasonOf_29 : decode cX5_reasonOf 29 = .ok (.ireturn, 1) := by decide +kernel
theorem dX5_reasonOf_30 : decode cX5_reasonOf 30 = .ok (.iload_n 3, 1) := by decide +kernel
theorem dX5_reasonOf_31 : decode cX5_reasonOf 31 = .ok (.iload_n 2, 1) := by decide +kernel
theorem dX5_reasonOf_32 : decode cX5_reasonOf 32 = .ok (.if_icmp .ge 7, 3) := by decide +kernel
theorem dX5_reasonOf_35 : decode cX5_reasonOf 35 = .ok (.iconst 2, 1) := by decide +kernel
theorem dX5_reasonOf_36 : decode cX5_reasonOf 36 = .ok (.goto 4, 3) := by decide +kernel
theorem dX5_reasonOf_39 : decode cX5_reasonOf 39 = .ok (.iconst 0, 1) := by decide +kernel
theorem dX5_reasonOf_40 : decode cX5_reasonOf 40 = .ok (.ireturn, 1) := by decide +kernel
def k_X5_reasonOf : List pEn := [oIload 1, oIfne 4, oConst (0), oIret, oAload 0, oGet 5 4, oAload 0, oGet 5 1, oCeq 11, oConst (3), oIret, oAload 0, oGet 5 14, oConst (3), oIaldN 3, oIfne 18, oConst (1), oIret, oIload 3, oIload 2, oCge 23, oConst (2), oGoto 24, oConst (0), oIret]
def pc_X5_reasonOf (i : Nat) : Nat := ([0, 1, 4, 5, 6, 7, 10, 11, 14, 17, 18, 19, 20, 23, 24, 25, 28, 29, 30, 31, 32, 35, 36, 39, 40] : List Nat).getD i 0
abbrev rm_X5_reasonOf : Room := { frames := 0, cells := 0, slots := 0, locals := 0 }
theorem pl_X5_reasonOf : pPlain yX5_reasonOf 3 := by decide +kernel
set_option maxRecDepth 100000 in
set_option maxHeartbeats 4000000 in
theorem ok_k_X5_reasonOf (l : Launch) : ∀ (i : Nat) (en : pEn), k_X5_reasonOf[i]? = some en → EOK l cX5_reasonOf yX5_reasonOf.cls 4 ((some FieldType.int)) rm_X5_reasonOf 0 pc_X5_reasonOf i en := by
  refine allOK_at ?_
  refine And.intro (okIload_n dX5_reasonOf_0 rfl rfl) ?_
  refine And.intro (okIfne dX5_reasonOf_1 rfl (by rfl)) ?_
  refine And.intro (okIconst dX5_reasonOf_4 rfl (by first | rfl | decide)) ?_
  refine And.intro (okIret dX5_reasonOf_5 rfl) ?_
  refine And.intro (okAload_n dX5_reasonOf_6 rfl rfl) ?_
  refine And.intro (okGet (C := RX5) (T := TX5) (N := 15) dX5_reasonOf_7 rfl rfl (by decide) inX5 wm_1_160) ?_
  refine And.intro (okAload_n dX5_reasonOf_10 rfl rfl) ?_
  refine And.intro (okGet (C := RX5) (T := TX5) (N := 15) dX5_reasonOf_11 rfl rfl (by decide) inX5 wm_1_154) ?_
  refine And.intro (okCeq dX5_reasonOf_14 rfl (by rfl)) ?_
  refine And.intro (okIconst dX5_reasonOf_17 rfl (by first | rfl | decide)) ?_
  refine And.intro (okIret dX5_reasonOf_18 rfl) ?_
  refine And.intro (okAload_n dX5_reasonOf_19 rfl rfl) ?_
  refine And.intro (okGet (C := RX5) (T := TX5) (N := 15) dX5_reasonOf_20 rfl rfl (by decide) inX5 wm_1_178) ?_
  refine And.intro (okIconst dX5_reasonOf_23 rfl (by first | rfl | decide)) ?_
  refine And.intro (okIaldN dX5_reasonOf_24 rfl) ?_
  refine And.intro (okIfne dX5_reasonOf_25 rfl (by rfl)) ?_
  refine And.intro (okIconst dX5_reasonOf_28 rfl (by first | rfl | decide)) ?_
  refine And.intro (okIret dX5_reasonOf_29 rfl) ?_
  refine And.intro (okIload_n dX5_reasonOf_30 rfl rfl) ?_
  refine And.intro (okIload_n dX5_reasonOf_31 rfl rfl) ?_
  refine And.intro (okCge dX5_reasonOf_32 rfl (by rfl)) ?_
  refine And.intro (okIconst dX5_reasonOf_35 rfl (by first | rfl | decide)) ?_
  refine And.intro (okGoto dX5_reasonOf_36 (by rfl)) ?_
  refine And.intro (okIconst dX5_reasonOf_39 rfl (by first | rfl | decide)) ?_
  refine And.intro (okIret dX5_reasonOf_40 rfl) ?_
  exact trivial
def G_X5_reasonOf : pG := fun args w => match args with
  | [.ref 0, .int d, .int y, .int b] => unL 0 w (fun v => some (some (.int (rsnV v d y b)), loopCells 0 (v)))
  | _ => none
set_option maxHeartbeats 400000 in
set_option maxRecDepth 100000 in
theorem run_X5_reasonOf (rg : pRg) (v : pLV) (d y b : Int32) : ∃ fu, ex k_X5_reasonOf fu 0 [(0, .ref 0), (1, .int d), (2, .int y), (3, .int b)] [] (loopCells 0 v) rg = some (some (.int (rsnV v d y b)), loopCells 0 (v), rg) := by
  refine ⟨60, ?_⟩
  conv => lhs; whnf
  refine pif_c (fun h => ?_) (fun h => ?_)
  · simp only [rsnV, if_pos h]; rfl
  · conv => lhs; whnf
    refine pif_c (fun h2 => ?_) (fun h2 => ?_)
    · have h2' : ¬ ¬ v 0 4 = v 0 1 := fun q => q h2
      conv => lhs; whnf
      refine pif_c (fun h3 => ?_) (fun h3 => ?_)
      · simp only [rsnV, if_neg h, if_neg h2', if_pos h3]; rfl
      · conv => lhs; whnf
        refine pif_c (fun h4 => ?_) (fun h4 => ?_)
        · simp only [rsnV, if_neg h, if_neg h2', if_neg h3, if_neg (Int32.not_lt.mpr h4)]; rfl
        · simp only [rsnV, if_neg h, if_neg h2', if_neg h3, if_pos (Int32.not_le.mp h4)]; rfl
    · simp only [rsnV, if_neg h, if_pos h2]; rfl
theorem ct_X5_reasonOf (l : Launch) : ∀ args0 w0 v0 w1 rg, G_X5_reasonOf args0 w0 = some (v0, w1) → pCT l yX5_reasonOf (pWs yX5_reasonOf cX5_reasonOf 4 ((some FieldType.int))) rm_X5_reasonOf args0 w0 rg (v0, w1, rg) := by
  intro args0 w0 v0 w1 rg h
  unfold G_X5_reasonOf at h
  split at h
  next d y b =>
    obtain ⟨v, hw, h2⟩ := unL_some h
    clear h
    subst hw
    cases h2
    exact met_of_exL (by decide) (ok_k_X5_reasonOf l) rfl (run_X5_reasonOf rg v d y b) (Nat.le_of_ble_eq_true rfl) rfl rfl
  next => cases h
def F_X5_reasonOf : pF := fz (faN G_X5_reasonOf)
theorem ok_F_X5_reasonOf (l : Launch) : pFOK l yX5_reasonOf (pWs yX5_reasonOf cX5_reasonOf 4 ((some FieldType.int))) rm_X5_reasonOf F_X5_reasonOf := pFOK_fz (pFOK_fa (fun a b c d rg h => ct_X5_reasonOf l a b c d rg h))
theorem rc_F_X5_reasonOf : pRcv 5 F_X5_reasonOf := pRcv_fz (pRcv_fa (fun a b c d h => by
  unfold G_X5_reasonOf at h
  split at h
  next =>
    obtain ⟨v, rfl, h⟩ := unL_some h
    exact ⟨_, _, _, rfl, rfl⟩
  next => cases h))
theorem cl_X5_reasonOf (v : pLV) (d y b : Int32) (rg : pRg) : F_X5_reasonOf [.ref 0, .int d, .int y, .int b] (loopCells 0 v) rg = some (some (.int (rsnV (NL v) d y b)), loopCells 0 ((NL v)), rg) := (fz_eq _ _ _ _).trans rfl
end
