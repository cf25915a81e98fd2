noncomputable section
theorem dX9_paper_0 : decode cX9_paper 0 = .ok (.iload_n 1, 1) := by decide +kernel
theorem dX9_paper_1 : decode cX9_paper 1 = .ok (.iconst 0, 1) := by decide +kernel
theorem dX9_paper_2 : decode cX9_paper 2 = .ok (.iconst 3, 1) := by decide +kernel
theorem dX9_paper_3 : decode cX9_paper 3 = .ok (.invokestatic 41, 3) := by decide +kernel
theorem dX9_paper_6 : decode cX9_paper 6 = .ok (.ifCond .eq 15, 3) := by decide +kernel
theorem dX9_paper_9 : decode cX9_paper 9 = .ok (.aload_n 0, 1) := by decide +kernel
theorem dX9_paper_10 : decode cX9_paper 10 = .ok (.getfield 7, 3) := by decide +kernel
theorem dX9_paper_13 : decode cX9_paper 13 = .ok (.bipush 35, 2) := by decide +kernel
theorem dX9_paper_15 : decode cX9_paper 15 = .ok (.iload_n 1, 1) := by decide +kernel
theorem dX9_paper_16 : decode cX9_paper 16 = .ok (.iadd, 1) := by decide +kernel
theorem dX9_paper_17 : decode cX9_paper 17 = .ok (.iaload, 1) := by decide +kernel
theorem dX9_paper_18 : decode cX9_paper 18 = .ok (.goto 4, 3) := by decide +kernel
theorem dX9_paper_21 : decode cX9_paper 21 = .ok (.iconst (-1), 1) := by decide +kernel
theorem dX9_paper_22 : decode cX9_paper 22 = .ok (.ireturn, 1) := by decide +kernel
def k_X9_paper : List pEn := [oIload 1, oConst (0), oConst (3), oCall 3 F_X9_isIn, oIfeq 12, oAload 0, oGet 9 0, oConst (35), oIload 1, oAdd, oIald, oGoto 13, oConst (-1), oIret]
def pc_X9_paper (i : Nat) : Nat := ([0, 1, 2, 3, 6, 9, 10, 13, 15, 16, 17, 18, 21, 22] : List Nat).getD i 0
abbrev rm_X9_paper : Room := { frames := 1, cells := 0, slots := 0, locals := 22 }
theorem pl_X9_paper : pPlain yX9_paper 1 := by decide +kernel
set_option maxRecDepth 100000 in
set_option maxHeartbeats 4000000 in
theorem ok_k_X9_paper (l : Launch) : ∀ (i : Nat) (en : pEn), k_X9_paper[i]? = some en → EOK l cX9_paper yX9_paper.cls 2 ((some FieldType.int)) rm_X9_paper 0 pc_X9_paper i en := by
  refine allOK_at ?_
  refine And.intro (okIload_n dX9_paper_0 rfl rfl) ?_
  refine And.intro (okIconst dX9_paper_1 rfl (by first | rfl | decide)) ?_
  refine And.intro (okIconst dX9_paper_2 rfl (by first | rfl | decide)) ?_
  refine And.intro (okCallS (y := yX9_isIn) (oCall_is _ _ _) dX9_paper_3 rfl (ok_F_X9_isIn l) wm_3_223 wm_3_224 wm_1_10 wm_3_225 pl_X9_isIn (by decide)) ?_
  refine And.intro (okIfeq dX9_paper_6 rfl (by rfl)) ?_
  refine And.intro (okAload_n dX9_paper_9 rfl rfl) ?_
  refine And.intro (okGet (C := RX9) (T := TX9) (N := 22) dX9_paper_10 rfl rfl (by decide) inX9 wm_3_141) ?_
  refine And.intro (okBipush dX9_paper_13 rfl (by first | rfl | decide)) ?_
  refine And.intro (okIload_n dX9_paper_15 rfl rfl) ?_
  refine And.intro (okAdd dX9_paper_16 rfl) ?_
  refine And.intro (okIald dX9_paper_17 rfl) ?_
  refine And.intro (okGoto dX9_paper_18 (by rfl)) ?_
  refine And.intro (okIconst dX9_paper_21 rfl (by first | rfl | decide)) ?_
  refine And.intro (okIret dX9_paper_22 rfl) ?_
  exact trivial
def G_X9_paper : pG := fun args w => match args with
  | [.ref 0, .int g] => unM w (fun m => some (some (.int (papR m g)), mdl (m)))
  | _ => none
set_option maxHeartbeats 400000 in
set_option maxRecDepth 100000 in
theorem run_X9_paper (rg : pRg) (m : pLV) (g : Int32)  : ∃ fu, ex k_X9_paper fu 0 [(0, .ref 0), (1, .int g)] [] (mdl m) rg = some (some (.int (papR m g)), mdl (m), rg) := by
  refine ⟨60, ?_⟩
  conv => lhs; whnf
  refine pif_c (fun h => ?_) (fun h => ?_)
  · rw [show papR m g = _ from if_pos h] <;> rfl
  · rw [show papR m g = _ from if_neg h]
    conv => lhs; whnf
    refine (pif_f (bnd_lit 110 35 rfl (inI_le h).1 (le_toInt 3 rfl (inI_le h).2) (by decide) (by decide) (by decide))).trans ?_
    rfl
theorem ct_X9_paper (l : Launch) : ∀ args0 w0 v0 w1 rg, G_X9_paper args0 w0 = some (v0, w1) → pCT l yX9_paper (pWs yX9_paper cX9_paper 2 ((some FieldType.int))) rm_X9_paper args0 w0 rg (v0, w1, rg) := by
  intro args0 w0 v0 w1 rg h
  unfold G_X9_paper at h
  split at h
  next g =>
    obtain ⟨m, hw, h2⟩ := unM_some h
    clear h
    subst hw
    cases h2
    exact met_of_exM (by decide) (ok_k_X9_paper l) rfl (run_X9_paper rg m g ) (Nat.le_of_ble_eq_true rfl) rfl rfl
  next => cases h
def F_X9_paper : pF := faN G_X9_paper
theorem ok_F_X9_paper (l : Launch) : pFOK l yX9_paper (pWs yX9_paper cX9_paper 2 ((some FieldType.int))) rm_X9_paper F_X9_paper := pFOK_fa (fun a b c d rg h => ct_X9_paper l a b c d rg h)
theorem rc_F_X9_paper : pRcv 9 F_X9_paper := pRcv_fa (fun a b c d h => by
  unfold G_X9_paper at h
  split at h
  next =>
    obtain ⟨m, rfl, h⟩ := unM_some h
    exact ⟨_, _, _, rfl, rfl⟩
  next => cases h)
theorem cl_X9_paper (m : pLV) (g : Int32) (rg : pRg) : F_X9_paper [.ref 0, .int g] (mdl m) rg = some (some (.int (papR (NM m) g)), mdl ((NM m)), rg) := rfl
end
