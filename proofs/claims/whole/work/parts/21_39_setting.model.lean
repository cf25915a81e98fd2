noncomputable section
theorem inI_le {s a b : Int32} (h : ¬ inI s a b = 0) : a ≤ s ∧ s ≤ b := by
  have h1 : ¬ s < a := fun q => h (if_pos q)
  have h2 : ¬ b < s := fun q => h ((if_neg h1).trans (if_pos q))
  exact ⟨Int32.not_lt.mp h1, Int32.not_lt.mp h2⟩
theorem in_110 {s : Int32} (b : Int32) {n : Nat} (hb : b.toInt = n) (hn : n < 110) (h0 : 0 ≤ s) (h : s ≤ b) : ¬ (s < 0 ∨ 110 ≤ s.toNatClampNeg) := by
  have h2 := clamp_b b hb h
  rintro (q | q)
  · exact Int32.not_lt.mpr h0 q
  · omega
def stgR (m : pLV) (s : Int32) : Int32 := if inI s 0 8 = 0 then -1 else m 1 s.toNatClampNeg
def papR (m : pLV) (g : Int32) : Int32 := if inI g 0 3 = 0 then -1 else m 1 (35 + g).toNatClampNeg
theorem dX9_setting_0 : decode cX9_setting 0 = .ok (.iload_n 1, 1) := by decide +kernel
theorem dX9_setting_1 : decode cX9_setting 1 = .ok (.iconst 0, 1) := by decide +kernel
theorem dX9_setting_2 : decode cX9_setting 2 = .ok (.bipush 8, 2) := by decide +kernel
theorem dX9_setting_4 : decode cX9_setting 4 = .ok (.invokestatic 41, 3) := by decide +kernel
theorem dX9_setting_7 : decode cX9_setting 7 = .ok (.ifCond .eq 12, 3) := by decide +kernel
theorem dX9_setting_10 : decode cX9_setting 10 = .ok (.aload_n 0, 1) := by decide +kernel
theorem dX9_setting_11 : decode cX9_setting 11 = .ok (.getfield 7, 3) := by decide +kernel
theorem dX9_setting_14 : decode cX9_setting 14 = .ok (.iload_n 1, 1) := by decide +kernel
theorem dX9_setting_15 : decode cX9_setting 15 = .ok (.iaload, 1) := by decide +kernel
theorem dX9_setting_16 : decode cX9_setting 16 = .ok (.goto 4, 3) := by decide +kernel
theorem dX9_setting_19 : decode cX9_setting 19 = .ok (.iconst (-1), 1) := by decide +kernel
theorem dX9_setting_20 : decode cX9_setting 20 = .ok (.ireturn, 1) := by decide +kernel
def k_X9_setting : List pEn := [oIload 1, oConst (0), oConst (8), oCall 3 F_X9_isIn, oIfeq 10, oAload 0, oGet 9 0, oIload 1, oIald, oGoto 11, oConst (-1), oIret]
def pc_X9_setting (i : Nat) : Nat := ([0, 1, 2, 4, 7, 10, 11, 14, 15, 16, 19, 20] : List Nat).getD i 0
abbrev rm_X9_setting : Room := { frames := 1, cells := 0, slots := 0, locals := 22 }
theorem pl_X9_setting : pPlain yX9_setting 1 := by decide +kernel
set_option maxRecDepth 100000 in
set_option maxHeartbeats 4000000 in
theorem ok_k_X9_setting (l : Launch) : ∀ (i : Nat) (en : pEn), k_X9_setting[i]? = some en → EOK l cX9_setting yX9_setting.cls 2 ((some FieldType.int)) rm_X9_setting 0 pc_X9_setting i en := by
  refine allOK_at ?_
  refine And.intro (okIload_n dX9_setting_0 rfl rfl) ?_
  refine And.intro (okIconst dX9_setting_1 rfl (by first | rfl | decide)) ?_
  refine And.intro (okBipush dX9_setting_2 rfl (by first | rfl | decide)) ?_
  refine And.intro (okCallS (y := yX9_isIn) (oCall_is _ _ _) dX9_setting_4 rfl (ok_F_X9_isIn l) wm_3_223 wm_3_224 wm_1_10 wm_3_225 pl_X9_isIn (by decide)) ?_
  refine And.intro (okIfeq dX9_setting_7 rfl (by rfl)) ?_
  refine And.intro (okAload_n dX9_setting_10 rfl rfl) ?_
  refine And.intro (okGet (C := RX9) (T := TX9) (N := 22) dX9_setting_11 rfl rfl (by decide) inX9 wm_3_141) ?_
  refine And.intro (okIload_n dX9_setting_14 rfl rfl) ?_
  refine And.intro (okIald dX9_setting_15 rfl) ?_
  refine And.intro (okGoto dX9_setting_16 (by rfl)) ?_
  refine And.intro (okIconst dX9_setting_19 rfl (by first | rfl | decide)) ?_
  refine And.intro (okIret dX9_setting_20 rfl) ?_
  exact trivial
def G_X9_setting : pG := fun args w => match args with
  | [.ref 0, .int s] => unM w (fun m => some (some (.int (stgR m s)), mdl (m)))
  | _ => none
set_option maxHeartbeats 400000 in
set_option maxRecDepth 100000 in
theorem run_X9_setting (rg : pRg) (m : pLV) (s : Int32)  : ∃ fu, ex k_X9_setting fu 0 [(0, .ref 0), (1, .int s)] [] (mdl m) rg = some (some (.int (stgR m s)), mdl (m), rg) := by
  refine ⟨60, ?_⟩
  conv => lhs; whnf
  refine pif_c (fun h => ?_) (fun h => ?_)
  · rw [show stgR m s = _ from if_pos h] <;> rfl
  · rw [show stgR m s = _ from if_neg h]
    conv => lhs; whnf
    refine (pif_f (in_110 8 rfl (by decide) (inI_le h).1 (inI_le h).2)).trans ?_
    rfl
theorem ct_X9_setting (l : Launch) : ∀ args0 w0 v0 w1 rg, G_X9_setting args0 w0 = some (v0, w1) → pCT l yX9_setting (pWs yX9_setting cX9_setting 2 ((some FieldType.int))) rm_X9_setting args0 w0 rg (v0, w1, rg) := by
  intro args0 w0 v0 w1 rg h
  unfold G_X9_setting at h
  split at h
  next s =>
    obtain ⟨m, hw, h2⟩ := unM_some h
    clear h
    subst hw
    cases h2
    exact met_of_exM (by decide) (ok_k_X9_setting l) rfl (run_X9_setting rg m s ) (Nat.le_of_ble_eq_true rfl) rfl rfl
  next => cases h
def F_X9_setting : pF := faN G_X9_setting
theorem ok_F_X9_setting (l : Launch) : pFOK l yX9_setting (pWs yX9_setting cX9_setting 2 ((some FieldType.int))) rm_X9_setting F_X9_setting := pFOK_fa (fun a b c d rg h => ct_X9_setting l a b c d rg h)
theorem rc_F_X9_setting : pRcv 9 F_X9_setting := pRcv_fa (fun a b c d h => by
  unfold G_X9_setting at h
  split at h
  next =>
    obtain ⟨m, rfl, h⟩ := unM_some h
    exact ⟨_, _, _, rfl, rfl⟩
  next => cases h)
theorem cl_X9_setting (m : pLV) (s : Int32) (rg : pRg) : F_X9_setting [.ref 0, .int s] (mdl m) rg = some (some (.int (stgR (NM m) s)), mdl ((NM m)), rg) := rfl
end
