noncomputable section
theorem dX9_paperShare_0 : decode cX9_paperShare 0 = .ok (.aload_n 0, 1) := by decide +kernel
theorem dX9_paperShare_1 : decode cX9_paperShare 1 = .ok (.invokevirtual 156, 3) := by decide +kernel
theorem dX9_paperShare_4 : decode cX9_paperShare 4 = .ok (.aload_n 0, 1) := by decide +kernel
theorem dX9_paperShare_5 : decode cX9_paperShare 5 = .ok (.getfield 7, 3) := by decide +kernel
theorem dX9_paperShare_8 : decode cX9_paperShare 8 = .ok (.bipush 34, 2) := by decide +kernel
theorem dX9_paperShare_10 : decode cX9_paperShare 10 = .ok (.iaload, 1) := by decide +kernel
theorem dX9_paperShare_11 : decode cX9_paperShare 11 = .ok (.iadd, 1) := by decide +kernel
theorem dX9_paperShare_12 : decode cX9_paperShare 12 = .ok (.istore_n 1, 1) := by decide +kernel
theorem dX9_paperShare_13 : decode cX9_paperShare 13 = .ok (.iload_n 1, 1) := by decide +kernel
theorem dX9_paperShare_14 : decode cX9_paperShare 14 = .ok (.ifCond .ne 7, 3) := by decide +kernel
theorem dX9_paperShare_17 : decode cX9_paperShare 17 = .ok (.fconst 0, 1) := by decide +kernel
theorem dX9_paperShare_18 : decode cX9_paperShare 18 = .ok (.goto 11, 3) := by decide +kernel
theorem dX9_paperShare_21 : decode cX9_paperShare 21 = .ok (.aload_n 0, 1) := by decide +kernel
theorem dX9_paperShare_22 : decode cX9_paperShare 22 = .ok (.invokevirtual 156, 3) := by decide +kernel
theorem dX9_paperShare_25 : decode cX9_paperShare 25 = .ok (.i2f, 1) := by decide +kernel
theorem dX9_paperShare_26 : decode cX9_paperShare 26 = .ok (.iload_n 1, 1) := by decide +kernel
theorem dX9_paperShare_27 : decode cX9_paperShare 27 = .ok (.i2f, 1) := by decide +kernel
theorem dX9_paperShare_28 : decode cX9_paperShare 28 = .ok (.fdiv, 1) := by decide +kernel
theorem dX9_paperShare_29 : decode cX9_paperShare 29 = .ok (.freturn, 1) := by decide +kernel
def k_X9_paperShare : List pEn := [oAload 0, oCallZ 1 F_X9_allPaper, oAload 0, oGet 9 0, oConst (34), oIaldN 34, oAdd, oIstore 1, oIload 1, oIfne 12, oFconst0, oGoto 18, oAload 0, oCallZ 1 F_X9_allPaper, oI2f, oIload 1, oI2f, oFdiv, oFret]
def pc_X9_paperShare (i : Nat) : Nat := ([0, 1, 4, 5, 8, 10, 11, 12, 13, 14, 17, 18, 21, 22, 25, 26, 27, 28, 29] : List Nat).getD i 0
abbrev rm_X9_paperShare : Room := { frames := 1, cells := 0, slots := 0, locals := 20 }
theorem pl_X9_paperShare : pPlain yX9_paperShare 0 := by decide +kernel
set_option maxRecDepth 100000 in
set_option maxHeartbeats 4000000 in
theorem ok_k_X9_paperShare (l : Launch) : ∀ (i : Nat) (en : pEn), k_X9_paperShare[i]? = some en → EOK l cX9_paperShare yX9_paperShare.cls 2 ((some FieldType.float)) rm_X9_paperShare 0 pc_X9_paperShare i en := by
  refine allOK_at ?_
  refine And.intro (okAload_n dX9_paperShare_0 rfl rfl) ?_
  refine And.intro (okCallV (y := yX9_allPaper) (T := TX9) (oCallZ_is _ _ _) dX9_paperShare_1 rfl (ok_F_X9_allPaper l) rc_F_X9_allPaper rfl wm_4_64 wm_4_66 wp_28 wm_1_10 wm_4_67 pl_X9_allPaper (by decide)) ?_
  refine And.intro (okAload_n dX9_paperShare_4 rfl rfl) ?_
  refine And.intro (okGet (C := RX9) (T := TX9) (N := 22) dX9_paperShare_5 rfl rfl (by decide) inX9 wm_3_141) ?_
  refine And.intro (okBipush dX9_paperShare_8 rfl (by first | rfl | decide)) ?_
  refine And.intro (okIaldN dX9_paperShare_10 rfl) ?_
  refine And.intro (okAdd dX9_paperShare_11 rfl) ?_
  refine And.intro (okIstore_n dX9_paperShare_12 rfl rfl (by decide)) ?_
  refine And.intro (okIload_n dX9_paperShare_13 rfl rfl) ?_
  refine And.intro (okIfne dX9_paperShare_14 rfl (by rfl)) ?_
  refine And.intro (okFconst0 dX9_paperShare_17 rfl) ?_
  refine And.intro (okGoto dX9_paperShare_18 (by rfl)) ?_
  refine And.intro (okAload_n dX9_paperShare_21 rfl rfl) ?_
  refine And.intro (okCallV (y := yX9_allPaper) (T := TX9) (oCallZ_is _ _ _) dX9_paperShare_22 rfl (ok_F_X9_allPaper l) rc_F_X9_allPaper rfl wm_4_64 wm_4_66 wp_28 wm_1_10 wm_4_67 pl_X9_allPaper (by decide)) ?_
  refine And.intro (okI2f dX9_paperShare_25 rfl) ?_
  refine And.intro (okIload_n dX9_paperShare_26 rfl rfl) ?_
  refine And.intro (okI2f dX9_paperShare_27 rfl) ?_
  refine And.intro (okFdiv dX9_paperShare_28 rfl) ?_
  refine And.intro (okFret dX9_paperShare_29 rfl) ?_
  exact trivial
def G_X9_paperShare : pG := fun args w => match args with
  | [.ref 0] => unM w (fun m => some (some (.float (psI (apM m) (apM m + m 1 34))), mdl (m)))
  | _ => none
set_option maxHeartbeats 400000 in
set_option maxRecDepth 100000 in
theorem run_X9_paperShare (rg : pRg) (m : pLV)   : ∃ fu, ex k_X9_paperShare fu 0 [(0, .ref 0)] [] (mdl m) rg = some (some (.float (psI (apM m) (apM m + m 1 34))), mdl (m), rg) := by
  refine ⟨60, ?_⟩
  conv => lhs; whnf
  refine (callK_r (cl_X9_allPaper m rg) (by rfl)).trans ?_
  rw [show apM (NM m) = apM m from rfl]
  conv => lhs; whnf
  refine pif_c (fun h => ?_) (fun h => ?_)
  · rw [show psI (apM m) (apM m + m 1 34) = _ from if_pos h]
    rfl
  · rw [show psI (apM m) (apM m + m 1 34) = _ from if_neg h]
    conv => lhs; whnf
    refine (callK_r (cl_X9_allPaper (NM m) rg) (by rfl)).trans ?_
    conv => lhs; whnf
    refine (pif_t (fdiv_ok _ _ h)).trans ?_
    rfl
theorem ct_X9_paperShare (l : Launch) : ∀ args0 w0 v0 w1 rg, G_X9_paperShare args0 w0 = some (v0, w1) → pCT l yX9_paperShare (pWs yX9_paperShare cX9_paperShare 2 ((some FieldType.float))) rm_X9_paperShare args0 w0 rg (v0, w1, rg) := by
  intro args0 w0 v0 w1 rg h
  unfold G_X9_paperShare at h
  split at h
  next  =>
    obtain ⟨m, hw, h2⟩ := unM_some h
    clear h
    subst hw
    cases h2
    exact met_of_exM (by decide) (ok_k_X9_paperShare l) rfl (run_X9_paperShare rg m  ) (Nat.le_of_ble_eq_true rfl) rfl rfl
  next => cases h
def F_X9_paperShare : pF := faN G_X9_paperShare
theorem ok_F_X9_paperShare (l : Launch) : pFOK l yX9_paperShare (pWs yX9_paperShare cX9_paperShare 2 ((some FieldType.float))) rm_X9_paperShare F_X9_paperShare := pFOK_fa (fun a b c d rg h => ct_X9_paperShare l a b c d rg h)
theorem rc_F_X9_paperShare : pRcv 9 F_X9_paperShare := pRcv_fa (fun a b c d h => by
  unfold G_X9_paperShare at h
  split at h
  next =>
    obtain ⟨m, rfl, h⟩ := unM_some h
    exact ⟨_, _, _, rfl, rfl⟩
  next => cases h)
theorem cl_X9_paperShare (m : pLV)  (rg : pRg) : F_X9_paperShare [.ref 0] (mdl m) rg = some (some (.float (psI (apM (NM m)) (apM (NM m) + (NM m) 1 34))), mdl ((NM m)), rg) := rfl
end
