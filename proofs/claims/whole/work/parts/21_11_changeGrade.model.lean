noncomputable section
def cgM (m : pLV) (g : Int32) : pLV := vA m 1 (upd (upd (m 1) 12 (if g = m 1 10 then m 1 12 else m 1 8)) 10 g)
theorem dX9_changeGrade_0 : decode cX9_changeGrade 0 = .ok (.aload_n 0, 1) := by decide +kernel
theorem dX9_changeGrade_1 : decode cX9_changeGrade 1 = .ok (.getfield 7, 3) := by decide +kernel
theorem dX9_changeGrade_4 : decode cX9_changeGrade 4 = .ok (.bipush 12, 2) := by decide +kernel
theorem dX9_changeGrade_6 : decode cX9_changeGrade 6 = .ok (.iload_n 1, 1) := by decide +kernel
theorem dX9_changeGrade_7 : decode cX9_changeGrade 7 = .ok (.aload_n 0, 1) := by decide +kernel
theorem dX9_changeGrade_8 : decode cX9_changeGrade 8 = .ok (.getfield 7, 3) := by decide +kernel
theorem dX9_changeGrade_11 : decode cX9_changeGrade 11 = .ok (.bipush 10, 2) := by decide +kernel
theorem dX9_changeGrade_13 : decode cX9_changeGrade 13 = .ok (.iaload, 1) := by decide +kernel
theorem dX9_changeGrade_14 : decode cX9_changeGrade 14 = .ok (.if_icmp .ne 13, 3) := by decide +kernel
theorem dX9_changeGrade_17 : decode cX9_changeGrade 17 = .ok (.aload_n 0, 1) := by decide +kernel
theorem dX9_changeGrade_18 : decode cX9_changeGrade 18 = .ok (.getfield 7, 3) := by decide +kernel
theorem dX9_changeGrade_21 : decode cX9_changeGrade 21 = .ok (.bipush 12, 2) := by decide +kernel
theorem dX9_changeGrade_23 : decode cX9_changeGrade 23 = .ok (.iaload, 1) := by decide +kernel
theorem dX9_changeGrade_24 : decode cX9_changeGrade 24 = .ok (.goto 10, 3) := by decide +kernel
theorem dX9_changeGrade_27 : decode cX9_changeGrade 27 = .ok (.aload_n 0, 1) := by decide +kernel
theorem dX9_changeGrade_28 : decode cX9_changeGrade 28 = .ok (.getfield 7, 3) := by decide +kernel
theorem dX9_changeGrade_31 : decode cX9_changeGrade 31 = .ok (.bipush 8, 2) := by decide +kernel
theorem dX9_changeGrade_33 : decode cX9_changeGrade 33 = .ok (.iaload, 1) := by decide +kernel
theorem dX9_changeGrade_34 : decode cX9_changeGrade 34 = .ok (.iastore, 1) := by decide +kernel
theorem dX9_changeGrade_35 : decode cX9_changeGrade 35 = .ok (.aload_n 0, 1) := by decide +kernel
theorem dX9_changeGrade_36 : decode cX9_changeGrade 36 = .ok (.getfield 7, 3) := by decide +kernel
theorem dX9_changeGrade_39 : decode cX9_changeGrade 39 = .ok (.bipush 10, 2) := by decide +kernel
theorem dX9_changeGrade_41 : decode cX9_changeGrade 41 = .ok (.iload_n 1, 1) := by decide +kernel
theorem dX9_changeGrade_42 : decode cX9_changeGrade 42 = .ok (.iastore, 1) := by decide +kernel
theorem dX9_changeGrade_43 : decode cX9_changeGrade 43 = .ok (.return_, 1) := by decide +kernel
def k_X9_changeGrade : List pEn := [oAload 0, oGet 9 0, oConst (12), oIload 1, oAload 0, oGet 9 0, oConst (10), oIaldN 10, oCne 14, oAload 0, oGet 9 0, oConst (12), oIaldN 12, oGoto 18, oAload 0, oGet 9 0, oConst (8), oIaldN 8, oIastN 12, oAload 0, oGet 9 0, oConst (10), oIload 1, oIastN 10, oVret]
def pc_X9_changeGrade (i : Nat) : Nat := ([0, 1, 4, 6, 7, 8, 11, 13, 14, 17, 18, 21, 23, 24, 27, 28, 31, 33, 34, 35, 36, 39, 41, 42, 43] : List Nat).getD i 0
abbrev rm_X9_changeGrade : Room := { frames := 0, cells := 0, slots := 0, locals := 0 }
theorem pl_X9_changeGrade : pPlain yX9_changeGrade 1 := by decide +kernel
set_option maxRecDepth 100000 in
set_option maxHeartbeats 4000000 in
theorem ok_k_X9_changeGrade (l : Launch) : ∀ (i : Nat) (en : pEn), k_X9_changeGrade[i]? = some en → EOK l cX9_changeGrade yX9_changeGrade.cls 2 (none) rm_X9_changeGrade 0 pc_X9_changeGrade i en := by
  refine allOK_at ?_
  refine And.intro (okAload_n dX9_changeGrade_0 rfl rfl) ?_
  refine And.intro (okGet (C := RX9) (T := TX9) (N := 22) dX9_changeGrade_1 rfl rfl (by decide) inX9 wm_3_141) ?_
  refine And.intro (okBipush dX9_changeGrade_4 rfl (by first | rfl | decide)) ?_
  refine And.intro (okIload_n dX9_changeGrade_6 rfl rfl) ?_
  refine And.intro (okAload_n dX9_changeGrade_7 rfl rfl) ?_
  refine And.intro (okGet (C := RX9) (T := TX9) (N := 22) dX9_changeGrade_8 rfl rfl (by decide) inX9 wm_3_141) ?_
  refine And.intro (okBipush dX9_changeGrade_11 rfl (by first | rfl | decide)) ?_
  refine And.intro (okIaldN dX9_changeGrade_13 rfl) ?_
  refine And.intro (okCne dX9_changeGrade_14 rfl (by rfl)) ?_
  refine And.intro (okAload_n dX9_changeGrade_17 rfl rfl) ?_
  refine And.intro (okGet (C := RX9) (T := TX9) (N := 22) dX9_changeGrade_18 rfl rfl (by decide) inX9 wm_3_141) ?_
  refine And.intro (okBipush dX9_changeGrade_21 rfl (by first | rfl | decide)) ?_
  refine And.intro (okIaldN dX9_changeGrade_23 rfl) ?_
  refine And.intro (okGoto dX9_changeGrade_24 (by rfl)) ?_
  refine And.intro (okAload_n dX9_changeGrade_27 rfl rfl) ?_
  refine And.intro (okGet (C := RX9) (T := TX9) (N := 22) dX9_changeGrade_28 rfl rfl (by decide) inX9 wm_3_141) ?_
  refine And.intro (okBipush dX9_changeGrade_31 rfl (by first | rfl | decide)) ?_
  refine And.intro (okIaldN dX9_changeGrade_33 rfl) ?_
  refine And.intro (okIastN dX9_changeGrade_34 rfl) ?_
  refine And.intro (okAload_n dX9_changeGrade_35 rfl rfl) ?_
  refine And.intro (okGet (C := RX9) (T := TX9) (N := 22) dX9_changeGrade_36 rfl rfl (by decide) inX9 wm_3_141) ?_
  refine And.intro (okBipush dX9_changeGrade_39 rfl (by first | rfl | decide)) ?_
  refine And.intro (okIload_n dX9_changeGrade_41 rfl rfl) ?_
  refine And.intro (okIastN dX9_changeGrade_42 rfl) ?_
  refine And.intro (okVret dX9_changeGrade_43 rfl) ?_
  exact trivial
def G_X9_changeGrade : pG := fun args w => match args with
  | [.ref 0, .int g] => unM w (fun m => some (none, mdl (cgM m g)))
  | _ => none
set_option maxHeartbeats 400000 in
set_option maxRecDepth 100000 in
theorem run_X9_changeGrade (rg : pRg) (m : pLV) (g : Int32)  : ∃ fu, ex k_X9_changeGrade fu 0 [(0, .ref 0), (1, .int g)] [] (mdl m) rg = some (none, mdl (cgM m g), rg) := by
  refine ⟨60, ?_⟩
  conv => lhs; whnf
  refine pif_c (fun h => ?_) (fun h => ?_)
  · simp only [cgM, if_pos h] <;> rfl
  · simp only [cgM, if_neg h] <;> rfl
theorem ct_X9_changeGrade (l : Launch) : ∀ args0 w0 v0 w1 rg, G_X9_changeGrade args0 w0 = some (v0, w1) → pCT l yX9_changeGrade (pWs yX9_changeGrade cX9_changeGrade 2 (none)) rm_X9_changeGrade args0 w0 rg (v0, w1, rg) := by
  intro args0 w0 v0 w1 rg h
  unfold G_X9_changeGrade at h
  split at h
  next g =>
    obtain ⟨m, hw, h2⟩ := unM_some h
    clear h
    subst hw
    cases h2
    exact met_of_exM (by decide) (ok_k_X9_changeGrade l) rfl (run_X9_changeGrade rg m g ) (Nat.le_of_ble_eq_true rfl) rfl rfl
  next => cases h
def F_X9_changeGrade : pF := faN G_X9_changeGrade
theorem ok_F_X9_changeGrade (l : Launch) : pFOK l yX9_changeGrade (pWs yX9_changeGrade cX9_changeGrade 2 (none)) rm_X9_changeGrade F_X9_changeGrade := pFOK_fa (fun a b c d rg h => ct_X9_changeGrade l a b c d rg h)
theorem rc_F_X9_changeGrade : pRcv 9 F_X9_changeGrade := pRcv_fa (fun a b c d h => by
  unfold G_X9_changeGrade at h
  split at h
  next =>
    obtain ⟨m, rfl, h⟩ := unM_some h
    exact ⟨_, _, _, rfl, rfl⟩
  next => cases h)
theorem cl_X9_changeGrade (m : pLV) (g : Int32) (rg : pRg) : F_X9_changeGrade [.ref 0, .int g] (mdl m) rg = some (none, mdl (cgM (NM m) g), rg) := rfl
end
