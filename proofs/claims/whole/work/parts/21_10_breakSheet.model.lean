noncomputable section
def bkM (m : pLV) (t : Int32) : pLV := vA m 1 (upd (m 1) 11 (if t ≤ m 1 11 then m 1 11 else t))
theorem dX9_breakSheet_0 : decode cX9_breakSheet 0 = .ok (.aload_n 0, 1) := by decide +kernel
theorem dX9_breakSheet_1 : decode cX9_breakSheet 1 = .ok (.getfield 7, 3) := by decide +kernel
theorem dX9_breakSheet_4 : decode cX9_breakSheet 4 = .ok (.bipush 11, 2) := by decide +kernel
theorem dX9_breakSheet_6 : decode cX9_breakSheet 6 = .ok (.iload_n 1, 1) := by decide +kernel
theorem dX9_breakSheet_7 : decode cX9_breakSheet 7 = .ok (.aload_n 0, 1) := by decide +kernel
theorem dX9_breakSheet_8 : decode cX9_breakSheet 8 = .ok (.getfield 7, 3) := by decide +kernel
theorem dX9_breakSheet_11 : decode cX9_breakSheet 11 = .ok (.bipush 11, 2) := by decide +kernel
theorem dX9_breakSheet_13 : decode cX9_breakSheet 13 = .ok (.iaload, 1) := by decide +kernel
theorem dX9_breakSheet_14 : decode cX9_breakSheet 14 = .ok (.if_icmp .le 7, 3) := by decide +kernel
theorem dX9_breakSheet_17 : decode cX9_breakSheet 17 = .ok (.iload_n 1, 1) := by decide +kernel
theorem dX9_breakSheet_18 : decode cX9_breakSheet 18 = .ok (.goto 10, 3) := by decide +kernel
theorem dX9_breakSheet_21 : decode cX9_breakSheet 21 = .ok (.aload_n 0, 1) := by decide +kernel
theorem dX9_breakSheet_22 : decode cX9_breakSheet 22 = .ok (.getfield 7, 3) := by decide +kernel
theorem dX9_breakSheet_25 : decode cX9_breakSheet 25 = .ok (.bipush 11, 2) := by decide +kernel
theorem dX9_breakSheet_27 : decode cX9_breakSheet 27 = .ok (.iaload, 1) := by decide +kernel
theorem dX9_breakSheet_28 : decode cX9_breakSheet 28 = .ok (.iastore, 1) := by decide +kernel
theorem dX9_breakSheet_29 : decode cX9_breakSheet 29 = .ok (.return_, 1) := by decide +kernel
def k_X9_breakSheet : List pEn := [oAload 0, oGet 9 0, oConst (11), oIload 1, oAload 0, oGet 9 0, oConst (11), oIaldN 11, oCle 11, oIload 1, oGoto 15, oAload 0, oGet 9 0, oConst (11), oIaldN 11, oIastN 11, oVret]
def pc_X9_breakSheet (i : Nat) : Nat := ([0, 1, 4, 6, 7, 8, 11, 13, 14, 17, 18, 21, 22, 25, 27, 28, 29] : List Nat).getD i 0
abbrev rm_X9_breakSheet : Room := { frames := 0, cells := 0, slots := 0, locals := 0 }
theorem pl_X9_breakSheet : pPlain yX9_breakSheet 1 := by decide +kernel
set_option maxRecDepth 100000 in
set_option maxHeartbeats 4000000 in
theorem ok_k_X9_breakSheet (l : Launch) : ∀ (i : Nat) (en : pEn), k_X9_breakSheet[i]? = some en → EOK l cX9_breakSheet yX9_breakSheet.cls 2 (none) rm_X9_breakSheet 0 pc_X9_breakSheet i en := by
  refine allOK_at ?_
  refine And.intro (okAload_n dX9_breakSheet_0 rfl rfl) ?_
  refine And.intro (okGet (C := RX9) (T := TX9) (N := 22) dX9_breakSheet_1 rfl rfl (by decide) inX9 wm_3_141) ?_
  refine And.intro (okBipush dX9_breakSheet_4 rfl (by first | rfl | decide)) ?_
  refine And.intro (okIload_n dX9_breakSheet_6 rfl rfl) ?_
  refine And.intro (okAload_n dX9_breakSheet_7 rfl rfl) ?_
  refine And.intro (okGet (C := RX9) (T := TX9) (N := 22) dX9_breakSheet_8 rfl rfl (by decide) inX9 wm_3_141) ?_
  refine And.intro (okBipush dX9_breakSheet_11 rfl (by first | rfl | decide)) ?_
  refine And.intro (okIaldN dX9_breakSheet_13 rfl) ?_
  refine And.intro (okCle dX9_breakSheet_14 rfl (by rfl)) ?_
  refine And.intro (okIload_n dX9_breakSheet_17 rfl rfl) ?_
  refine And.intro (okGoto dX9_breakSheet_18 (by rfl)) ?_
  refine And.intro (okAload_n dX9_breakSheet_21 rfl rfl) ?_
  refine And.intro (okGet (C := RX9) (T := TX9) (N := 22) dX9_breakSheet_22 rfl rfl (by decide) inX9 wm_3_141) ?_
  refine And.intro (okBipush dX9_breakSheet_25 rfl (by first | rfl | decide)) ?_
  refine And.intro (okIaldN dX9_breakSheet_27 rfl) ?_
  refine And.intro (okIastN dX9_breakSheet_28 rfl) ?_
  refine And.intro (okVret dX9_breakSheet_29 rfl) ?_
  exact trivial
def G_X9_breakSheet : pG := fun args w => match args with
  | [.ref 0, .int t] => unM w (fun m => some (none, mdl (bkM m t)))
  | _ => none
set_option maxHeartbeats 400000 in
set_option maxRecDepth 100000 in
theorem run_X9_breakSheet (rg : pRg) (m : pLV) (t : Int32)  : ∃ fu, ex k_X9_breakSheet fu 0 [(0, .ref 0), (1, .int t)] [] (mdl m) rg = some (none, mdl (bkM m t), rg) := by
  refine ⟨60, ?_⟩
  conv => lhs; whnf
  refine pif_c (fun h => ?_) (fun h => ?_)
  · simp only [bkM, if_pos h] <;> rfl
  · simp only [bkM, if_neg h] <;> rfl
theorem ct_X9_breakSheet (l : Launch) : ∀ args0 w0 v0 w1 rg, G_X9_breakSheet args0 w0 = some (v0, w1) → pCT l yX9_breakSheet (pWs yX9_breakSheet cX9_breakSheet 2 (none)) rm_X9_breakSheet args0 w0 rg (v0, w1, rg) := by
  intro args0 w0 v0 w1 rg h
  unfold G_X9_breakSheet at h
  split at h
  next t =>
    obtain ⟨m, hw, h2⟩ := unM_some h
    clear h
    subst hw
    cases h2
    exact met_of_exM (by decide) (ok_k_X9_breakSheet l) rfl (run_X9_breakSheet rg m t ) (Nat.le_of_ble_eq_true rfl) rfl rfl
  next => cases h
def F_X9_breakSheet : pF := faN G_X9_breakSheet
theorem ok_F_X9_breakSheet (l : Launch) : pFOK l yX9_breakSheet (pWs yX9_breakSheet cX9_breakSheet 2 (none)) rm_X9_breakSheet F_X9_breakSheet := pFOK_fa (fun a b c d rg h => ct_X9_breakSheet l a b c d rg h)
theorem rc_F_X9_breakSheet : pRcv 9 F_X9_breakSheet := pRcv_fa (fun a b c d h => by
  unfold G_X9_breakSheet at h
  split at h
  next =>
    obtain ⟨m, rfl, h⟩ := unM_some h
    exact ⟨_, _, _, rfl, rfl⟩
  next => cases h)
theorem cl_X9_breakSheet (m : pLV) (t : Int32) (rg : pRg) : F_X9_breakSheet [.ref 0, .int t] (mdl m) rg = some (none, mdl (bkM (NM m) t), rg) := rfl
end
