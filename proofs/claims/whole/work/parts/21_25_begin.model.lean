noncomputable section
def begM (m : pLV) : pLV := layM (NM (rememM (NM m)))
theorem dX9_begin_0 : decode cX9_begin 0 = .ok (.aload_n 0, 1) := by decide +kernel
theorem dX9_begin_1 : decode cX9_begin 1 = .ok (.invokevirtual 141, 3) := by decide +kernel
theorem dX9_begin_4 : decode cX9_begin 4 = .ok (.aload_n 0, 1) := by decide +kernel
theorem dX9_begin_5 : decode cX9_begin 5 = .ok (.getfield 7, 3) := by decide +kernel
theorem dX9_begin_8 : decode cX9_begin 8 = .ok (.bipush 9, 2) := by decide +kernel
theorem dX9_begin_10 : decode cX9_begin 10 = .ok (.iaload, 1) := by decide +kernel
theorem dX9_begin_11 : decode cX9_begin 11 = .ok (.istore_n 1, 1) := by decide +kernel
theorem dX9_begin_12 : decode cX9_begin 12 = .ok (.aload_n 0, 1) := by decide +kernel
theorem dX9_begin_13 : decode cX9_begin 13 = .ok (.invokevirtual 35, 3) := by decide +kernel
theorem dX9_begin_16 : decode cX9_begin 16 = .ok (.iload_n 1, 1) := by decide +kernel
theorem dX9_begin_17 : decode cX9_begin 17 = .ok (.ireturn, 1) := by decide +kernel
def k_X9_begin : List pEn := [oAload 0, oCallZ 1 F_X9_remember, oAload 0, oGet 9 0, oConst (9), oIaldN 9, oIstore 1, oAload 0, oCallZ 1 F_X9_lay, oIload 1, oIret]
def pc_X9_begin (i : Nat) : Nat := ([0, 1, 4, 5, 8, 10, 11, 12, 13, 16, 17] : List Nat).getD i 0
abbrev rm_X9_begin : Room := { frames := 1, cells := 0, slots := 0, locals := 21 }
theorem pl_X9_begin : pPlain yX9_begin 0 := by decide +kernel
set_option maxRecDepth 100000 in
set_option maxHeartbeats 4000000 in
theorem ok_k_X9_begin (l : Launch) : ∀ (i : Nat) (en : pEn), k_X9_begin[i]? = some en → EOK l cX9_begin yX9_begin.cls 2 ((some FieldType.int)) rm_X9_begin 0 pc_X9_begin i en := by
  refine allOK_at ?_
  refine And.intro (okAload_n dX9_begin_0 rfl rfl) ?_
  refine And.intro (okCallV (y := yX9_remember) (T := TX9) (oCallZ_is _ _ _) dX9_begin_1 rfl (ok_F_X9_remember l) rc_F_X9_remember rfl wm_3_212 wm_3_214 wp_16 wm_1_10 wm_3_215 pl_X9_remember (by decide)) ?_
  refine And.intro (okAload_n dX9_begin_4 rfl rfl) ?_
  refine And.intro (okGet (C := RX9) (T := TX9) (N := 22) dX9_begin_5 rfl rfl (by decide) inX9 wm_3_141) ?_
  refine And.intro (okBipush dX9_begin_8 rfl (by first | rfl | decide)) ?_
  refine And.intro (okIaldN dX9_begin_10 rfl) ?_
  refine And.intro (okIstore_n dX9_begin_11 rfl rfl (by decide)) ?_
  refine And.intro (okAload_n dX9_begin_12 rfl rfl) ?_
  refine And.intro (okCallV (y := yX9_lay) (T := TX9) (oCallZ_is _ _ _) dX9_begin_13 rfl (ok_F_X9_lay l) rc_F_X9_lay rfl wm_3_137 wm_3_139 wp_15 wm_1_10 wm_3_140 pl_X9_lay (by decide)) ?_
  refine And.intro (okIload_n dX9_begin_16 rfl rfl) ?_
  refine And.intro (okIret dX9_begin_17 rfl) ?_
  exact trivial
def G_X9_begin : pG := fun args w => match args with
  | [.ref 0] => unM w (fun m => pif (pOK m) (some (some (.int (rememM (NM m) 1 9)), mdl (begM m))) none)
  | _ => none
set_option maxHeartbeats 400000 in
set_option maxRecDepth 100000 in
theorem run_X9_begin (rg : pRg) (m : pLV)  (hc : pOK m) : ∃ fu, ex k_X9_begin fu 0 [(0, .ref 0)] [] (mdl m) rg = some (some (.int (rememM (NM m) 1 9)), mdl (begM m), rg) := by
  refine ⟨60, ?_⟩
  unfold begM
  conv => lhs; whnf
  refine (callK_v (cl_X9_remember m rg hc) (by rfl)).trans ?_
  generalize rememM (NM m) = x
  revert x; refine id ?_; intro x
  conv => lhs; whnf
  refine (callK_v (cl_X9_lay x rg) (by rfl)).trans ?_
  generalize layM (NM x) = y
  revert y; refine id ?_; intro y
  rfl
theorem ct_X9_begin (l : Launch) : ∀ args0 w0 v0 w1 rg, G_X9_begin args0 w0 = some (v0, w1) → pCT l yX9_begin (pWs yX9_begin cX9_begin 2 ((some FieldType.int))) rm_X9_begin args0 w0 rg (v0, w1, rg) := by
  intro args0 w0 v0 w1 rg h
  unfold G_X9_begin at h
  split at h
  next  =>
    obtain ⟨m, hw, h2⟩ := unM_some h
    clear h
    subst hw
    by_cases hc : pOK m
    · have h2 := (pif_t hc).symm.trans h2
      cases h2
      exact met_of_exM (by decide) (ok_k_X9_begin l) rfl (run_X9_begin rg m  hc) (Nat.le_of_ble_eq_true rfl) rfl rfl
    · have h2 := (pif_f hc).symm.trans h2
      cases h2
  next => cases h
def F_X9_begin : pF := faN G_X9_begin
theorem ok_F_X9_begin (l : Launch) : pFOK l yX9_begin (pWs yX9_begin cX9_begin 2 ((some FieldType.int))) rm_X9_begin F_X9_begin := pFOK_fa (fun a b c d rg h => ct_X9_begin l a b c d rg h)
theorem rc_F_X9_begin : pRcv 9 F_X9_begin := pRcv_fa (fun a b c d h => by
  unfold G_X9_begin at h
  split at h
  next =>
    obtain ⟨m, rfl, h⟩ := unM_some h
    exact ⟨_, _, _, rfl, rfl⟩
  next => cases h)
theorem cl_X9_begin (m : pLV)  (rg : pRg) (hc : pOK (NM m)) : F_X9_begin [.ref 0] (mdl m) rg = some (some (.int (rememM (NM (NM m)) 1 9)), mdl (begM (NM m)), rg) := by
  have h : G_X9_begin [.ref 0] (mdl m) = some (some (.int (rememM (NM (NM m)) 1 9)), mdl (begM (NM m))) := pif_t hc
  unfold F_X9_begin faN
  rw [h]
end
