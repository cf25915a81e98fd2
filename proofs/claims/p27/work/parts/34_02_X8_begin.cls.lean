noncomputable section
def begX (x : pLV) : pLV := xRem x
theorem dX8_begin_0 : decode cX8_begin 0 = .ok (.aload_n 0, 1) := by decide +kernel
theorem dX8_begin_1 : decode cX8_begin 1 = .ok (.getfield 22, 3) := by decide +kernel
theorem dX8_begin_4 : decode cX8_begin 4 = .ok (.aload_n 0, 1) := by decide +kernel
theorem dX8_begin_5 : decode cX8_begin 5 = .ok (.getfield 10, 3) := by decide +kernel
theorem dX8_begin_8 : decode cX8_begin 8 = .ok (.invokevirtual 57, 3) := by decide +kernel
theorem dX8_begin_11 : decode cX8_begin 11 = .ok (.aload_n 0, 1) := by decide +kernel
theorem dX8_begin_12 : decode cX8_begin 12 = .ok (.getfield 10, 3) := by decide +kernel
theorem dX8_begin_15 : decode cX8_begin 15 = .ok (.getfield 61, 3) := by decide +kernel
theorem dX8_begin_18 : decode cX8_begin 18 = .ok (.istore_n 1, 1) := by decide +kernel
theorem dX8_begin_19 : decode cX8_begin 19 = .ok (.aload_n 0, 1) := by decide +kernel
theorem dX8_begin_20 : decode cX8_begin 20 = .ok (.getfield 10, 3) := by decide +kernel
theorem dX8_begin_23 : decode cX8_begin 23 = .ok (.invokevirtual 64, 3) := by decide +kernel
theorem dX8_begin_26 : decode cX8_begin 26 = .ok (.iload_n 1, 1) := by decide +kernel
theorem dX8_begin_27 : decode cX8_begin 27 = .ok (.ireturn, 1) := by decide +kernel
def k_X8_begin : List pEn := [oAload 0, oGet 8 2, oAload 0, oGet 8 0, oCallZ 2 F_X3_remember, oAload 0, oGet 8 0, oGet 5 0, oIstore 1, oAload 0, oGet 8 0, oCallZ 1 Fb_X5_startAnew, oIload 1, oIret]
def pc_X8_begin (i : Nat) : Nat := ([0, 1, 4, 5, 8, 11, 12, 15, 18, 19, 20, 23, 26, 27] : List Nat).getD i 0
abbrev rm_X8_begin : Room := { frames := 4, cells := 0, slots := 0, locals := 86 }
theorem pl_X8_begin : pPlain yX8_begin 0 := by decide +kernel
set_option maxRecDepth 100000 in
set_option maxHeartbeats 4000000 in
theorem ok_k_X8_begin (l : Launch) : ∀ (i : Nat) (en : pEn), k_X8_begin[i]? = some en → EOK l cX8_begin yX8_begin.cls 2 ((some FieldType.int)) rm_X8_begin 0 pc_X8_begin i en := by
  refine allOK_at ?_
  refine And.intro (okAload_n dX8_begin_0 rfl rfl) ?_
  refine And.intro (okGet (C := RX8) (T := TX8) (N := 10) dX8_begin_1 rfl rfl (by decide) inX8 wm_2_34) ?_
  refine And.intro (okAload_n dX8_begin_4 rfl rfl) ?_
  refine And.intro (okGet (C := RX8) (T := TX8) (N := 10) dX8_begin_5 rfl rfl (by decide) inX8 wm_2_32) ?_
  refine And.intro (okCallV (y := yX3_remember) (T := TX3) (oCallZ_is _ _ _) dX8_begin_8 rfl (ok_F_X3_remember l) rc_F_X3_remember rfl wm_2_67 wm_2_68 wm_2_69 wm_1_7 wm_2_70 pl_X3_remember (by decide)) ?_
  refine And.intro (okAload_n dX8_begin_11 rfl rfl) ?_
  refine And.intro (okGet (C := RX8) (T := TX8) (N := 10) dX8_begin_12 rfl rfl (by decide) inX8 wm_2_32) ?_
  refine And.intro (okGet (C := RX5) (T := TX5) (N := 15) dX8_begin_15 rfl rfl (by decide) inX5 wm_1_153) ?_
  refine And.intro (okIstore_n dX8_begin_18 rfl rfl (by decide)) ?_
  refine And.intro (okAload_n dX8_begin_19 rfl rfl) ?_
  refine And.intro (okGet (C := RX8) (T := TX8) (N := 10) dX8_begin_20 rfl rfl (by decide) inX8 wm_2_32) ?_
  refine And.intro (okCallV (y := yX5_startAnew) (T := TX5) (oCallZ_is _ _ _) dX8_begin_23 rfl (ok_Fb_X5_startAnew l) rc_Fb_X5_startAnew rfl wm_2_97 wm_1_137 wm_1_138 wm_1_2 wm_1_139 pl_X5_startAnew (by decide)) ?_
  refine And.intro (okIload_n dX8_begin_26 rfl rfl) ?_
  refine And.intro (okIret dX8_begin_27 rfl) ?_
  exact trivial
def F_X8_begin : pF := fun args w rg => match args with
  | [.ref 0] => unB w (fun f x v u => pif (bOK f rg) (some (some (.int (v 0 0)), cw f (xRem x) (startV v) (u), (rg.1, hRem x v rg.2))) none)
  | _ => none
set_option maxHeartbeats 400000 in
set_option maxRecDepth 100000 in
theorem run_X8_begin (rg : pRg) (f : Nat → Option Nat) (x v u : pLV)  (hc : bOK f rg) : ∃ fu, ex k_X8_begin fu 0 [(0, .ref 0)] [] (cw f x v u) rg = some (some (.int (v 0 0)), cw f (xRem x) (startV v) (u), (rg.1, hRem x v rg.2)) := by
  refine ⟨60, ?_⟩
  conv => lhs; whnf
  refine (callK_v (cl_X3_remember f x v u rg hc) (by rfl)).trans ?_
  conv => lhs; whnf
  refine (callK_v (cc1_startAnew f (xRem (NX x)) v u (rg.1, hRem (NX x) (NL v) rg.2)) (by rfl)).trans ?_
  rfl
theorem ok_F_X8_begin (l : Launch) : pFOK l yX8_begin (pWs yX8_begin cX8_begin 2 ((some FieldType.int))) rm_X8_begin F_X8_begin := by
  refine pFOK_all fun args w rg v0 w' rg' h => ?_
  unfold F_X8_begin at h
  split at h
  next  =>
    obtain ⟨f, x, v, u, hw, h2⟩ := unB_some h
    clear h
    subst hw
    by_cases hc : bOK f rg
    · have h2 := (pif_t hc).symm.trans h2
      cases h2
      exact met_of_ex (by decide) (ok_k_X8_begin l) rfl (run_X8_begin rg f x v u  hc) (Nat.le_of_ble_eq_true rfl) rfl (Nat.le_of_ble_eq_true rfl) (Nat.le_of_ble_eq_true rfl) (Nat.zero_le _) rfl rfl
    · have h2 := (pif_f hc).symm.trans h2
      cases h2
  next => cases h
theorem rc_F_X8_begin : pRcv 8 F_X8_begin := by
  intro as w rg o h
  obtain ⟨v0, w', rg'⟩ := o
  unfold F_X8_begin at h
  split at h
  next =>
    obtain ⟨f, x, v, u, rfl, -⟩ := unB_some h
    exact ⟨_, _, _, rfl, cellOf_get rfl⟩
  next => cases h
theorem cl_X8_begin (f : Nat → Option Nat) (x v u : pLV)  (rg : pRg) (hc : bOK f rg) : F_X8_begin [.ref 0] (cw f x v u) rg = some (some (.int ((NL v) 0 0)), cw f (xRem (NX x)) (startV (NL v)) ((NL u)), (rg.1, hRem (NX x) (NL v) rg.2)) := pif_t hc
end
