noncomputable section
theorem dX8_overflow_0 : decode cX8_overflow 0 = .ok (.aload_n 0, 1) := by decide +kernel
theorem dX8_overflow_1 : decode cX8_overflow 1 = .ok (.getfield 16, 3) := by decide +kernel
theorem dX8_overflow_4 : decode cX8_overflow 4 = .ok (.aload_n 0, 1) := by decide +kernel
theorem dX8_overflow_5 : decode cX8_overflow 5 = .ok (.getfield 10, 3) := by decide +kernel
theorem dX8_overflow_8 : decode cX8_overflow 8 = .ok (.invokevirtual 222, 3) := by decide +kernel
theorem dX8_overflow_11 : decode cX8_overflow 11 = .ok (.aload_n 0, 1) := by decide +kernel
theorem dX8_overflow_12 : decode cX8_overflow 12 = .ok (.getfield 16, 3) := by decide +kernel
theorem dX8_overflow_15 : decode cX8_overflow 15 = .ok (.sipush 300, 3) := by decide +kernel
theorem dX8_overflow_18 : decode cX8_overflow 18 = .ok (.invokevirtual 76, 3) := by decide +kernel
theorem dX8_overflow_21 : decode cX8_overflow 21 = .ok (.iconst 1, 1) := by decide +kernel
theorem dX8_overflow_22 : decode cX8_overflow 22 = .ok (.istore_n 1, 1) := by decide +kernel
theorem dX8_overflow_23 : decode cX8_overflow 23 = .ok (.iload_n 1, 1) := by decide +kernel
theorem dX8_overflow_24 : decode cX8_overflow 24 = .ok (.sipush 300, 3) := by decide +kernel
theorem dX8_overflow_27 : decode cX8_overflow 27 = .ok (.if_icmp .gt 21, 3) := by decide +kernel
theorem dX8_overflow_30 : decode cX8_overflow 30 = .ok (.aload_n 0, 1) := by decide +kernel
theorem dX8_overflow_31 : decode cX8_overflow 31 = .ok (.getfield 16, 3) := by decide +kernel
theorem dX8_overflow_34 : decode cX8_overflow 34 = .ok (.invokevirtual 230, 3) := by decide +kernel
theorem dX8_overflow_37 : decode cX8_overflow 37 = .ok (.ifCond .eq 5, 3) := by decide +kernel
theorem dX8_overflow_40 : decode cX8_overflow 40 = .ok (.iload_n 1, 1) := by decide +kernel
theorem dX8_overflow_41 : decode cX8_overflow 41 = .ok (.ireturn, 1) := by decide +kernel
theorem dX8_overflow_42 : decode cX8_overflow 42 = .ok (.iinc 1 1, 3) := by decide +kernel
theorem dX8_overflow_45 : decode cX8_overflow 45 = .ok (.goto (-22), 3) := by decide +kernel
theorem dX8_overflow_48 : decode cX8_overflow 48 = .ok (.bipush (-9), 2) := by decide +kernel
theorem dX8_overflow_50 : decode cX8_overflow 50 = .ok (.ireturn, 1) := by decide +kernel
def k_X8_overflow : List pEn := [oAload 0, oGet 8 1, oAload 0, oGet 8 0, oCallZ 2 F_cpTL, oAload 0, oGet 8 1, oConst (300), oCallZ 2 Fb_X5_breakSheet, oConst (1), oIstore 1, oIload 1, oConst (300), oCgt 22, oAload 0, oGet 8 1, oCallZ 1 Fb_X5_tick, oIfeq 20, oIload 1, oIret, oIinc 1 (1), oGoto 11, oConst (-9), oIret]
def pc_X8_overflow (i : Nat) : Nat := ([0, 1, 4, 5, 8, 11, 12, 15, 18, 21, 22, 23, 24, 27, 30, 31, 34, 37, 40, 41, 42, 45, 48, 50] : List Nat).getD i 0
abbrev rm_X8_overflow : Room := { frames := 5, cells := 0, slots := 0, locals := 116 }
theorem pl_X8_overflow : pPlain yX8_overflow 0 := by decide +kernel
set_option maxRecDepth 100000 in
set_option maxHeartbeats 4000000 in
theorem ok_k_X8_overflow (l : Launch) : ∀ (i : Nat) (en : pEn), k_X8_overflow[i]? = some en → EOK l cX8_overflow yX8_overflow.cls 2 ((some FieldType.int)) rm_X8_overflow 0 pc_X8_overflow i en := by
  refine allOK_at ?_
  refine And.intro (okAload_n dX8_overflow_0 rfl rfl) ?_
  refine And.intro (okGet (C := RX8) (T := TX8) (N := 10) dX8_overflow_1 rfl rfl (by decide) inX8 wm_2_33) ?_
  refine And.intro (okAload_n dX8_overflow_4 rfl rfl) ?_
  refine And.intro (okGet (C := RX8) (T := TX8) (N := 10) dX8_overflow_5 rfl rfl (by decide) inX8 wm_2_32) ?_
  refine And.intro (okCallV (y := yX5_copyFrom) (T := TX5) (oCallZ_is _ _ _) dX8_overflow_8 rfl (ok_F_cpTL l) rc_F_cpTL rfl wm_3_109 wm_2_72 wm_2_73 wm_1_2 wm_2_74 pl_X5_copyFrom (by decide)) ?_
  refine And.intro (okAload_n dX8_overflow_11 rfl rfl) ?_
  refine And.intro (okGet (C := RX8) (T := TX8) (N := 10) dX8_overflow_12 rfl rfl (by decide) inX8 wm_2_33) ?_
  refine And.intro (okSipush dX8_overflow_15 rfl (by first | rfl | decide)) ?_
  refine And.intro (okCallV (y := yX5_breakSheet) (T := TX5) (oCallZ_is _ _ _) dX8_overflow_18 rfl (ok_Fb_X5_breakSheet l) rc_Fb_X5_breakSheet rfl wm_2_110 wm_2_111 wm_2_112 wm_1_2 wm_2_113 pl_X5_breakSheet (by decide)) ?_
  refine And.intro (okIconst dX8_overflow_21 rfl (by first | rfl | decide)) ?_
  refine And.intro (okIstore_n dX8_overflow_22 rfl rfl (by decide)) ?_
  refine And.intro (okIload_n dX8_overflow_23 rfl rfl) ?_
  refine And.intro (okSipush dX8_overflow_24 rfl (by first | rfl | decide)) ?_
  refine And.intro (okCgt dX8_overflow_27 rfl (by rfl)) ?_
  refine And.intro (okAload_n dX8_overflow_30 rfl rfl) ?_
  refine And.intro (okGet (C := RX8) (T := TX8) (N := 10) dX8_overflow_31 rfl rfl (by decide) inX8 wm_2_33) ?_
  refine And.intro (okCallV (y := yX5_tick) (T := TX5) (oCallZ_is _ _ _) dX8_overflow_34 rfl (ok_Fb_X5_tick l) rc_Fb_X5_tick rfl wm_3_114 wm_2_218 wm_2_219 wm_1_2 wm_2_220 pl_X5_tick (by decide)) ?_
  refine And.intro (okIfeq dX8_overflow_37 rfl (by rfl)) ?_
  refine And.intro (okIload_n dX8_overflow_40 rfl rfl) ?_
  refine And.intro (okIret dX8_overflow_41 rfl) ?_
  refine And.intro (okIinc dX8_overflow_42 rfl (by first | rfl | decide) (by decide)) ?_
  refine And.intro (okGoto dX8_overflow_45 (by rfl)) ?_
  refine And.intro (okBipush dX8_overflow_48 rfl (by first | rfl | decide)) ?_
  refine And.intro (okIret dX8_overflow_50 rfl) ?_
  exact trivial
/-- the trial's ticks until it spills, d at most, the next one being the k-th -/
def ovR : Nat → Nat → pLV → Int32
  | 0, _, _ => -9
  | d + 1, k, u => if tickZ (NL u) = 0 then ovR d (k + 1) (tickV (NL u)) else nI k
def ovU : Nat → pLV → pLV
  | 0, u => u
  | d + 1, u => if tickZ (NL u) = 0 then ovU d (tickV (NL u)) else tickV (NL u)
set_option maxHeartbeats 400000 in
theorem lp_bov (rg : pRg) (f : Nat → Option Nat) (x v : pLV) : ∀ (d k : Nat) (u : pLV), k + d = 301 → ∃ fu, ex k_X8_overflow fu 11 [(1, .int (nI k)), (0, .ref 0)] [] (cw f x v u) rg = some (some (.int (ovR d k u)), cw f x v (ovU d u), rg) := by
  intro d
  induction d with
  | zero =>
    intro k u hk
    obtain rfl : k = 301 := by omega
    refine ⟨5, ?_⟩
    conv => lhs; whnf
    refine (pif_t (by decide)).trans ?_
    rfl
  | succ d ih =>
    intro k u hk
    by_cases h : tickZ (NL u) = 0
    · obtain ⟨m0, hm⟩ := ih (k + 1) (tickV (NL u)) (by omega)
      rw [show ovR (d + 1) k u = _ from if_pos h, show ovU (d + 1) u = _ from if_pos h]
      refine ⟨m0 + 2, ?_⟩
      conv => lhs; whnf
      refine (pif_f (nI_nlt (a := 300) (b := k) (by omega) (by omega))).trans ?_
      conv => lhs; whnf
      refine (callK_r (cc15_tick f x v u rg) (by rfl)).trans ?_
      conv => lhs; whnf
      refine (pif_t h).trans ?_
      conv => lhs; whnf
      rw [nI_1]
      exact hm
    · rw [show ovR (d + 1) k u = _ from if_neg h, show ovU (d + 1) u = _ from if_neg h]
      refine ⟨5, ?_⟩
      conv => lhs; whnf
      refine (pif_f (nI_nlt (a := 300) (b := k) (by omega) (by omega))).trans ?_
      conv => lhs; whnf
      refine (callK_r (cc15_tick f x v u rg) (by rfl)).trans ?_
      conv => lhs; whnf
      refine (pif_f h).trans ?_
      rfl
def F_X8_overflow : pF := fun args w rg => match args with
  | [.ref 0] => unB w (fun f x v u => pif (bOK f rg) (some (some (.int (ovR 300 1 (brkV (cpyV u v) 300))), cw f (x) (v) (ovU 300 (brkV (cpyV u v) 300)), rg)) none)
  | _ => none
set_option maxHeartbeats 400000 in
set_option maxRecDepth 100000 in
theorem run_X8_overflow (rg : pRg) (f : Nat → Option Nat) (x v u : pLV)  (hc : bOK f rg) : ∃ fu, ex k_X8_overflow fu 0 [(0, .ref 0)] [] (cw f x v u) rg = some (some (.int (ovR 300 1 (brkV (cpyV u v) 300))), cw f (x) (v) (ovU 300 (brkV (cpyV u v) 300)), rg) := by
  obtain ⟨fu, hf⟩ := lp_bov rg f x v 300 1 (brkV (cpyV u v) 300) (by omega)
  obtain ⟨f1, rfl⟩ := ex_pos hf
  refine ⟨f1 + 1, ?_⟩
  conv => lhs; whnf
  refine (callK_v (cl_cpTL f x v u rg) (by rfl)).trans ?_
  conv => lhs; whnf
  refine (callK_v (cc15_breakSheet f x v (cpyV u v) 300 rg) (by rfl)).trans ?_
  conv at hf => lhs; whnf
  conv => lhs; whnf
  exact hf
theorem ok_F_X8_overflow (l : Launch) : pFOK l yX8_overflow (pWs yX8_overflow cX8_overflow 2 ((some FieldType.int))) rm_X8_overflow F_X8_overflow := by
  refine pFOK_all fun args w rg v0 w' rg' h => ?_
  unfold F_X8_overflow at h
  split at h
  next  =>
    obtain ⟨f, x, v, u, hw, h2⟩ := unB_some h
    clear h
    subst hw
    by_cases hc : bOK f rg
    · have h2 := (pif_t hc).symm.trans h2
      cases h2
      exact met_of_ex (by decide) (ok_k_X8_overflow l) rfl (run_X8_overflow rg f x v u  hc) (Nat.le_of_ble_eq_true rfl) rfl (Nat.le_of_ble_eq_true rfl) (Nat.le_of_ble_eq_true rfl) (Nat.zero_le _) rfl rfl
    · have h2 := (pif_f hc).symm.trans h2
      cases h2
  next => cases h
theorem rc_F_X8_overflow : pRcv 8 F_X8_overflow := by
  intro as w rg o h
  obtain ⟨v0, w', rg'⟩ := o
  unfold F_X8_overflow at h
  split at h
  next =>
    obtain ⟨f, x, v, u, rfl, -⟩ := unB_some h
    exact ⟨_, _, _, rfl, cellOf_get rfl⟩
  next => cases h
theorem cl_X8_overflow (f : Nat → Option Nat) (x v u : pLV)  (rg : pRg) (hc : bOK f rg) : F_X8_overflow [.ref 0] (cw f x v u) rg = some (some (.int (ovR 300 1 (brkV (cpyV (NL u) (NL v)) 300))), cw f ((NX x)) ((NL v)) (ovU 300 (brkV (cpyV (NL u) (NL v)) 300)), rg) := pif_t hc
end
