noncomputable section
/-! WRITING, AS THE LAW DOES -/
def zL : pLV := fun _ _ => 0
def wrX (x : pLV) (c : Int32) : pLV := cwrite_X x zL zL (fun _ => zL) c
def wrR (x : pLV) (c : Int32) : Int32 := cwrite_R x zL zL (fun _ => zL) c
theorem rd_write (f : Nat → Option Nat) (x v u : pLV) (c : Int32) (rg : pRg) (hc : bOK f rg) : F_X8_write [.ref 0, .int c] (cw f x v u) rg = some (some (.int (wrR (NX x) c)), cw f (wrX (NX x) c) v u, rg) := (cl_X8_write f x v u c rg hc).trans rfl
theorem rd_wipe (f : Nat → Option Nat) (x v u : pLV) (rg : pRg) (hc : bOK f rg) : F_X8_wipe [.ref 0] (cw f x v u) rg = some (some (.int (x 0 0)), cw f (vS (NX x) 0 0) v u, rg) := (cl_X8_wipe f x v u rg hc).trans rfl
theorem rd_plan (f : Nat → Option Nat) (x v u : pLV) (rg : pRg) (hc : bOK f rg ∧ (∃ n : Nat, (NX x) 0 0 = nI n ∧ n ≤ 120)) : F_X8_plan [.ref 0] (cw f x v u) rg = some (some (.int (plR (NX x) (NL v))), cw f (plXX (NX x)) (plV (NX x) (NL v)) u, (rg.1, plH (NX x) (NL v) rg.2)) := (cl_X8_plan f x v u rg hc).trans rfl
def ldA (x : pLV) (v b : Int32) : pLV := if v < b then x else wrX (NX x) (48 + (v / b - v / b / 10 * 10))
def ldX (x : pLV) (v : Int32) : pLV := wrX (NX (ldA (ldA x v 100) v (100 / 10))) (48 + (v - v / 10 * 10))
def ldR (x : pLV) (v : Int32) : Int32 := wrR (NX (ldA (ldA x v 100) v (100 / 10))) (48 + (v - v / 10 * 10))
theorem dL_digits_0 : decode cL_digits 0 = .ok (.iconst 0, 1) := by decide +kernel
theorem dL_digits_1 : decode cL_digits 1 = .ok (.istore_n 2, 1) := by decide +kernel
theorem dL_digits_2 : decode cL_digits 2 = .ok (.bipush 100, 2) := by decide +kernel
theorem dL_digits_4 : decode cL_digits 4 = .ok (.istore_n 3, 1) := by decide +kernel
theorem dL_digits_5 : decode cL_digits 5 = .ok (.iload_n 3, 1) := by decide +kernel
theorem dL_digits_6 : decode cL_digits 6 = .ok (.iconst 1, 1) := by decide +kernel
theorem dL_digits_7 : decode cL_digits 7 = .ok (.if_icmp .le 34, 3) := by decide +kernel
theorem dL_digits_10 : decode cL_digits 10 = .ok (.iload_n 1, 1) := by decide +kernel
theorem dL_digits_11 : decode cL_digits 11 = .ok (.iload_n 3, 1) := by decide +kernel
theorem dL_digits_12 : decode cL_digits 12 = .ok (.if_icmp .lt 19, 3) := by decide +kernel
theorem dL_digits_15 : decode cL_digits 15 = .ok (.aload_n 0, 1) := by decide +kernel
theorem dL_digits_16 : decode cL_digits 16 = .ok (.bipush 48, 2) := by decide +kernel
theorem dL_digits_18 : decode cL_digits 18 = .ok (.iload_n 1, 1) := by decide +kernel
theorem dL_digits_19 : decode cL_digits 19 = .ok (.iload_n 3, 1) := by decide +kernel
theorem dL_digits_20 : decode cL_digits 20 = .ok (.idiv, 1) := by decide +kernel
theorem dL_digits_21 : decode cL_digits 21 = .ok (.bipush 10, 2) := by decide +kernel
theorem dL_digits_23 : decode cL_digits 23 = .ok (.irem, 1) := by decide +kernel
theorem dL_digits_24 : decode cL_digits 24 = .ok (.iadd, 1) := by decide +kernel
theorem dL_digits_25 : decode cL_digits 25 = .ok (.invokevirtual 21, 3) := by decide +kernel
theorem dL_digits_28 : decode cL_digits 28 = .ok (.goto 4, 3) := by decide +kernel
theorem dL_digits_31 : decode cL_digits 31 = .ok (.iload_n 2, 1) := by decide +kernel
theorem dL_digits_32 : decode cL_digits 32 = .ok (.istore_n 2, 1) := by decide +kernel
theorem dL_digits_33 : decode cL_digits 33 = .ok (.iload_n 3, 1) := by decide +kernel
theorem dL_digits_34 : decode cL_digits 34 = .ok (.bipush 10, 2) := by decide +kernel
theorem dL_digits_36 : decode cL_digits 36 = .ok (.idiv, 1) := by decide +kernel
theorem dL_digits_37 : decode cL_digits 37 = .ok (.istore_n 3, 1) := by decide +kernel
theorem dL_digits_38 : decode cL_digits 38 = .ok (.goto (-33), 3) := by decide +kernel
theorem dL_digits_41 : decode cL_digits 41 = .ok (.aload_n 0, 1) := by decide +kernel
theorem dL_digits_42 : decode cL_digits 42 = .ok (.bipush 48, 2) := by decide +kernel
theorem dL_digits_44 : decode cL_digits 44 = .ok (.iload_n 1, 1) := by decide +kernel
theorem dL_digits_45 : decode cL_digits 45 = .ok (.bipush 10, 2) := by decide +kernel
theorem dL_digits_47 : decode cL_digits 47 = .ok (.irem, 1) := by decide +kernel
theorem dL_digits_48 : decode cL_digits 48 = .ok (.iadd, 1) := by decide +kernel
theorem dL_digits_49 : decode cL_digits 49 = .ok (.invokevirtual 21, 3) := by decide +kernel
theorem dL_digits_52 : decode cL_digits 52 = .ok (.ireturn, 1) := by decide +kernel
def k_L_digits : List pEn := [oConst (0), oIstore 2, oConst (100), oIstore 3, oIload 3, oConst (1), oCle 27, oIload 1, oIload 3, oClt 20, oAload 0, oConst (48), oIload 1, oIload 3, oDiv, oConst (10), oRem, oAdd, oCallZ 2 F_X8_write, oGoto 21, oIload 2, oIstore 2, oIload 3, oConst (10), oDivL, oIstore 3, oGoto 4, oAload 0, oConst (48), oIload 1, oConst (10), oRem, oAdd, oCallZ 2 F_X8_write, oIret]
def pc_L_digits (i : Nat) : Nat := ([0, 1, 2, 4, 5, 6, 7, 10, 11, 12, 15, 16, 18, 19, 20, 21, 23, 24, 25, 28, 31, 32, 33, 34, 36, 37, 38, 41, 42, 44, 45, 47, 48, 49, 52] : List Nat).getD i 0
abbrev rm_L_digits : Room := { frames := 1, cells := 0, slots := 0, locals := 21 }
theorem pl_L_digits : pPlain yL_digits 2 := by decide +kernel
set_option maxRecDepth 100000 in
set_option maxHeartbeats 4000000 in
theorem ok_k_L_digits (l : Launch) : ∀ (i : Nat) (en : pEn), k_L_digits[i]? = some en → EOK l cL_digits yL_digits.cls 4 ((some FieldType.int)) rm_L_digits 0 pc_L_digits i en := by
  refine allOK_at ?_
  refine And.intro (okIconst dL_digits_0 rfl (by first | rfl | decide)) ?_
  refine And.intro (okIstore_n dL_digits_1 rfl rfl (by decide)) ?_
  refine And.intro (okBipush dL_digits_2 rfl (by first | rfl | decide)) ?_
  refine And.intro (okIstore_n dL_digits_4 rfl rfl (by decide)) ?_
  refine And.intro (okIload_n dL_digits_5 rfl rfl) ?_
  refine And.intro (okIconst dL_digits_6 rfl (by first | rfl | decide)) ?_
  refine And.intro (okCle dL_digits_7 rfl (by rfl)) ?_
  refine And.intro (okIload_n dL_digits_10 rfl rfl) ?_
  refine And.intro (okIload_n dL_digits_11 rfl rfl) ?_
  refine And.intro (okClt dL_digits_12 rfl (by rfl)) ?_
  refine And.intro (okAload_n dL_digits_15 rfl rfl) ?_
  refine And.intro (okBipush dL_digits_16 rfl (by first | rfl | decide)) ?_
  refine And.intro (okIload_n dL_digits_18 rfl rfl) ?_
  refine And.intro (okIload_n dL_digits_19 rfl rfl) ?_
  refine And.intro (okDiv dL_digits_20 rfl) ?_
  refine And.intro (okBipush dL_digits_21 rfl (by first | rfl | decide)) ?_
  refine And.intro (okRem dL_digits_23 rfl) ?_
  refine And.intro (okAdd dL_digits_24 rfl) ?_
  refine And.intro (okCallV (y := yX8_write) (T := TX8) (oCallZ_is _ _ _) dL_digits_25 rfl (ok_F_X8_write l) rc_F_X8_write rfl wn_2_174 wm_3_51 wm_3_52 wm_1_1 wm_3_53 pl_X8_write (by decide)) ?_
  refine And.intro (okGoto dL_digits_28 (by rfl)) ?_
  refine And.intro (okIload_n dL_digits_31 rfl rfl) ?_
  refine And.intro (okIstore_n dL_digits_32 rfl rfl (by decide)) ?_
  refine And.intro (okIload_n dL_digits_33 rfl rfl) ?_
  refine And.intro (okBipush dL_digits_34 rfl (by first | rfl | decide)) ?_
  refine And.intro (okDivL dL_digits_36 rfl) ?_
  refine And.intro (okIstore_n dL_digits_37 rfl rfl (by decide)) ?_
  refine And.intro (okGoto dL_digits_38 (by rfl)) ?_
  refine And.intro (okAload_n dL_digits_41 rfl rfl) ?_
  refine And.intro (okBipush dL_digits_42 rfl (by first | rfl | decide)) ?_
  refine And.intro (okIload_n dL_digits_44 rfl rfl) ?_
  refine And.intro (okBipush dL_digits_45 rfl (by first | rfl | decide)) ?_
  refine And.intro (okRem dL_digits_47 rfl) ?_
  refine And.intro (okAdd dL_digits_48 rfl) ?_
  refine And.intro (okCallV (y := yX8_write) (T := TX8) (oCallZ_is _ _ _) dL_digits_49 rfl (ok_F_X8_write l) rc_F_X8_write rfl wn_2_174 wm_3_51 wm_3_52 wm_1_1 wm_3_53 pl_X8_write (by decide)) ?_
  refine And.intro (okIret dL_digits_52 rfl) ?_
  exact trivial
def F_L_digits : pF := fun args w rg => match args with
  | [.ref 0, .int n] => unB w (fun f x v u => pif (bOK f rg) (some (some (.int (ldR x n)), cw f (ldX x n) (v) (u), rg)) none)
  | _ => none
set_option maxHeartbeats 400000 in
theorem ld_tail (rg : pRg) (f : Nat → Option Nat) (x v u : pLV) (n ln : Int32) (hc : bOK f rg) : ∃ m, ex k_L_digits m 4 [(3, .int (100 / 10 / 10)), (2, .int ln), (0, .ref 0), (1, .int n)] [] (cw f x v u) rg = some (some (.int (wrR (NX x) (48 + (n - n / 10 * 10)))), cw f (wrX (NX x) (48 + (n - n / 10 * 10))) v u, rg) := by
  refine ⟨4, ?_⟩
  conv => lhs; whnf
  refine (pif_t (by decide)).trans ?_
  conv => lhs; whnf
  refine (pif_f (by decide)).trans ?_
  conv => lhs; whnf
  refine (callK_r (rd_write f x v u _ rg hc) (by rfl)).trans ?_
  rfl
set_option maxHeartbeats 400000 in
theorem ld_step (rg : pRg) (f : Nat → Option Nat) (x v u : pLV) (n ln b : Int32) (hc : bOK f rg) (h1 : ¬ b ≤ 1) (h0 : ¬ b = 0) {T : pOut} (H : ∀ ln', ∃ m, ex k_L_digits m 4 [(3, .int (b / 10)), (2, .int ln'), (0, .ref 0), (1, .int n)] [] (cw f (ldA x n b) v u) rg = some T) : ∃ m, ex k_L_digits m 4 [(3, .int b), (2, .int ln), (0, .ref 0), (1, .int n)] [] (cw f x v u) rg = some T := by
  by_cases hb : n < b
  · obtain ⟨m, hm⟩ := H ln
    rw [show ldA x n b = x from if_pos hb] at hm
    refine ⟨m + 2, ?_⟩
    conv => lhs; whnf
    refine (pif_f h1).trans ?_
    conv => lhs; whnf
    refine (pif_t hb).trans ?_
    conv => lhs; whnf
    exact hm
  · obtain ⟨m, hm⟩ := H (wrR (NX x) (48 + (n / b - n / b / 10 * 10)))
    rw [show ldA x n b = _ from if_neg hb] at hm
    refine ⟨m + 2, ?_⟩
    conv => lhs; whnf
    refine (pif_f h1).trans ?_
    conv => lhs; whnf
    refine (pif_f hb).trans ?_
    conv => lhs; whnf
    refine (pif_f h0).trans ?_
    conv => lhs; whnf
    refine (pif_f (by decide)).trans ?_
    conv => lhs; whnf
    refine (callK_r (rd_write f x v u _ rg hc) (by rfl)).trans ?_
    conv => lhs; whnf
    exact hm
set_option maxHeartbeats 400000 in
set_option maxRecDepth 100000 in
theorem run_L_digits (rg : pRg) (f : Nat → Option Nat) (x v u : pLV) (n : Int32) (hc : bOK f rg) : ∃ fu, ex k_L_digits fu 0 [(0, .ref 0), (1, .int n)] [] (cw f x v u) rg = some (some (.int (ldR x n)), cw f (ldX x n) (v) (u), rg) := by
  have g := ld_step rg f x v u n 0 100 hc (by decide) (by decide) (fun l1 => ld_step rg f (ldA x n 100) v u n l1 (100 / 10) hc (by decide) (by decide) (fun l2 => ld_tail rg f (ldA (ldA x n 100) n (100 / 10)) v u n l2 hc))
  exact ex_at g (fun _ => rfl)
theorem ok_F_L_digits (l : Launch) : pFOK l yL_digits (pWs yL_digits cL_digits 4 ((some FieldType.int))) rm_L_digits F_L_digits := by
  refine pFOK_all fun args w rg v0 w' rg' h => ?_
  unfold F_L_digits at h
  split at h
  next n =>
    obtain ⟨f, x, v, u, hw, h2⟩ := unB_some h
    clear h
    subst hw
    by_cases hc : bOK f rg
    · have h2 := (pif_t hc).symm.trans h2
      cases h2
      exact met_of_ex (by decide) (ok_k_L_digits l) rfl (run_L_digits rg f x v u n hc) (Nat.le_of_ble_eq_true rfl) rfl (Nat.le_of_ble_eq_true rfl) (Nat.le_of_ble_eq_true rfl) (Nat.zero_le _) rfl rfl
    · have h2 := (pif_f hc).symm.trans h2
      cases h2
  next => cases h
theorem cl_L_digits (f : Nat → Option Nat) (x v u : pLV) (n : Int32) (rg : pRg) (hc : bOK f rg) : F_L_digits [.ref 0, .int n] (cw f x v u) rg = some (some (.int (ldR (NX x) n)), cw f (ldX (NX x) n) ((NL v)) (NL u), rg) := pif_t hc
theorem rd_digits (f : Nat → Option Nat) (x v u : pLV) (n : Int32) (rg : pRg) (hc : bOK f rg) : F_L_digits [.ref 0, .int n] (cw f x v u) rg = some (some (.int (ldR (NX x) n)), cw f (ldX (NX x) n) v u, rg) := (cl_L_digits f x v u n rg hc).trans rfl
end
