noncomputable section
theorem dX8_setting_0 : decode cX8_setting 0 = .ok (.iload_n 1, 1) := by decide +kernel
theorem dX8_setting_1 : decode cX8_setting 1 = .ok (.ifCond .lt 9, 3) := by decide +kernel
theorem dX8_setting_4 : decode cX8_setting 4 = .ok (.iload_n 1, 1) := by decide +kernel
theorem dX8_setting_5 : decode cX8_setting 5 = .ok (.bipush 9, 2) := by decide +kernel
theorem dX8_setting_7 : decode cX8_setting 7 = .ok (.if_icmp .lt 5, 3) := by decide +kernel
theorem dX8_setting_10 : decode cX8_setting 10 = .ok (.iconst (-1), 1) := by decide +kernel
theorem dX8_setting_11 : decode cX8_setting 11 = .ok (.ireturn, 1) := by decide +kernel
theorem dX8_setting_12 : decode cX8_setting 12 = .ok (.aload_n 0, 1) := by decide +kernel
theorem dX8_setting_13 : decode cX8_setting 13 = .ok (.getfield 10, 3) := by decide +kernel
theorem dX8_setting_16 : decode cX8_setting 16 = .ok (.getfield 73, 3) := by decide +kernel
theorem dX8_setting_19 : decode cX8_setting 19 = .ok (.iload_n 1, 1) := by decide +kernel
theorem dX8_setting_20 : decode cX8_setting 20 = .ok (.iaload, 1) := by decide +kernel
theorem dX8_setting_21 : decode cX8_setting 21 = .ok (.ireturn, 1) := by decide +kernel
def k_X8_setting : List pEn := [oIload 1, oIflt 5, oIload 1, oConst (9), oClt 7, oConst (-1), oIret, oAload 0, oGet 8 0, oGet 5 14, oIload 1, oIald, oIret]
def pc_X8_setting (i : Nat) : Nat := ([0, 1, 4, 5, 7, 10, 11, 12, 13, 16, 19, 20, 21] : List Nat).getD i 0
abbrev rm_X8_setting : Room := { frames := 0, cells := 0, slots := 0, locals := 0 }
theorem pl_X8_setting : pPlain yX8_setting 1 := by decide +kernel
set_option maxRecDepth 100000 in
set_option maxHeartbeats 4000000 in
theorem ok_k_X8_setting (l : Launch) : ∀ (i : Nat) (en : pEn), k_X8_setting[i]? = some en → EOK l cX8_setting yX8_setting.cls 2 ((some FieldType.int)) rm_X8_setting 0 pc_X8_setting i en := by
  refine allOK_at ?_
  refine And.intro (okIload_n dX8_setting_0 rfl rfl) ?_
  refine And.intro (okIflt dX8_setting_1 rfl (by rfl)) ?_
  refine And.intro (okIload_n dX8_setting_4 rfl rfl) ?_
  refine And.intro (okBipush dX8_setting_5 rfl (by first | rfl | decide)) ?_
  refine And.intro (okClt dX8_setting_7 rfl (by rfl)) ?_
  refine And.intro (okIconst dX8_setting_10 rfl (by first | rfl | decide)) ?_
  refine And.intro (okIret dX8_setting_11 rfl) ?_
  refine And.intro (okAload_n dX8_setting_12 rfl rfl) ?_
  refine And.intro (okGet (C := RX8) (T := TX8) (N := 10) dX8_setting_13 rfl rfl (by decide) inX8 wm_2_32) ?_
  refine And.intro (okGet (C := RX5) (T := TX5) (N := 15) dX8_setting_16 rfl rfl (by decide) inX5 wm_1_179) ?_
  refine And.intro (okIload_n dX8_setting_19 rfl rfl) ?_
  refine And.intro (okIald dX8_setting_20 rfl) ?_
  refine And.intro (okIret dX8_setting_21 rfl) ?_
  exact trivial
def stgB (x v : pLV) (s : Int32) : Int32 := if s < 0 then -1 else if 9 ≤ s then -1 else v 1 s.toNatClampNeg
def F_X8_setting : pF := fun args w rg => match args with
  | [.ref 0, .int s] => unB w (fun f x v u => pif (bOK f rg) (some (some (.int (stgB x v s)), cw f (x) (v) (u), rg)) none)
  | _ => none
set_option maxHeartbeats 400000 in
set_option maxRecDepth 100000 in
theorem run_X8_setting (rg : pRg) (f : Nat → Option Nat) (x v u : pLV) (s : Int32) (hc : bOK f rg) : ∃ fu, ex k_X8_setting fu 0 [(0, .ref 0), (1, .int s)] [] (cw f x v u) rg = some (some (.int (stgB x v s)), cw f (x) (v) (u), rg) := by
  refine ⟨60, ?_⟩
  conv => lhs; whnf
  refine pif_c (fun p0 => ?_) (fun p0 => ?_)
  · rw [show stgB x v s = _ from if_pos p0]
    rfl
  · conv => lhs; whnf
    refine pif_c (fun q1 => ?_) (fun q1 => ?_)
    · have p1 := Int32.not_le.mpr q1
      conv => lhs; whnf
      refine (pif_f (in_of (y := 9) (n := 9) rfl p0 p1)).trans ?_
      rw [show stgB x v s = _ from (if_neg p0).trans (if_neg p1)]
      rfl
    · have p1 := Int32.not_lt.mp q1
      rw [show stgB x v s = _ from (if_neg p0).trans (if_pos p1)]
      rfl
theorem ok_F_X8_setting (l : Launch) : pFOK l yX8_setting (pWs yX8_setting cX8_setting 2 ((some FieldType.int))) rm_X8_setting F_X8_setting := by
  refine pFOK_all fun args w rg v0 w' rg' h => ?_
  unfold F_X8_setting at h
  split at h
  next s =>
    obtain ⟨f, x, v, u, hw, h2⟩ := unB_some h
    clear h
    subst hw
    by_cases hc : bOK f rg
    · have h2 := (pif_t hc).symm.trans h2
      cases h2
      exact met_of_ex (by decide) (ok_k_X8_setting l) rfl (run_X8_setting rg f x v u s hc) (Nat.le_of_ble_eq_true rfl) rfl (Nat.le_of_ble_eq_true rfl) (Nat.le_of_ble_eq_true rfl) (Nat.zero_le _) rfl rfl
    · have h2 := (pif_f hc).symm.trans h2
      cases h2
  next => cases h
theorem rc_F_X8_setting : pRcv 8 F_X8_setting := by
  intro as w rg o h
  obtain ⟨v0, w', rg'⟩ := o
  unfold F_X8_setting at h
  split at h
  next =>
    obtain ⟨f, x, v, u, rfl, -⟩ := unB_some h
    exact ⟨_, _, _, rfl, cellOf_get rfl⟩
  next => cases h
theorem cl_X8_setting (f : Nat → Option Nat) (x v u : pLV) (s : Int32) (rg : pRg) (hc : bOK f rg) : F_X8_setting [.ref 0, .int s] (cw f x v u) rg = some (some (.int (stgB (NX x) (NL v) s)), cw f ((NX x)) ((NL v)) ((NL u)), rg) := pif_t hc
end
