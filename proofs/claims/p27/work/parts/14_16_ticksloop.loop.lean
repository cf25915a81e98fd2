noncomputable section
def tickI : Nat → pLV → pLV
  | 0, v => v
  | k + 1, v => tickV (NL (tickI k v))
theorem dX5_doTicks_0 : decode cX5_doTicks 0 = .ok (.aload_n 0, 1) := by decide +kernel
theorem dX5_doTicks_1 : decode cX5_doTicks 1 = .ok (.getfield 54, 3) := by decide +kernel
theorem dX5_doTicks_4 : decode cX5_doTicks 4 = .ok (.invokevirtual 122, 3) := by decide +kernel
theorem dX5_doTicks_7 : decode cX5_doTicks 7 = .ok (.istore_n 2, 1) := by decide +kernel
theorem dX5_doTicks_8 : decode cX5_doTicks 8 = .ok (.iconst 0, 1) := by decide +kernel
theorem dX5_doTicks_9 : decode cX5_doTicks 9 = .ok (.istore_n 3, 1) := by decide +kernel
theorem dX5_doTicks_10 : decode cX5_doTicks 10 = .ok (.iload_n 3, 1) := by decide +kernel
theorem dX5_doTicks_11 : decode cX5_doTicks 11 = .ok (.iload_n 1, 1) := by decide +kernel
theorem dX5_doTicks_12 : decode cX5_doTicks 12 = .ok (.if_icmp .ge 14, 3) := by decide +kernel
theorem dX5_doTicks_15 : decode cX5_doTicks 15 = .ok (.aload_n 0, 1) := by decide +kernel
theorem dX5_doTicks_16 : decode cX5_doTicks 16 = .ok (.invokevirtual 126, 3) := by decide +kernel
theorem dX5_doTicks_19 : decode cX5_doTicks 19 = .ok (.pop, 1) := by decide +kernel
theorem dX5_doTicks_20 : decode cX5_doTicks 20 = .ok (.iinc 3 1, 3) := by decide +kernel
theorem dX5_doTicks_23 : decode cX5_doTicks 23 = .ok (.goto (-13), 3) := by decide +kernel
theorem dX5_doTicks_26 : decode cX5_doTicks 26 = .ok (.aload_n 0, 1) := by decide +kernel
theorem dX5_doTicks_27 : decode cX5_doTicks 27 = .ok (.getfield 54, 3) := by decide +kernel
theorem dX5_doTicks_30 : decode cX5_doTicks 30 = .ok (.invokevirtual 122, 3) := by decide +kernel
theorem dX5_doTicks_33 : decode cX5_doTicks 33 = .ok (.iload_n 2, 1) := by decide +kernel
theorem dX5_doTicks_34 : decode cX5_doTicks 34 = .ok (.isub, 1) := by decide +kernel
theorem dX5_doTicks_35 : decode cX5_doTicks 35 = .ok (.ireturn, 1) := by decide +kernel
def k_X5_doTicks : List pEn := [oAload 0, oGet 5 11, oCall 1 F_X0_paperOfAll, oIstore 2, oConst (0), oIstore 3, oIload 3, oIload 1, oCge 14, oAload 0, oCallZ 1 F_X5_tick, oPop, oIinc 3 (1), oGoto 6, oAload 0, oGet 5 11, oCall 1 F_X0_paperOfAll, oIload 2, oSub, oIret]
def pc_X5_doTicks (i : Nat) : Nat := ([0, 1, 4, 7, 8, 9, 10, 11, 12, 15, 16, 19, 20, 23, 26, 27, 30, 33, 34, 35] : List Nat).getD i 0
abbrev rm_X5_doTicks : Room := { frames := 5, cells := 0, slots := 0, locals := 116 }
theorem pl_X5_doTicks : pPlain yX5_doTicks 1 := by decide +kernel
set_option maxRecDepth 100000 in
set_option maxHeartbeats 4000000 in
theorem ok_k_X5_doTicks (l : Launch) : ∀ (i : Nat) (en : pEn), k_X5_doTicks[i]? = some en → EOK l cX5_doTicks yX5_doTicks.cls 4 ((some FieldType.int)) rm_X5_doTicks 0 pc_X5_doTicks i en := by
  refine allOK_at ?_
  refine And.intro (okAload_n dX5_doTicks_0 rfl rfl) ?_
  refine And.intro (okGet (C := RX5) (T := TX5) (N := 15) dX5_doTicks_1 rfl rfl (by decide) inX5 wm_1_172) ?_
  refine And.intro (okCallV (y := yX0_paperOfAll) (T := TX0) (oCall_is _ _ _) dX5_doTicks_4 rfl (ok_F_X0_paperOfAll l) rc_F_X0_paperOfAll rfl wm_2_213 wm_2_214 wm_2_215 wm_1_4 wm_2_216 pl_X0_paperOfAll (by decide)) ?_
  refine And.intro (okIstore_n dX5_doTicks_7 rfl rfl (by decide)) ?_
  refine And.intro (okIconst dX5_doTicks_8 rfl (by first | rfl | decide)) ?_
  refine And.intro (okIstore_n dX5_doTicks_9 rfl rfl (by decide)) ?_
  refine And.intro (okIload_n dX5_doTicks_10 rfl rfl) ?_
  refine And.intro (okIload_n dX5_doTicks_11 rfl rfl) ?_
  refine And.intro (okCge dX5_doTicks_12 rfl (by rfl)) ?_
  refine And.intro (okAload_n dX5_doTicks_15 rfl rfl) ?_
  refine And.intro (okCallV (y := yX5_tick) (T := TX5) (oCallZ_is _ _ _) dX5_doTicks_16 rfl (ok_F_X5_tick l) rc_F_X5_tick rfl wm_2_217 wm_2_218 wm_2_219 wm_1_2 wm_2_220 pl_X5_tick (by decide)) ?_
  refine And.intro (okPop dX5_doTicks_19 rfl) ?_
  refine And.intro (okIinc dX5_doTicks_20 rfl (by first | rfl | decide) (by decide)) ?_
  refine And.intro (okGoto dX5_doTicks_23 (by rfl)) ?_
  refine And.intro (okAload_n dX5_doTicks_26 rfl rfl) ?_
  refine And.intro (okGet (C := RX5) (T := TX5) (N := 15) dX5_doTicks_27 rfl rfl (by decide) inX5 wm_1_172) ?_
  refine And.intro (okCallV (y := yX0_paperOfAll) (T := TX0) (oCall_is _ _ _) dX5_doTicks_30 rfl (ok_F_X0_paperOfAll l) rc_F_X0_paperOfAll rfl wm_2_213 wm_2_214 wm_2_215 wm_1_4 wm_2_216 pl_X0_paperOfAll (by decide)) ?_
  refine And.intro (okIload_n dX5_doTicks_33 rfl rfl) ?_
  refine And.intro (okSub dX5_doTicks_34 rfl) ?_
  refine And.intro (okIret dX5_doTicks_35 rfl) ?_
  exact trivial
set_option maxHeartbeats 800000 in
theorem lp_ticks (rg : pRg) (v : pLV) (n b : Int32) : ∀ (d k : Nat), k + d = n.toNatClampNeg → ∃ m, ex k_X5_doTicks m 6 [(3, .int (nI k)), (2, .int b), (0, .ref 0), (1, .int n)] [] (loopCells 0 (tickI k v)) rg = some (some (.int (sumP (tickI n.toNatClampNeg v 2) 4 - b)), loopCells 0 (tickI n.toNatClampNeg v), rg) := by
  have hn : n.toNatClampNeg < 2 ^ 31 := by
    have h1 : n.toNatClampNeg = n.toInt.toNat := rfl
    have h2 : n.toInt < 2 ^ 31 := Int32.toInt_lt n
    omega
  intro d
  induction d with
  | zero =>
    intro k hk
    obtain rfl : k = n.toNatClampNeg := by omega
    refine ⟨5, ?_⟩
    conv => lhs; whnf
    refine (pif_t (clamp_ge (Nat.le_refl _) hn)).trans ?_
    rfl
  | succ d ih =>
    intro k hk
    obtain ⟨m, hm⟩ := ih (k + 1) (by omega)
    refine ⟨m + 1, ?_⟩
    conv => lhs; whnf
    refine (pif_f (clamp_le (by omega))).trans ?_
    conv => lhs; whnf
    refine (callK_r (cl_X5_tick (tickI k v) rg) rfl).trans ?_
    conv => lhs; whnf
    rw [nI_1]
    exact hm
end
