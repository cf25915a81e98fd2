noncomputable section
/-- the reader's value out of the class's -/
def rOf (x : pLV) : pLV := mkL [x 0 7, x 0 8, x 0 9, x 0 10] (x 2) (x 3) (x 4) (x 1) (fun _ => 0) (fun _ => 0)
/-- .. and back -/
def xOf (x r : pLV) : pLV := mkL [x 0 0, x 0 1, x 0 2, x 0 3, x 0 4, x 0 5, x 0 6, r 0 0, r 0 1, r 0 2, r 0 3] (r 4) (r 1) (r 2) (r 3) (fun _ => 0) (fun _ => 0)
set_option maxHeartbeats 4000000 in
set_option maxRecDepth 100000 in
theorem cc_read (f : Nat → Option Nat) (x v u : pLV) (L : Int32) (rg : pRg) (hc : ∃ n : Nat, L = nI n ∧ n ≤ 120) : F_X6_read [.ref 34, .ref 33, .int L] (cw f x v u) rg = some (none, cw f (xOf x (qRd (rOf x) L)) v u, rg) := by
  have h : G_X6_read [.ref 0, .ref 5, .int L] (qW (rOf x)) = some (none, qW (qRd (NQ (rOf x)) L)) := pif_t hc
  have e : F_X6_read [.ref 34, .ref 33, .int L] (cw f x v u) rg = (match G_X6_read [.ref 0, .ref 5, .int L] (qW (rOf x)) with
    | none => none
    | some (v0, w1) => match Nat.beq w1.length 6 with
      | false => none
      | true => zipK nats [34, 35, 36, 37, 38, 33] (fun t' => rnW t' w1 (fun w1' => rnO t' v0 (fun v' => scatK (cw f x v u) [34, 35, 36, 37, 38, 33] w1' (fun w' => some (v', w', rg)))))) := rfl
  rw [e, h]
  rfl
theorem dX8_plan_0 : decode cX8_plan 0 = .ok (.aload_n 0, 1) := by decide +kernel
theorem dX8_plan_1 : decode cX8_plan 1 = .ok (.getfield 47, 3) := by decide +kernel
theorem dX8_plan_4 : decode cX8_plan 4 = .ok (.aload_n 0, 1) := by decide +kernel
theorem dX8_plan_5 : decode cX8_plan 5 = .ok (.getfield 36, 3) := by decide +kernel
theorem dX8_plan_8 : decode cX8_plan 8 = .ok (.aload_n 0, 1) := by decide +kernel
theorem dX8_plan_9 : decode cX8_plan 9 = .ok (.getfield 40, 3) := by decide +kernel
theorem dX8_plan_12 : decode cX8_plan 12 = .ok (.invokevirtual 119, 3) := by decide +kernel
theorem dX8_plan_15 : decode cX8_plan 15 = .ok (.aload_n 0, 1) := by decide +kernel
theorem dX8_plan_16 : decode cX8_plan 16 = .ok (.getfield 47, 3) := by decide +kernel
theorem dX8_plan_19 : decode cX8_plan 19 = .ok (.getfield 123, 3) := by decide +kernel
theorem dX8_plan_22 : decode cX8_plan 22 = .ok (.ifCond .eq 28, 3) := by decide +kernel
theorem dX8_plan_25 : decode cX8_plan 25 = .ok (.aload_n 0, 1) := by decide +kernel
theorem dX8_plan_26 : decode cX8_plan 26 = .ok (.aload_n 0, 1) := by decide +kernel
theorem dX8_plan_27 : decode cX8_plan 27 = .ok (.getfield 47, 3) := by decide +kernel
theorem dX8_plan_30 : decode cX8_plan 30 = .ok (.getfield 123, 3) := by decide +kernel
theorem dX8_plan_33 : decode cX8_plan 33 = .ok (.putfield 51, 3) := by decide +kernel
theorem dX8_plan_36 : decode cX8_plan 36 = .ok (.aload_n 0, 1) := by decide +kernel
theorem dX8_plan_37 : decode cX8_plan 37 = .ok (.aload_n 0, 1) := by decide +kernel
theorem dX8_plan_38 : decode cX8_plan 38 = .ok (.getfield 47, 3) := by decide +kernel
theorem dX8_plan_41 : decode cX8_plan 41 = .ok (.getfield 126, 3) := by decide +kernel
theorem dX8_plan_44 : decode cX8_plan 44 = .ok (.putfield 54, 3) := by decide +kernel
theorem dX8_plan_47 : decode cX8_plan 47 = .ok (.bipush (-2), 2) := by decide +kernel
theorem dX8_plan_49 : decode cX8_plan 49 = .ok (.ireturn, 1) := by decide +kernel
theorem dX8_plan_50 : decode cX8_plan 50 = .ok (.aload_n 0, 1) := by decide +kernel
theorem dX8_plan_51 : decode cX8_plan 51 = .ok (.getfield 22, 3) := by decide +kernel
theorem dX8_plan_54 : decode cX8_plan 54 = .ok (.aload_n 0, 1) := by decide +kernel
theorem dX8_plan_55 : decode cX8_plan 55 = .ok (.getfield 10, 3) := by decide +kernel
theorem dX8_plan_58 : decode cX8_plan 58 = .ok (.invokevirtual 57, 3) := by decide +kernel
theorem dX8_plan_61 : decode cX8_plan 61 = .ok (.aload_n 0, 1) := by decide +kernel
theorem dX8_plan_62 : decode cX8_plan 62 = .ok (.getfield 10, 3) := by decide +kernel
theorem dX8_plan_65 : decode cX8_plan 65 = .ok (.getfield 129, 3) := by decide +kernel
theorem dX8_plan_68 : decode cX8_plan 68 = .ok (.aload_n 0, 1) := by decide +kernel
theorem dX8_plan_69 : decode cX8_plan 69 = .ok (.getfield 47, 3) := by decide +kernel
theorem dX8_plan_72 : decode cX8_plan 72 = .ok (.getfield 133, 3) := by decide +kernel
theorem dX8_plan_75 : decode cX8_plan 75 = .ok (.invokevirtual 136, 3) := by decide +kernel
theorem dX8_plan_78 : decode cX8_plan 78 = .ok (.aload_n 0, 1) := by decide +kernel
theorem dX8_plan_79 : decode cX8_plan 79 = .ok (.getfield 10, 3) := by decide +kernel
theorem dX8_plan_82 : decode cX8_plan 82 = .ok (.getfield 129, 3) := by decide +kernel
theorem dX8_plan_85 : decode cX8_plan 85 = .ok (.getfield 142, 3) := by decide +kernel
theorem dX8_plan_88 : decode cX8_plan 88 = .ok (.ireturn, 1) := by decide +kernel
def k_X8_plan : List pEn := [oAload 0, oGet 8 7, oAload 0, oGet 8 5, oAload 0, oGet 8 6, oCallZ 3 F_X6_read, oAload 0, oGet 8 7, oGet 6 1, oIfeq 23, oAload 0, oAload 0, oGet 8 7, oGet 6 1, oPut 8 8, oAload 0, oAload 0, oGet 8 7, oGet 6 2, oPut 8 9, oConst (-2), oIret, oAload 0, oGet 8 2, oAload 0, oGet 8 0, oCallZ 2 F_X3_remember, oAload 0, oGet 8 0, oGet 5 13, oAload 0, oGet 8 7, oGet 6 0, oCallZ 2 F_X7_copyFrom, oAload 0, oGet 8 0, oGet 5 13, oGet 7 3, oIret]
def pc_X8_plan (i : Nat) : Nat := ([0, 1, 4, 5, 8, 9, 12, 15, 16, 19, 22, 25, 26, 27, 30, 33, 36, 37, 38, 41, 44, 47, 49, 50, 51, 54, 55, 58, 61, 62, 65, 68, 69, 72, 75, 78, 79, 82, 85, 88] : List Nat).getD i 0
abbrev rm_X8_plan : Room := { frames := 5, cells := 0, slots := 0, locals := 117 }
theorem pl_X8_plan : pPlain yX8_plan 0 := by decide +kernel
set_option maxRecDepth 100000 in
set_option maxHeartbeats 4000000 in
theorem ok_k_X8_plan (l : Launch) : ∀ (i : Nat) (en : pEn), k_X8_plan[i]? = some en → EOK l cX8_plan yX8_plan.cls 1 ((some FieldType.int)) rm_X8_plan 0 pc_X8_plan i en := by
  refine allOK_at ?_
  refine And.intro (okAload_n dX8_plan_0 rfl rfl) ?_
  refine And.intro (okGet (C := RX8) (T := TX8) (N := 10) dX8_plan_1 rfl rfl (by decide) inX8 wm_2_39) ?_
  refine And.intro (okAload_n dX8_plan_4 rfl rfl) ?_
  refine And.intro (okGet (C := RX8) (T := TX8) (N := 10) dX8_plan_5 rfl rfl (by decide) inX8 wm_2_37) ?_
  refine And.intro (okAload_n dX8_plan_8 rfl rfl) ?_
  refine And.intro (okGet (C := RX8) (T := TX8) (N := 10) dX8_plan_9 rfl rfl (by decide) inX8 wm_2_38) ?_
  refine And.intro (okCallV (y := yX6_read) (T := TX6) (oCallZ_is _ _ _) dX8_plan_12 rfl (ok_F_X6_read l) rc_F_X6_read rfl wm_2_160 wm_2_161 wm_2_162 wm_1_9 wm_2_163 pl_X6_read (by decide)) ?_
  refine And.intro (okAload_n dX8_plan_15 rfl rfl) ?_
  refine And.intro (okGet (C := RX8) (T := TX8) (N := 10) dX8_plan_16 rfl rfl (by decide) inX8 wm_2_39) ?_
  refine And.intro (okGet (C := RX6) (T := TX6) (N := 4) dX8_plan_19 rfl rfl (by decide) inX6 wm_2_19) ?_
  refine And.intro (okIfeq dX8_plan_22 rfl (by rfl)) ?_
  refine And.intro (okAload_n dX8_plan_25 rfl rfl) ?_
  refine And.intro (okAload_n dX8_plan_26 rfl rfl) ?_
  refine And.intro (okGet (C := RX8) (T := TX8) (N := 10) dX8_plan_27 rfl rfl (by decide) inX8 wm_2_39) ?_
  refine And.intro (okGet (C := RX6) (T := TX6) (N := 4) dX8_plan_30 rfl rfl (by decide) inX6 wm_2_19) ?_
  refine And.intro (okPut (C := RX8) (T := TX8) (N := 10) dX8_plan_33 rfl rfl (by decide) inX8 tyX8_ok nmX8 rfl rfl wm_2_40) ?_
  refine And.intro (okAload_n dX8_plan_36 rfl rfl) ?_
  refine And.intro (okAload_n dX8_plan_37 rfl rfl) ?_
  refine And.intro (okGet (C := RX8) (T := TX8) (N := 10) dX8_plan_38 rfl rfl (by decide) inX8 wm_2_39) ?_
  refine And.intro (okGet (C := RX6) (T := TX6) (N := 4) dX8_plan_41 rfl rfl (by decide) inX6 wm_2_21) ?_
  refine And.intro (okPut (C := RX8) (T := TX8) (N := 10) dX8_plan_44 rfl rfl (by decide) inX8 tyX8_ok nmX8 rfl rfl wm_2_41) ?_
  refine And.intro (okBipush dX8_plan_47 rfl (by first | rfl | decide)) ?_
  refine And.intro (okIret dX8_plan_49 rfl) ?_
  refine And.intro (okAload_n dX8_plan_50 rfl rfl) ?_
  refine And.intro (okGet (C := RX8) (T := TX8) (N := 10) dX8_plan_51 rfl rfl (by decide) inX8 wm_2_34) ?_
  refine And.intro (okAload_n dX8_plan_54 rfl rfl) ?_
  refine And.intro (okGet (C := RX8) (T := TX8) (N := 10) dX8_plan_55 rfl rfl (by decide) inX8 wm_2_32) ?_
  refine And.intro (okCallV (y := yX3_remember) (T := TX3) (oCallZ_is _ _ _) dX8_plan_58 rfl (ok_F_X3_remember l) rc_F_X3_remember rfl wm_2_67 wm_2_68 wm_2_69 wm_1_7 wm_2_70 pl_X3_remember (by decide)) ?_
  refine And.intro (okAload_n dX8_plan_61 rfl rfl) ?_
  refine And.intro (okGet (C := RX8) (T := TX8) (N := 10) dX8_plan_62 rfl rfl (by decide) inX8 wm_2_32) ?_
  refine And.intro (okGet (C := RX5) (T := TX5) (N := 15) dX8_plan_65 rfl rfl (by decide) inX5 wm_1_177) ?_
  refine And.intro (okAload_n dX8_plan_68 rfl rfl) ?_
  refine And.intro (okGet (C := RX8) (T := TX8) (N := 10) dX8_plan_69 rfl rfl (by decide) inX8 wm_2_39) ?_
  refine And.intro (okGet (C := RX6) (T := TX6) (N := 4) dX8_plan_72 rfl rfl (by decide) inX6 wm_2_17) ?_
  refine And.intro (okCallV (y := yX7_copyFrom) (T := TX7) (oCallZ_is _ _ _) dX8_plan_75 rfl (ok_F_X7_copyFrom l) rc_F_X7_copyFrom rfl wm_2_204 wm_2_90 wm_2_91 wm_1_6 wm_2_92 pl_X7_copyFrom (by decide)) ?_
  refine And.intro (okAload_n dX8_plan_78 rfl rfl) ?_
  refine And.intro (okGet (C := RX8) (T := TX8) (N := 10) dX8_plan_79 rfl rfl (by decide) inX8 wm_2_32) ?_
  refine And.intro (okGet (C := RX5) (T := TX5) (N := 15) dX8_plan_82 rfl rfl (by decide) inX5 wm_1_177) ?_
  refine And.intro (okGet (C := RX7) (T := TX7) (N := 4) dX8_plan_85 rfl rfl (by decide) inX7 wm_1_120) ?_
  refine And.intro (okIret dX8_plan_88 rfl) ?_
  exact trivial
def plX (x : pLV) : pLV := xOf x (qRd (rOf x) (x 0 0))
def plR (x v : pLV) : Int32 := if plX x 0 7 = 0 then plX x 0 10 else -2
def plXX (x : pLV) : pLV := if plX x 0 7 = 0 then xRem (plX x) else vS (vS (plX x) 1 (plX x 0 7)) 2 (plX x 0 8)
def plS' (v y : pLV) : pLV := mkL [v 0 0, v 0 1, v 0 2, v 0 3, v 0 4, v 0 5, v 0 6, 0, 0, 0, v 0 10, v 0 11, v 0 12, v 0 13, v 0 14, v 0 15, v 0 16, v 0 17, v 0 18, v 0 19, v 0 20, v 0 21, v 0 22, v 0 23, v 0 24, v 0 25, v 0 26, v 0 27, v 0 28, y 0 10, v 0 30, v 0 31, v 0 32, v 0 33] (v 1) (v 2) (v 3) (y 2) (y 3) (y 4)
set_option maxHeartbeats 4000000 in
set_option maxRecDepth 100000 in
theorem cc_sched (f : Nat → Option Nat) (x v u : pLV) (rg : pRg) : F_X7_copyFrom [.ref 10, .ref 35] (cw f x v u) rg = some (none, cw f x (plS' v x) u, rg) := rfl
def plV (x v : pLV) : pLV := if plX x 0 7 = 0 then plS' v (plX x) else v
def plH (x v : pLV) (h : Nat → pLV) : Nat → pLV := if plX x 0 7 = 0 then hRem (plX x) v h else h
def F_X8_plan : pF := fun args w rg => match args with
  | [.ref 0] => unB w (fun f x v u => pif (bOK f rg ∧ (∃ n : Nat, x 0 0 = nI n ∧ n ≤ 120)) (some (some (.int (plR x v)), cw f (plXX x) (plV x v) (u), (rg.1, plH x v rg.2))) none)
  | _ => none
set_option maxHeartbeats 400000 in
set_option maxRecDepth 100000 in
theorem run_X8_plan (rg : pRg) (f : Nat → Option Nat) (x v u : pLV)  (hc : bOK f rg ∧ (∃ n : Nat, x 0 0 = nI n ∧ n ≤ 120)) : ∃ fu, ex k_X8_plan fu 0 [(0, .ref 0)] [] (cw f x v u) rg = some (some (.int (plR x v)), cw f (plXX x) (plV x v) (u), (rg.1, plH x v rg.2)) := by
  refine ⟨60, ?_⟩
  obtain ⟨hb, hn⟩ := hc
  conv => lhs; whnf
  refine (callK_v (cc_read f x v u (x 0 0) rg hn) (by rfl)).trans ?_
  unfold plR plXX plV plH plX
  generalize xOf x (qRd (rOf x) (x 0 0)) = y
  revert y; refine id ?_; intro y
  by_cases h : y 0 7 = 0
  · rw [if_pos h, if_pos h, if_pos h, if_pos h]
    conv => lhs; whnf
    refine (pif_t h).trans ?_
    conv => lhs; whnf
    refine (callK_v (cl_X3_remember f y v u rg hb) (by rfl)).trans ?_
    conv => lhs; whnf
    refine (callK_v (cc_sched f (xRem y) v u (rg.1, hRem y v rg.2)) (by rfl)).trans ?_
    rfl
  · rw [if_neg h, if_neg h, if_neg h, if_neg h]
    conv => lhs; whnf
    refine (pif_f h).trans ?_
    rfl
theorem ok_F_X8_plan (l : Launch) : pFOK l yX8_plan (pWs yX8_plan cX8_plan 1 ((some FieldType.int))) rm_X8_plan F_X8_plan := by
  refine pFOK_all fun args w rg v0 w' rg' h => ?_
  unfold F_X8_plan at h
  split at h
  next  =>
    obtain ⟨f, x, v, u, hw, h2⟩ := unB_some h
    clear h
    subst hw
    by_cases hc : bOK f rg ∧ (∃ n : Nat, x 0 0 = nI n ∧ n ≤ 120)
    · have h2 := (pif_t hc).symm.trans h2
      cases h2
      exact met_of_ex (by decide) (ok_k_X8_plan l) rfl (run_X8_plan rg f x v u  hc) (Nat.le_of_ble_eq_true rfl) rfl (Nat.le_of_ble_eq_true rfl) (Nat.le_of_ble_eq_true rfl) (Nat.zero_le _) rfl rfl
    · have h2 := (pif_f hc).symm.trans h2
      cases h2
  next => cases h
theorem rc_F_X8_plan : pRcv 8 F_X8_plan := by
  intro as w rg o h
  obtain ⟨v0, w', rg'⟩ := o
  unfold F_X8_plan at h
  split at h
  next =>
    obtain ⟨f, x, v, u, rfl, -⟩ := unB_some h
    exact ⟨_, _, _, rfl, cellOf_get rfl⟩
  next => cases h
theorem cl_X8_plan (f : Nat → Option Nat) (x v u : pLV)  (rg : pRg) (hc : bOK f rg ∧ (∃ n : Nat, (NX x) 0 0 = nI n ∧ n ≤ 120)) : F_X8_plan [.ref 0] (cw f x v u) rg = some (some (.int (plR (NX x) (NL v))), cw f (plXX (NX x)) (plV (NX x) (NL v)) ((NL u)), (rg.1, plH (NX x) (NL v) rg.2)) := pif_t hc
end
