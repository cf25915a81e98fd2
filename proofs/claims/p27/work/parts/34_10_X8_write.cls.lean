noncomputable section
theorem dX8_write_0 : decode cX8_write 0 = .ok (.iload_n 1, 1) := by decide +kernel
theorem dX8_write_1 : decode cX8_write 1 = .ok (.bipush 32, 2) := by decide +kernel
theorem dX8_write_3 : decode cX8_write 3 = .ok (.if_icmp .lt 9, 3) := by decide +kernel
theorem dX8_write_6 : decode cX8_write 6 = .ok (.iload_n 1, 1) := by decide +kernel
theorem dX8_write_7 : decode cX8_write 7 = .ok (.bipush 126, 2) := by decide +kernel
theorem dX8_write_9 : decode cX8_write 9 = .ok (.if_icmp .le 5, 3) := by decide +kernel
theorem dX8_write_12 : decode cX8_write 12 = .ok (.iconst (-1), 1) := by decide +kernel
theorem dX8_write_13 : decode cX8_write 13 = .ok (.ireturn, 1) := by decide +kernel
theorem dX8_write_14 : decode cX8_write 14 = .ok (.aload_n 0, 1) := by decide +kernel
theorem dX8_write_15 : decode cX8_write 15 = .ok (.getfield 40, 3) := by decide +kernel
theorem dX8_write_18 : decode cX8_write 18 = .ok (.ifCond .lt 12, 3) := by decide +kernel
theorem dX8_write_21 : decode cX8_write 21 = .ok (.aload_n 0, 1) := by decide +kernel
theorem dX8_write_22 : decode cX8_write 22 = .ok (.getfield 40, 3) := by decide +kernel
theorem dX8_write_25 : decode cX8_write 25 = .ok (.bipush 120, 2) := by decide +kernel
theorem dX8_write_27 : decode cX8_write 27 = .ok (.if_icmp .lt 6, 3) := by decide +kernel
theorem dX8_write_30 : decode cX8_write 30 = .ok (.bipush (-3), 2) := by decide +kernel
theorem dX8_write_32 : decode cX8_write 32 = .ok (.ireturn, 1) := by decide +kernel
theorem dX8_write_33 : decode cX8_write 33 = .ok (.aload_n 0, 1) := by decide +kernel
theorem dX8_write_34 : decode cX8_write 34 = .ok (.getfield 36, 3) := by decide +kernel
theorem dX8_write_37 : decode cX8_write 37 = .ok (.aload_n 0, 1) := by decide +kernel
theorem dX8_write_38 : decode cX8_write 38 = .ok (.getfield 40, 3) := by decide +kernel
theorem dX8_write_41 : decode cX8_write 41 = .ok (.iload_n 1, 1) := by decide +kernel
theorem dX8_write_42 : decode cX8_write 42 = .ok (.iastore, 1) := by decide +kernel
theorem dX8_write_43 : decode cX8_write 43 = .ok (.aload_n 0, 1) := by decide +kernel
theorem dX8_write_44 : decode cX8_write 44 = .ok (.dup, 1) := by decide +kernel
theorem dX8_write_45 : decode cX8_write 45 = .ok (.getfield 40, 3) := by decide +kernel
theorem dX8_write_48 : decode cX8_write 48 = .ok (.iconst 1, 1) := by decide +kernel
theorem dX8_write_49 : decode cX8_write 49 = .ok (.iadd, 1) := by decide +kernel
theorem dX8_write_50 : decode cX8_write 50 = .ok (.putfield 40, 3) := by decide +kernel
theorem dX8_write_53 : decode cX8_write 53 = .ok (.aload_n 0, 1) := by decide +kernel
theorem dX8_write_54 : decode cX8_write 54 = .ok (.getfield 40, 3) := by decide +kernel
theorem dX8_write_57 : decode cX8_write 57 = .ok (.ireturn, 1) := by decide +kernel
def k_X8_write : List pEn := [oIload 1, oConst (32), oClt 6, oIload 1, oConst (126), oCle 8, oConst (-1), oIret, oAload 0, oGet 8 6, oIflt 15, oAload 0, oGet 8 6, oConst (120), oClt 17, oConst (-3), oIret, oAload 0, oGet 8 5, oAload 0, oGet 8 6, oIload 1, oIast, oAload 0, oDup, oGet 8 6, oConst (1), oAdd, oPut 8 6, oAload 0, oGet 8 6, oIret]
def pc_X8_write (i : Nat) : Nat := ([0, 1, 3, 6, 7, 9, 12, 13, 14, 15, 18, 21, 22, 25, 27, 30, 32, 33, 34, 37, 38, 41, 42, 43, 44, 45, 48, 49, 50, 53, 54, 57] : List Nat).getD i 0
abbrev rm_X8_write : Room := { frames := 0, cells := 0, slots := 0, locals := 0 }
theorem pl_X8_write : pPlain yX8_write 1 := by decide +kernel
set_option maxRecDepth 100000 in
set_option maxHeartbeats 4000000 in
theorem ok_k_X8_write (l : Launch) : ∀ (i : Nat) (en : pEn), k_X8_write[i]? = some en → EOK l cX8_write yX8_write.cls 2 ((some FieldType.int)) rm_X8_write 0 pc_X8_write i en := by
  refine allOK_at ?_
  refine And.intro (okIload_n dX8_write_0 rfl rfl) ?_
  refine And.intro (okBipush dX8_write_1 rfl (by first | rfl | decide)) ?_
  refine And.intro (okClt dX8_write_3 rfl (by rfl)) ?_
  refine And.intro (okIload_n dX8_write_6 rfl rfl) ?_
  refine And.intro (okBipush dX8_write_7 rfl (by first | rfl | decide)) ?_
  refine And.intro (okCle dX8_write_9 rfl (by rfl)) ?_
  refine And.intro (okIconst dX8_write_12 rfl (by first | rfl | decide)) ?_
  refine And.intro (okIret dX8_write_13 rfl) ?_
  refine And.intro (okAload_n dX8_write_14 rfl rfl) ?_
  refine And.intro (okGet (C := RX8) (T := TX8) (N := 10) dX8_write_15 rfl rfl (by decide) inX8 wm_2_38) ?_
  refine And.intro (okIflt dX8_write_18 rfl (by rfl)) ?_
  refine And.intro (okAload_n dX8_write_21 rfl rfl) ?_
  refine And.intro (okGet (C := RX8) (T := TX8) (N := 10) dX8_write_22 rfl rfl (by decide) inX8 wm_2_38) ?_
  refine And.intro (okBipush dX8_write_25 rfl (by first | rfl | decide)) ?_
  refine And.intro (okClt dX8_write_27 rfl (by rfl)) ?_
  refine And.intro (okBipush dX8_write_30 rfl (by first | rfl | decide)) ?_
  refine And.intro (okIret dX8_write_32 rfl) ?_
  refine And.intro (okAload_n dX8_write_33 rfl rfl) ?_
  refine And.intro (okGet (C := RX8) (T := TX8) (N := 10) dX8_write_34 rfl rfl (by decide) inX8 wm_2_37) ?_
  refine And.intro (okAload_n dX8_write_37 rfl rfl) ?_
  refine And.intro (okGet (C := RX8) (T := TX8) (N := 10) dX8_write_38 rfl rfl (by decide) inX8 wm_2_38) ?_
  refine And.intro (okIload_n dX8_write_41 rfl rfl) ?_
  refine And.intro (okIast dX8_write_42 rfl) ?_
  refine And.intro (okAload_n dX8_write_43 rfl rfl) ?_
  refine And.intro (okDup dX8_write_44 rfl) ?_
  refine And.intro (okGet (C := RX8) (T := TX8) (N := 10) dX8_write_45 rfl rfl (by decide) inX8 wm_2_38) ?_
  refine And.intro (okIconst dX8_write_48 rfl (by first | rfl | decide)) ?_
  refine And.intro (okAdd dX8_write_49 rfl) ?_
  refine And.intro (okPut (C := RX8) (T := TX8) (N := 10) dX8_write_50 rfl rfl (by decide) inX8 tyX8_ok nmX8 rfl rfl wm_2_38) ?_
  refine And.intro (okAload_n dX8_write_53 rfl rfl) ?_
  refine And.intro (okGet (C := RX8) (T := TX8) (N := 10) dX8_write_54 rfl rfl (by decide) inX8 wm_2_38) ?_
  refine And.intro (okIret dX8_write_57 rfl) ?_
  exact trivial
def cwrite_B (x v : pLV) (c : Int32) : Int32 := if c < 32 then -1 else if 126 < c then -1 else if x 0 0 < 0 then -3 else if 120 ≤ x 0 0 then -3 else 0
def cwrite_R (x v u : pLV) (h : Nat → pLV) (c : Int32) : Int32 := if cwrite_B x v c = 0 then x 0 0 + 1 else cwrite_B x v c
def cwrite_X (x v u : pLV) (h : Nat → pLV) (c : Int32) : pLV := if cwrite_B x v c = 0 then vS (vA x 1 (upd (x 1) (x 0 0).toNatClampNeg c)) 0 (x 0 0 + 1) else x
def F_X8_write : pF := fun args w rg => match args with
  | [.ref 0, .int c] => unB w (fun f x v u => pif (bOK f rg) (some (some (.int (cwrite_R x v u rg.2 c)), cw f (cwrite_X x v u rg.2 c) (v) (u), rg)) none)
  | _ => none
set_option maxHeartbeats 400000 in
set_option maxRecDepth 100000 in
theorem run_X8_write (rg : pRg) (f : Nat → Option Nat) (x v u : pLV) (c : Int32) (hc : bOK f rg) : ∃ fu, ex k_X8_write fu 0 [(0, .ref 0), (1, .int c)] [] (cw f x v u) rg = some (some (.int (cwrite_R x v u rg.2 c)), cw f (cwrite_X x v u rg.2 c) (v) (u), rg) := by
  refine ⟨60, ?_⟩
  conv => lhs; whnf
  refine pif_c (fun p0 => ?_) (fun n0 => ?_)
  · have hB : cwrite_B x v c = -1 := if_pos p0
    have hN : ¬ cwrite_B x v c = 0 := by rw [hB]; decide
    rw [show cwrite_R x v u rg.2 c = -1 from (if_neg hN).trans hB, show cwrite_X x v u rg.2 c = _ from if_neg hN]
    rfl
  · conv => lhs; whnf
    refine pif_c (fun q1 => ?_) (fun q1 => ?_)
    · have n1 := Int32.not_lt.mpr q1
      conv => lhs; whnf
      refine pif_c (fun p2 => ?_) (fun n2 => ?_)
      · have hB : cwrite_B x v c = -3 := (if_neg n0).trans ((if_neg n1).trans (if_pos p2))
        have hN : ¬ cwrite_B x v c = 0 := by rw [hB]; decide
        rw [show cwrite_R x v u rg.2 c = -3 from (if_neg hN).trans hB, show cwrite_X x v u rg.2 c = _ from if_neg hN]
        rfl
      · conv => lhs; whnf
        refine pif_c (fun q3 => ?_) (fun q3 => ?_)
        · have n3 := Int32.not_le.mpr q3
          have hB : cwrite_B x v c = 0 := (if_neg n0).trans ((if_neg n1).trans ((if_neg n2).trans ((if_neg n3).trans (rfl))))
          rw [show cwrite_R x v u rg.2 c = _ from if_pos hB, show cwrite_X x v u rg.2 c = _ from if_pos hB]
          conv => lhs; whnf
          refine (pif_f (in_of (y := 120) (n := 120) rfl n2 n3)).trans ?_
          rfl
        · have p3 := Int32.not_lt.mp q3
          have hB : cwrite_B x v c = -3 := (if_neg n0).trans ((if_neg n1).trans ((if_neg n2).trans (if_pos p3)))
          have hN : ¬ cwrite_B x v c = 0 := by rw [hB]; decide
          rw [show cwrite_R x v u rg.2 c = -3 from (if_neg hN).trans hB, show cwrite_X x v u rg.2 c = _ from if_neg hN]
          rfl
    · have p1 := Int32.not_le.mp q1
      have hB : cwrite_B x v c = -1 := (if_neg n0).trans (if_pos p1)
      have hN : ¬ cwrite_B x v c = 0 := by rw [hB]; decide
      rw [show cwrite_R x v u rg.2 c = -1 from (if_neg hN).trans hB, show cwrite_X x v u rg.2 c = _ from if_neg hN]
      rfl
theorem ok_F_X8_write (l : Launch) : pFOK l yX8_write (pWs yX8_write cX8_write 2 ((some FieldType.int))) rm_X8_write F_X8_write := by
  refine pFOK_all fun args w rg v0 w' rg' h => ?_
  unfold F_X8_write at h
  split at h
  next c =>
    obtain ⟨f, x, v, u, hw, h2⟩ := unB_some h
    clear h
    subst hw
    by_cases hc : bOK f rg
    · have h2 := (pif_t hc).symm.trans h2
      cases h2
      exact met_of_ex (by decide) (ok_k_X8_write l) rfl (run_X8_write rg f x v u c hc) (Nat.le_of_ble_eq_true rfl) rfl (Nat.le_of_ble_eq_true rfl) (Nat.le_of_ble_eq_true rfl) (Nat.zero_le _) rfl rfl
    · have h2 := (pif_f hc).symm.trans h2
      cases h2
  next => cases h
theorem rc_F_X8_write : pRcv 8 F_X8_write := by
  intro as w rg o h
  obtain ⟨v0, w', rg'⟩ := o
  unfold F_X8_write at h
  split at h
  next =>
    obtain ⟨f, x, v, u, rfl, -⟩ := unB_some h
    exact ⟨_, _, _, rfl, cellOf_get rfl⟩
  next => cases h
theorem cl_X8_write (f : Nat → Option Nat) (x v u : pLV) (c : Int32) (rg : pRg) (hc : bOK f rg) : F_X8_write [.ref 0, .int c] (cw f x v u) rg = some (some (.int (cwrite_R (NX x) (NL v) (NL u) rg.2 c)), cw f (cwrite_X (NX x) (NL v) (NL u) rg.2 c) ((NL v)) ((NL u)), rg) := pif_t hc
end
