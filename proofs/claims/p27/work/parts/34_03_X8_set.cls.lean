noncomputable section
theorem in_of {x y : Int32} {n : Nat} (hy : y.toInt = n) (h0 : ¬ x < 0) (h1 : ¬ y ≤ x) : ¬ (x < 0 ∨ n ≤ x.toNatClampNeg) := by
  rintro (q | q)
  · exact h0 q
  · have h2 := Int32.lt_iff_toInt_lt.mp (Int32.not_le.mp h1)
    have h3 : x.toNatClampNeg = x.toInt.toNat := rfl
    have h4 := Int32.le_iff_toInt_le.mp (Int32.not_lt.mp h0)
    rw [Int32.toInt_zero] at h4
    omega
def lstV (s : Int32) : Int32 := ([0, 0, 0, 0, 1, 0, 0, 0, 0] : List Int32).getD s.toNatClampNeg 0
def mstV (s : Int32) : Int32 := ([200, 5000, 2000, 1000, 100, 8, 50, 2000, 20] : List Int32).getD s.toNatClampNeg 0
theorem dX8_set_0 : decode cX8_set 0 = .ok (.iload_n 1, 1) := by decide +kernel
theorem dX8_set_1 : decode cX8_set 1 = .ok (.ifCond .lt 9, 3) := by decide +kernel
theorem dX8_set_4 : decode cX8_set 4 = .ok (.iload_n 1, 1) := by decide +kernel
theorem dX8_set_5 : decode cX8_set 5 = .ok (.bipush 9, 2) := by decide +kernel
theorem dX8_set_7 : decode cX8_set 7 = .ok (.if_icmp .lt 5, 3) := by decide +kernel
theorem dX8_set_10 : decode cX8_set 10 = .ok (.iconst (-1), 1) := by decide +kernel
theorem dX8_set_11 : decode cX8_set 11 = .ok (.ireturn, 1) := by decide +kernel
theorem dX8_set_12 : decode cX8_set 12 = .ok (.iload_n 2, 1) := by decide +kernel
theorem dX8_set_13 : decode cX8_set 13 = .ok (.getstatic 67, 3) := by decide +kernel
theorem dX8_set_16 : decode cX8_set 16 = .ok (.iload_n 1, 1) := by decide +kernel
theorem dX8_set_17 : decode cX8_set 17 = .ok (.iaload, 1) := by decide +kernel
theorem dX8_set_18 : decode cX8_set 18 = .ok (.if_icmp .lt 12, 3) := by decide +kernel
theorem dX8_set_21 : decode cX8_set 21 = .ok (.iload_n 2, 1) := by decide +kernel
theorem dX8_set_22 : decode cX8_set 22 = .ok (.getstatic 70, 3) := by decide +kernel
theorem dX8_set_25 : decode cX8_set 25 = .ok (.iload_n 1, 1) := by decide +kernel
theorem dX8_set_26 : decode cX8_set 26 = .ok (.iaload, 1) := by decide +kernel
theorem dX8_set_27 : decode cX8_set 27 = .ok (.if_icmp .le 5, 3) := by decide +kernel
theorem dX8_set_30 : decode cX8_set 30 = .ok (.iconst (-1), 1) := by decide +kernel
theorem dX8_set_31 : decode cX8_set 31 = .ok (.ireturn, 1) := by decide +kernel
theorem dX8_set_32 : decode cX8_set 32 = .ok (.aload_n 0, 1) := by decide +kernel
theorem dX8_set_33 : decode cX8_set 33 = .ok (.getfield 22, 3) := by decide +kernel
theorem dX8_set_36 : decode cX8_set 36 = .ok (.aload_n 0, 1) := by decide +kernel
theorem dX8_set_37 : decode cX8_set 37 = .ok (.getfield 10, 3) := by decide +kernel
theorem dX8_set_40 : decode cX8_set 40 = .ok (.invokevirtual 57, 3) := by decide +kernel
theorem dX8_set_43 : decode cX8_set 43 = .ok (.aload_n 0, 1) := by decide +kernel
theorem dX8_set_44 : decode cX8_set 44 = .ok (.getfield 10, 3) := by decide +kernel
theorem dX8_set_47 : decode cX8_set 47 = .ok (.getfield 73, 3) := by decide +kernel
theorem dX8_set_50 : decode cX8_set 50 = .ok (.iload_n 1, 1) := by decide +kernel
theorem dX8_set_51 : decode cX8_set 51 = .ok (.iaload, 1) := by decide +kernel
theorem dX8_set_52 : decode cX8_set 52 = .ok (.istore_n 3, 1) := by decide +kernel
theorem dX8_set_53 : decode cX8_set 53 = .ok (.aload_n 0, 1) := by decide +kernel
theorem dX8_set_54 : decode cX8_set 54 = .ok (.getfield 10, 3) := by decide +kernel
theorem dX8_set_57 : decode cX8_set 57 = .ok (.getfield 73, 3) := by decide +kernel
theorem dX8_set_60 : decode cX8_set 60 = .ok (.iload_n 1, 1) := by decide +kernel
theorem dX8_set_61 : decode cX8_set 61 = .ok (.iload_n 2, 1) := by decide +kernel
theorem dX8_set_62 : decode cX8_set 62 = .ok (.iastore, 1) := by decide +kernel
theorem dX8_set_63 : decode cX8_set 63 = .ok (.iload_n 3, 1) := by decide +kernel
theorem dX8_set_64 : decode cX8_set 64 = .ok (.ireturn, 1) := by decide +kernel
def k_X8_set : List pEn := [oIload 1, oIflt 5, oIload 1, oConst (9), oClt 7, oConst (-1), oIret, oIload 2, oGets 1000001, oIload 1, oIald, oClt 17, oIload 2, oGets 1000002, oIload 1, oIald, oCle 19, oConst (-1), oIret, oAload 0, oGet 8 2, oAload 0, oGet 8 0, oCallZ 2 F_X3_remember, oAload 0, oGet 8 0, oGet 5 14, oIload 1, oIald, oIstore 3, oAload 0, oGet 8 0, oGet 5 14, oIload 1, oIload 2, oIast, oIload 3, oIret]
def pc_X8_set (i : Nat) : Nat := ([0, 1, 4, 5, 7, 10, 11, 12, 13, 16, 17, 18, 21, 22, 25, 26, 27, 30, 31, 32, 33, 36, 37, 40, 43, 44, 47, 50, 51, 52, 53, 54, 57, 60, 61, 62, 63, 64] : List Nat).getD i 0
abbrev rm_X8_set : Room := { frames := 4, cells := 0, slots := 0, locals := 86 }
theorem pl_X8_set : pPlain yX8_set 2 := by decide +kernel
set_option maxRecDepth 100000 in
set_option maxHeartbeats 4000000 in
theorem ok_k_X8_set (l : Launch) : ∀ (i : Nat) (en : pEn), k_X8_set[i]? = some en → EOK l cX8_set yX8_set.cls 4 ((some FieldType.int)) rm_X8_set 0 pc_X8_set i en := by
  refine allOK_at ?_
  refine And.intro (okIload_n dX8_set_0 rfl rfl) ?_
  refine And.intro (okIflt dX8_set_1 rfl (by rfl)) ?_
  refine And.intro (okIload_n dX8_set_4 rfl rfl) ?_
  refine And.intro (okBipush dX8_set_5 rfl (by first | rfl | decide)) ?_
  refine And.intro (okClt dX8_set_7 rfl (by rfl)) ?_
  refine And.intro (okIconst dX8_set_10 rfl (by first | rfl | decide)) ?_
  refine And.intro (okIret dX8_set_11 rfl) ?_
  refine And.intro (okIload_n dX8_set_12 rfl rfl) ?_
  refine And.intro (okGets (n := "LEAST_VALUE") dX8_set_13 rfl (by decide) wm_2_102) ?_
  refine And.intro (okIload_n dX8_set_16 rfl rfl) ?_
  refine And.intro (okIald dX8_set_17 rfl) ?_
  refine And.intro (okClt dX8_set_18 rfl (by rfl)) ?_
  refine And.intro (okIload_n dX8_set_21 rfl rfl) ?_
  refine And.intro (okGets (n := "MOST_VALUE") dX8_set_22 rfl (by decide) wm_2_104) ?_
  refine And.intro (okIload_n dX8_set_25 rfl rfl) ?_
  refine And.intro (okIald dX8_set_26 rfl) ?_
  refine And.intro (okCle dX8_set_27 rfl (by rfl)) ?_
  refine And.intro (okIconst dX8_set_30 rfl (by first | rfl | decide)) ?_
  refine And.intro (okIret dX8_set_31 rfl) ?_
  refine And.intro (okAload_n dX8_set_32 rfl rfl) ?_
  refine And.intro (okGet (C := RX8) (T := TX8) (N := 10) dX8_set_33 rfl rfl (by decide) inX8 wm_2_34) ?_
  refine And.intro (okAload_n dX8_set_36 rfl rfl) ?_
  refine And.intro (okGet (C := RX8) (T := TX8) (N := 10) dX8_set_37 rfl rfl (by decide) inX8 wm_2_32) ?_
  refine And.intro (okCallV (y := yX3_remember) (T := TX3) (oCallZ_is _ _ _) dX8_set_40 rfl (ok_F_X3_remember l) rc_F_X3_remember rfl wm_2_67 wm_2_68 wm_2_69 wm_1_7 wm_2_70 pl_X3_remember (by decide)) ?_
  refine And.intro (okAload_n dX8_set_43 rfl rfl) ?_
  refine And.intro (okGet (C := RX8) (T := TX8) (N := 10) dX8_set_44 rfl rfl (by decide) inX8 wm_2_32) ?_
  refine And.intro (okGet (C := RX5) (T := TX5) (N := 15) dX8_set_47 rfl rfl (by decide) inX5 wm_1_179) ?_
  refine And.intro (okIload_n dX8_set_50 rfl rfl) ?_
  refine And.intro (okIald dX8_set_51 rfl) ?_
  refine And.intro (okIstore_n dX8_set_52 rfl rfl (by decide)) ?_
  refine And.intro (okAload_n dX8_set_53 rfl rfl) ?_
  refine And.intro (okGet (C := RX8) (T := TX8) (N := 10) dX8_set_54 rfl rfl (by decide) inX8 wm_2_32) ?_
  refine And.intro (okGet (C := RX5) (T := TX5) (N := 15) dX8_set_57 rfl rfl (by decide) inX5 wm_1_179) ?_
  refine And.intro (okIload_n dX8_set_60 rfl rfl) ?_
  refine And.intro (okIload_n dX8_set_61 rfl rfl) ?_
  refine And.intro (okIast dX8_set_62 rfl) ?_
  refine And.intro (okIload_n dX8_set_63 rfl rfl) ?_
  refine And.intro (okIret dX8_set_64 rfl) ?_
  exact trivial
def cset_B (x v : pLV) (s : Int32) (a : Int32) : Int32 := if s < 0 then -1 else if 9 ≤ s then -1 else if a < lstV s then -1 else if mstV s < a then -1 else 0
def cset_R (x v u : pLV) (h : Nat → pLV) (s : Int32) (a : Int32) : Int32 := if cset_B x v s a = 0 then v 1 s.toNatClampNeg else cset_B x v s a
def cset_X (x v u : pLV) (h : Nat → pLV) (s : Int32) (a : Int32) : pLV := if cset_B x v s a = 0 then xRem x else x
def cset_V (x v u : pLV) (h : Nat → pLV) (s : Int32) (a : Int32) : pLV := if cset_B x v s a = 0 then vA v 1 (upd (v 1) s.toNatClampNeg a) else v
def cset_H (x v u : pLV) (h : Nat → pLV) (s : Int32) (a : Int32) : Nat → pLV := if cset_B x v s a = 0 then hRem x v h else h
def F_X8_set : pF := fun args w rg => match args with
  | [.ref 0, .int s, .int a] => unB w (fun f x v u => pif (bOK f rg) (some (some (.int (cset_R x v u rg.2 s a)), cw f (cset_X x v u rg.2 s a) (cset_V x v u rg.2 s a) (u), (rg.1, cset_H x v u rg.2 s a))) none)
  | _ => none
set_option maxHeartbeats 400000 in
set_option maxRecDepth 100000 in
theorem run_X8_set (rg : pRg) (f : Nat → Option Nat) (x v u : pLV) (s : Int32) (a : Int32) (hc : bOK f rg) : ∃ fu, ex k_X8_set fu 0 [(0, .ref 0), (1, .int s), (2, .int a)] [] (cw f x v u) rg = some (some (.int (cset_R x v u rg.2 s a)), cw f (cset_X x v u rg.2 s a) (cset_V x v u rg.2 s a) (u), (rg.1, cset_H x v u rg.2 s a)) := by
  refine ⟨60, ?_⟩
  conv => lhs; whnf
  refine pif_c (fun p0 => ?_) (fun n0 => ?_)
  · have hB : cset_B x v s a = -1 := if_pos p0
    have hN : ¬ cset_B x v s a = 0 := by rw [hB]; decide
    rw [show cset_R x v u rg.2 s a = -1 from (if_neg hN).trans hB, show cset_X x v u rg.2 s a = _ from if_neg hN, show cset_V x v u rg.2 s a = _ from if_neg hN, show cset_H x v u rg.2 s a = _ from if_neg hN]
    rfl
  · conv => lhs; whnf
    refine pif_c (fun q1 => ?_) (fun q1 => ?_)
    · have n1 := Int32.not_le.mpr q1
      conv => lhs; whnf
      refine (pif_f (in_of (y := 9) (n := 9) rfl n0 n1)).trans ?_
      conv => lhs; whnf
      refine pif_c (fun p2 => ?_) (fun n2 => ?_)
      · have hB : cset_B x v s a = -1 := (if_neg n0).trans ((if_neg n1).trans (if_pos p2))
        have hN : ¬ cset_B x v s a = 0 := by rw [hB]; decide
        rw [show cset_R x v u rg.2 s a = -1 from (if_neg hN).trans hB, show cset_X x v u rg.2 s a = _ from if_neg hN, show cset_V x v u rg.2 s a = _ from if_neg hN, show cset_H x v u rg.2 s a = _ from if_neg hN]
        rfl
      · conv => lhs; whnf
        refine (pif_f (in_of (y := 9) (n := 9) rfl n0 n1)).trans ?_
        conv => lhs; whnf
        refine pif_c (fun q3 => ?_) (fun q3 => ?_)
        · have n3 := Int32.not_lt.mpr q3
          have hB : cset_B x v s a = 0 := (if_neg n0).trans ((if_neg n1).trans ((if_neg n2).trans ((if_neg n3).trans (rfl))))
          rw [show cset_R x v u rg.2 s a = _ from if_pos hB, show cset_X x v u rg.2 s a = _ from if_pos hB, show cset_V x v u rg.2 s a = _ from if_pos hB, show cset_H x v u rg.2 s a = _ from if_pos hB]
          conv => lhs; whnf
          refine (callK_v (cl_X3_remember f x v u rg hc) (by rfl)).trans ?_
          conv => lhs; whnf
          refine (pif_f (in_of (y := 9) (n := 9) rfl n0 n1)).trans ?_
          conv => lhs; whnf
          refine (pif_f (in_of (y := 9) (n := 9) rfl n0 n1)).trans ?_
          rfl
        · have p3 := Int32.not_le.mp q3
          have hB : cset_B x v s a = -1 := (if_neg n0).trans ((if_neg n1).trans ((if_neg n2).trans (if_pos p3)))
          have hN : ¬ cset_B x v s a = 0 := by rw [hB]; decide
          rw [show cset_R x v u rg.2 s a = -1 from (if_neg hN).trans hB, show cset_X x v u rg.2 s a = _ from if_neg hN, show cset_V x v u rg.2 s a = _ from if_neg hN, show cset_H x v u rg.2 s a = _ from if_neg hN]
          rfl
    · have p1 := Int32.not_lt.mp q1
      have hB : cset_B x v s a = -1 := (if_neg n0).trans (if_pos p1)
      have hN : ¬ cset_B x v s a = 0 := by rw [hB]; decide
      rw [show cset_R x v u rg.2 s a = -1 from (if_neg hN).trans hB, show cset_X x v u rg.2 s a = _ from if_neg hN, show cset_V x v u rg.2 s a = _ from if_neg hN, show cset_H x v u rg.2 s a = _ from if_neg hN]
      rfl
theorem ok_F_X8_set (l : Launch) : pFOK l yX8_set (pWs yX8_set cX8_set 4 ((some FieldType.int))) rm_X8_set F_X8_set := by
  refine pFOK_all fun args w rg v0 w' rg' h => ?_
  unfold F_X8_set at h
  split at h
  next s a =>
    obtain ⟨f, x, v, u, hw, h2⟩ := unB_some h
    clear h
    subst hw
    by_cases hc : bOK f rg
    · have h2 := (pif_t hc).symm.trans h2
      cases h2
      exact met_of_ex (by decide) (ok_k_X8_set l) rfl (run_X8_set rg f x v u s a hc) (Nat.le_of_ble_eq_true rfl) rfl (Nat.le_of_ble_eq_true rfl) (Nat.le_of_ble_eq_true rfl) (Nat.zero_le _) rfl rfl
    · have h2 := (pif_f hc).symm.trans h2
      cases h2
  next => cases h
theorem rc_F_X8_set : pRcv 8 F_X8_set := by
  intro as w rg o h
  obtain ⟨v0, w', rg'⟩ := o
  unfold F_X8_set at h
  split at h
  next =>
    obtain ⟨f, x, v, u, rfl, -⟩ := unB_some h
    exact ⟨_, _, _, rfl, cellOf_get rfl⟩
  next => cases h
theorem cl_X8_set (f : Nat → Option Nat) (x v u : pLV) (s : Int32) (a : Int32) (rg : pRg) (hc : bOK f rg) : F_X8_set [.ref 0, .int s, .int a] (cw f x v u) rg = some (some (.int (cset_R (NX x) (NL v) (NL u) rg.2 s a)), cw f (cset_X (NX x) (NL v) (NL u) rg.2 s a) (cset_V (NX x) (NL v) (NL u) rg.2 s a) ((NL u)), (rg.1, cset_H (NX x) (NL v) (NL u) rg.2 s a)) := pif_t hc
end
