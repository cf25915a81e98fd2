noncomputable section
theorem dX8_entry_0 : decode cX8_entry 0 = .ok (.iload_n 1, 1) := by decide +kernel
theorem dX8_entry_1 : decode cX8_entry 1 = .ok (.ifCond .lt 23, 3) := by decide +kernel
theorem dX8_entry_4 : decode cX8_entry 4 = .ok (.iload_n 1, 1) := by decide +kernel
theorem dX8_entry_5 : decode cX8_entry 5 = .ok (.aload_n 0, 1) := by decide +kernel
theorem dX8_entry_6 : decode cX8_entry 6 = .ok (.getfield 10, 3) := by decide +kernel
theorem dX8_entry_9 : decode cX8_entry 9 = .ok (.getfield 129, 3) := by decide +kernel
theorem dX8_entry_12 : decode cX8_entry 12 = .ok (.getfield 142, 3) := by decide +kernel
theorem dX8_entry_15 : decode cX8_entry 15 = .ok (.if_icmp .ge 9, 3) := by decide +kernel
theorem dX8_entry_18 : decode cX8_entry 18 = .ok (.iload_n 1, 1) := by decide +kernel
theorem dX8_entry_19 : decode cX8_entry 19 = .ok (.bipush 20, 2) := by decide +kernel
theorem dX8_entry_21 : decode cX8_entry 21 = .ok (.if_icmp .lt 5, 3) := by decide +kernel
theorem dX8_entry_24 : decode cX8_entry 24 = .ok (.iconst (-1), 1) := by decide +kernel
theorem dX8_entry_25 : decode cX8_entry 25 = .ok (.ireturn, 1) := by decide +kernel
theorem dX8_entry_26 : decode cX8_entry 26 = .ok (.iload_n 2, 1) := by decide +kernel
theorem dX8_entry_27 : decode cX8_entry 27 = .ok (.tableswitch 64 0 2 #[25, 38, 51], 25) := by decide +kernel
theorem dX8_entry_52 : decode cX8_entry 52 = .ok (.aload_n 0, 1) := by decide +kernel
theorem dX8_entry_53 : decode cX8_entry 53 = .ok (.getfield 10, 3) := by decide +kernel
theorem dX8_entry_56 : decode cX8_entry 56 = .ok (.getfield 129, 3) := by decide +kernel
theorem dX8_entry_59 : decode cX8_entry 59 = .ok (.getfield 213, 3) := by decide +kernel
theorem dX8_entry_62 : decode cX8_entry 62 = .ok (.iload_n 1, 1) := by decide +kernel
theorem dX8_entry_63 : decode cX8_entry 63 = .ok (.iaload, 1) := by decide +kernel
theorem dX8_entry_64 : decode cX8_entry 64 = .ok (.ireturn, 1) := by decide +kernel
theorem dX8_entry_65 : decode cX8_entry 65 = .ok (.aload_n 0, 1) := by decide +kernel
theorem dX8_entry_66 : decode cX8_entry 66 = .ok (.getfield 10, 3) := by decide +kernel
theorem dX8_entry_69 : decode cX8_entry 69 = .ok (.getfield 129, 3) := by decide +kernel
theorem dX8_entry_72 : decode cX8_entry 72 = .ok (.getfield 216, 3) := by decide +kernel
theorem dX8_entry_75 : decode cX8_entry 75 = .ok (.iload_n 1, 1) := by decide +kernel
theorem dX8_entry_76 : decode cX8_entry 76 = .ok (.iaload, 1) := by decide +kernel
theorem dX8_entry_77 : decode cX8_entry 77 = .ok (.ireturn, 1) := by decide +kernel
theorem dX8_entry_78 : decode cX8_entry 78 = .ok (.aload_n 0, 1) := by decide +kernel
theorem dX8_entry_79 : decode cX8_entry 79 = .ok (.getfield 10, 3) := by decide +kernel
theorem dX8_entry_82 : decode cX8_entry 82 = .ok (.getfield 129, 3) := by decide +kernel
theorem dX8_entry_85 : decode cX8_entry 85 = .ok (.getfield 219, 3) := by decide +kernel
theorem dX8_entry_88 : decode cX8_entry 88 = .ok (.iload_n 1, 1) := by decide +kernel
theorem dX8_entry_89 : decode cX8_entry 89 = .ok (.iaload, 1) := by decide +kernel
theorem dX8_entry_90 : decode cX8_entry 90 = .ok (.ireturn, 1) := by decide +kernel
theorem dX8_entry_91 : decode cX8_entry 91 = .ok (.iconst (-1), 1) := by decide +kernel
theorem dX8_entry_92 : decode cX8_entry 92 = .ok (.ireturn, 1) := by decide +kernel
def k_X8_entry : List pEn := [oIload 1, oIflt 11, oIload 1, oAload 0, oGet 8 0, oGet 5 13, oGet 7 3, oCge 11, oIload 1, oConst (20), oClt 13, oConst (-1), oIret, oIload 2, oSw [(0, 15), (1, 22), (2, 29)] 36, oAload 0, oGet 8 0, oGet 5 13, oGet 7 0, oIload 1, oIald, oIret, oAload 0, oGet 8 0, oGet 5 13, oGet 7 1, oIload 1, oIald, oIret, oAload 0, oGet 8 0, oGet 5 13, oGet 7 2, oIload 1, oIald, oIret, oConst (-1), oIret]
def pc_X8_entry (i : Nat) : Nat := ([0, 1, 4, 5, 6, 9, 12, 15, 18, 19, 21, 24, 25, 26, 27, 52, 53, 56, 59, 62, 63, 64, 65, 66, 69, 72, 75, 76, 77, 78, 79, 82, 85, 88, 89, 90, 91, 92] : List Nat).getD i 0
abbrev rm_X8_entry : Room := { frames := 0, cells := 0, slots := 0, locals := 0 }
theorem pl_X8_entry : pPlain yX8_entry 2 := by decide +kernel
set_option maxRecDepth 100000 in
set_option maxHeartbeats 4000000 in
theorem ok_k_X8_entry (l : Launch) : ∀ (i : Nat) (en : pEn), k_X8_entry[i]? = some en → EOK l cX8_entry yX8_entry.cls 3 ((some FieldType.int)) rm_X8_entry 0 pc_X8_entry i en := by
  refine allOK_at ?_
  refine And.intro (okIload_n dX8_entry_0 rfl rfl) ?_
  refine And.intro (okIflt dX8_entry_1 rfl (by rfl)) ?_
  refine And.intro (okIload_n dX8_entry_4 rfl rfl) ?_
  refine And.intro (okAload_n dX8_entry_5 rfl rfl) ?_
  refine And.intro (okGet (C := RX8) (T := TX8) (N := 10) dX8_entry_6 rfl rfl (by decide) inX8 wm_2_32) ?_
  refine And.intro (okGet (C := RX5) (T := TX5) (N := 15) dX8_entry_9 rfl rfl (by decide) inX5 wm_1_177) ?_
  refine And.intro (okGet (C := RX7) (T := TX7) (N := 4) dX8_entry_12 rfl rfl (by decide) inX7 wm_1_120) ?_
  refine And.intro (okCge dX8_entry_15 rfl (by rfl)) ?_
  refine And.intro (okIload_n dX8_entry_18 rfl rfl) ?_
  refine And.intro (okBipush dX8_entry_19 rfl (by first | rfl | decide)) ?_
  refine And.intro (okClt dX8_entry_21 rfl (by rfl)) ?_
  refine And.intro (okIconst dX8_entry_24 rfl (by first | rfl | decide)) ?_
  refine And.intro (okIret dX8_entry_25 rfl) ?_
  refine And.intro (okIload_n dX8_entry_26 rfl rfl) ?_
  refine And.intro (okTsw dX8_entry_27 (by decide) (by rfl) (by intro z h1 h2; have : z = 0 ∨ z = 1 ∨ z = 2 := (by omega); rcases this with rfl | rfl | rfl <;> decide)) ?_
  refine And.intro (okAload_n dX8_entry_52 rfl rfl) ?_
  refine And.intro (okGet (C := RX8) (T := TX8) (N := 10) dX8_entry_53 rfl rfl (by decide) inX8 wm_2_32) ?_
  refine And.intro (okGet (C := RX5) (T := TX5) (N := 15) dX8_entry_56 rfl rfl (by decide) inX5 wm_1_177) ?_
  refine And.intro (okGet (C := RX7) (T := TX7) (N := 4) dX8_entry_59 rfl rfl (by decide) inX7 wm_1_111) ?_
  refine And.intro (okIload_n dX8_entry_62 rfl rfl) ?_
  refine And.intro (okIald dX8_entry_63 rfl) ?_
  refine And.intro (okIret dX8_entry_64 rfl) ?_
  refine And.intro (okAload_n dX8_entry_65 rfl rfl) ?_
  refine And.intro (okGet (C := RX8) (T := TX8) (N := 10) dX8_entry_66 rfl rfl (by decide) inX8 wm_2_32) ?_
  refine And.intro (okGet (C := RX5) (T := TX5) (N := 15) dX8_entry_69 rfl rfl (by decide) inX5 wm_1_177) ?_
  refine And.intro (okGet (C := RX7) (T := TX7) (N := 4) dX8_entry_72 rfl rfl (by decide) inX7 wm_1_114) ?_
  refine And.intro (okIload_n dX8_entry_75 rfl rfl) ?_
  refine And.intro (okIald dX8_entry_76 rfl) ?_
  refine And.intro (okIret dX8_entry_77 rfl) ?_
  refine And.intro (okAload_n dX8_entry_78 rfl rfl) ?_
  refine And.intro (okGet (C := RX8) (T := TX8) (N := 10) dX8_entry_79 rfl rfl (by decide) inX8 wm_2_32) ?_
  refine And.intro (okGet (C := RX5) (T := TX5) (N := 15) dX8_entry_82 rfl rfl (by decide) inX5 wm_1_177) ?_
  refine And.intro (okGet (C := RX7) (T := TX7) (N := 4) dX8_entry_85 rfl rfl (by decide) inX7 wm_1_117) ?_
  refine And.intro (okIload_n dX8_entry_88 rfl rfl) ?_
  refine And.intro (okIald dX8_entry_89 rfl) ?_
  refine And.intro (okIret dX8_entry_90 rfl) ?_
  refine And.intro (okIconst dX8_entry_91 rfl (by first | rfl | decide)) ?_
  refine And.intro (okIret dX8_entry_92 rfl) ?_
  exact trivial
def entB (x v : pLV) (e : Int32) (a : Int32) : Int32 := if e < 0 then -1 else if v 0 29 ≤ e then -1 else if 20 ≤ e then -1 else if a = 0 then v 4 e.toNatClampNeg else if a = 1 then v 5 e.toNatClampNeg else if a = 2 then v 6 e.toNatClampNeg else -1
def F_X8_entry : pF := fun args w rg => match args with
  | [.ref 0, .int e, .int a] => unB w (fun f x v u => pif (bOK f rg) (some (some (.int (entB x v e a)), cw f (x) (v) (u), rg)) none)
  | _ => none
set_option maxHeartbeats 400000 in
set_option maxRecDepth 100000 in
theorem run_X8_entry (rg : pRg) (f : Nat → Option Nat) (x v u : pLV) (e : Int32) (a : Int32) (hc : bOK f rg) : ∃ fu, ex k_X8_entry fu 0 [(0, .ref 0), (1, .int e), (2, .int a)] [] (cw f x v u) rg = some (some (.int (entB x v e a)), cw f (x) (v) (u), rg) := by
  refine ⟨60, ?_⟩
  conv => lhs; whnf
  refine pif_c (fun p0 => ?_) (fun p0 => ?_)
  · rw [show entB x v e a = _ from if_pos p0]
    rfl
  · conv => lhs; whnf
    refine pif_c (fun p1 => ?_) (fun p1 => ?_)
    · rw [show entB x v e a = _ from (if_neg p0).trans (if_pos p1)]
      rfl
    · conv => lhs; whnf
      refine pif_c (fun q2 => ?_) (fun q2 => ?_)
      · have p2 := Int32.not_le.mpr q2
        conv => lhs; whnf
        refine pif_c (fun h0 => ?_) (fun h0 => ?_)
        · conv => lhs; whnf
          refine (pif_f (in_of (y := 20) (n := 20) rfl p0 p2)).trans ?_
          rw [show entB x v e a = _ from (if_neg p0).trans ((if_neg p1).trans ((if_neg p2).trans (if_pos h0)))]
          rfl
        · conv => lhs; whnf
          refine pif_c (fun h1 => ?_) (fun h1 => ?_)
          · conv => lhs; whnf
            refine (pif_f (in_of (y := 20) (n := 20) rfl p0 p2)).trans ?_
            rw [show entB x v e a = _ from (if_neg p0).trans ((if_neg p1).trans ((if_neg p2).trans ((if_neg h0).trans (if_pos h1))))]
            rfl
          · conv => lhs; whnf
            refine pif_c (fun h2 => ?_) (fun h2 => ?_)
            · conv => lhs; whnf
              refine (pif_f (in_of (y := 20) (n := 20) rfl p0 p2)).trans ?_
              rw [show entB x v e a = _ from (if_neg p0).trans ((if_neg p1).trans ((if_neg p2).trans ((if_neg h0).trans ((if_neg h1).trans (if_pos h2)))))]
              rfl
            · rw [show entB x v e a = _ from (if_neg p0).trans ((if_neg p1).trans ((if_neg p2).trans ((if_neg h0).trans ((if_neg h1).trans (if_neg h2)))))]
              rfl
      · have p2 := Int32.not_lt.mp q2
        rw [show entB x v e a = _ from (if_neg p0).trans ((if_neg p1).trans (if_pos p2))]
        rfl
theorem ok_F_X8_entry (l : Launch) : pFOK l yX8_entry (pWs yX8_entry cX8_entry 3 ((some FieldType.int))) rm_X8_entry F_X8_entry := by
  refine pFOK_all fun args w rg v0 w' rg' h => ?_
  unfold F_X8_entry at h
  split at h
  next e a =>
    obtain ⟨f, x, v, u, hw, h2⟩ := unB_some h
    clear h
    subst hw
    by_cases hc : bOK f rg
    · have h2 := (pif_t hc).symm.trans h2
      cases h2
      exact met_of_ex (by decide) (ok_k_X8_entry l) rfl (run_X8_entry rg f x v u e a hc) (Nat.le_of_ble_eq_true rfl) rfl (Nat.le_of_ble_eq_true rfl) (Nat.le_of_ble_eq_true rfl) (Nat.zero_le _) rfl rfl
    · have h2 := (pif_f hc).symm.trans h2
      cases h2
  next => cases h
theorem rc_F_X8_entry : pRcv 8 F_X8_entry := by
  intro as w rg o h
  obtain ⟨v0, w', rg'⟩ := o
  unfold F_X8_entry at h
  split at h
  next =>
    obtain ⟨f, x, v, u, rfl, -⟩ := unB_some h
    exact ⟨_, _, _, rfl, cellOf_get rfl⟩
  next => cases h
theorem cl_X8_entry (f : Nat → Option Nat) (x v u : pLV) (e : Int32) (a : Int32) (rg : pRg) (hc : bOK f rg) : F_X8_entry [.ref 0, .int e, .int a] (cw f x v u) rg = some (some (.int (entB (NX x) (NL v) e a)), cw f ((NX x)) ((NL v)) ((NL u)), rg) := pif_t hc
end
