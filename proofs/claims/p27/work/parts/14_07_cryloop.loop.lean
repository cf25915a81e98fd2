noncomputable section
def cstV (v : pLV) (k : Nat) : pLV := if v 4 k = v 0 0 then coV (NL v) (v 5 k) (v 6 k) else v
def cryI : Nat → pLV → pLV
  | 0, v => v
  | k + 1, v => cstV (cryI k v) k
def cryK (v : pLV) : Nat := min 20 (v 0 29).toNatClampNeg
theorem coV_29 (v : pLV) (k n : Int32) : coV v k n 0 29 = v 0 29 := by
  unfold coV
  split
  · rfl
  · split
    · unfold turnV; split <;> rfl
    · rfl
theorem cryI_29 : ∀ (k : Nat) (v : pLV), cryI k v 0 29 = v 0 29
  | 0, _ => rfl
  | k + 1, v => by
    show cstV (cryI k v) k 0 29 = _
    unfold cstV
    split
    · rw [coV_29]; exact cryI_29 k v
    · exact cryI_29 k v
/-- the entries whose time it is, in their order -/
def cryV (v : pLV) : pLV := cryI (cryK v) v
theorem clamp_le {x : Int32} {k : Nat} (h : k < x.toNatClampNeg) : ¬ x ≤ nI k := by
  have h1 : x.toNatClampNeg = x.toInt.toNat := rfl
  intro q
  have h2 := Int32.le_iff_toInt_le.mp q
  have h3 : x.toInt < 2 ^ 31 := Int32.toInt_lt x
  rw [nI_toInt (by omega)] at h2
  omega
theorem clamp_ge {x : Int32} {k : Nat} (h : x.toNatClampNeg ≤ k) (hk : k < 2 ^ 31) : x ≤ nI k := by
  have h1 : x.toNatClampNeg = x.toInt.toNat := rfl
  refine Int32.le_iff_toInt_le.mpr ?_
  rw [nI_toInt hk]
  omega
theorem dX5_carryOutSchedule_0 : decode cX5_carryOutSchedule 0 = .ok (.iconst 0, 1) := by decide +kernel
theorem dX5_carryOutSchedule_1 : decode cX5_carryOutSchedule 1 = .ok (.istore_n 1, 1) := by decide +kernel
theorem dX5_carryOutSchedule_2 : decode cX5_carryOutSchedule 2 = .ok (.iload_n 1, 1) := by decide +kernel
theorem dX5_carryOutSchedule_3 : decode cX5_carryOutSchedule 3 = .ok (.aload_n 0, 1) := by decide +kernel
theorem dX5_carryOutSchedule_4 : decode cX5_carryOutSchedule 4 = .ok (.getfield 68, 3) := by decide +kernel
theorem dX5_carryOutSchedule_7 : decode cX5_carryOutSchedule 7 = .ok (.getfield 162, 3) := by decide +kernel
theorem dX5_carryOutSchedule_10 : decode cX5_carryOutSchedule 10 = .ok (.if_icmp .ge 53, 3) := by decide +kernel
theorem dX5_carryOutSchedule_13 : decode cX5_carryOutSchedule 13 = .ok (.iload_n 1, 1) := by decide +kernel
theorem dX5_carryOutSchedule_14 : decode cX5_carryOutSchedule 14 = .ok (.bipush 20, 2) := by decide +kernel
theorem dX5_carryOutSchedule_16 : decode cX5_carryOutSchedule 16 = .ok (.if_icmp .ge 47, 3) := by decide +kernel
theorem dX5_carryOutSchedule_19 : decode cX5_carryOutSchedule 19 = .ok (.aload_n 0, 1) := by decide +kernel
theorem dX5_carryOutSchedule_20 : decode cX5_carryOutSchedule 20 = .ok (.getfield 68, 3) := by decide +kernel
theorem dX5_carryOutSchedule_23 : decode cX5_carryOutSchedule 23 = .ok (.getfield 165, 3) := by decide +kernel
theorem dX5_carryOutSchedule_26 : decode cX5_carryOutSchedule 26 = .ok (.iload_n 1, 1) := by decide +kernel
theorem dX5_carryOutSchedule_27 : decode cX5_carryOutSchedule 27 = .ok (.iaload, 1) := by decide +kernel
theorem dX5_carryOutSchedule_28 : decode cX5_carryOutSchedule 28 = .ok (.aload_n 0, 1) := by decide +kernel
theorem dX5_carryOutSchedule_29 : decode cX5_carryOutSchedule 29 = .ok (.getfield 9, 3) := by decide +kernel
theorem dX5_carryOutSchedule_32 : decode cX5_carryOutSchedule 32 = .ok (.if_icmp .ne 25, 3) := by decide +kernel
theorem dX5_carryOutSchedule_35 : decode cX5_carryOutSchedule 35 = .ok (.aload_n 0, 1) := by decide +kernel
theorem dX5_carryOutSchedule_36 : decode cX5_carryOutSchedule 36 = .ok (.aload_n 0, 1) := by decide +kernel
theorem dX5_carryOutSchedule_37 : decode cX5_carryOutSchedule 37 = .ok (.getfield 68, 3) := by decide +kernel
theorem dX5_carryOutSchedule_40 : decode cX5_carryOutSchedule 40 = .ok (.getfield 168, 3) := by decide +kernel
theorem dX5_carryOutSchedule_43 : decode cX5_carryOutSchedule 43 = .ok (.iload_n 1, 1) := by decide +kernel
theorem dX5_carryOutSchedule_44 : decode cX5_carryOutSchedule 44 = .ok (.iaload, 1) := by decide +kernel
theorem dX5_carryOutSchedule_45 : decode cX5_carryOutSchedule 45 = .ok (.aload_n 0, 1) := by decide +kernel
theorem dX5_carryOutSchedule_46 : decode cX5_carryOutSchedule 46 = .ok (.getfield 68, 3) := by decide +kernel
theorem dX5_carryOutSchedule_49 : decode cX5_carryOutSchedule 49 = .ok (.getfield 171, 3) := by decide +kernel
theorem dX5_carryOutSchedule_52 : decode cX5_carryOutSchedule 52 = .ok (.iload_n 1, 1) := by decide +kernel
theorem dX5_carryOutSchedule_53 : decode cX5_carryOutSchedule 53 = .ok (.iaload, 1) := by decide +kernel
theorem dX5_carryOutSchedule_54 : decode cX5_carryOutSchedule 54 = .ok (.invokevirtual 174, 3) := by decide +kernel
theorem dX5_carryOutSchedule_57 : decode cX5_carryOutSchedule 57 = .ok (.iinc 1 1, 3) := by decide +kernel
theorem dX5_carryOutSchedule_60 : decode cX5_carryOutSchedule 60 = .ok (.goto (-58), 3) := by decide +kernel
theorem dX5_carryOutSchedule_63 : decode cX5_carryOutSchedule 63 = .ok (.return_, 1) := by decide +kernel
def k_X5_carryOutSchedule : List pEn := [oConst (0), oIstore 1, oIload 1, oAload 0, oGet 5 13, oGet 7 3, oCge 32, oIload 1, oConst (20), oCge 32, oAload 0, oGet 5 13, oGet 7 0, oIload 1, oIald, oAload 0, oGet 5 0, oCne 30, oAload 0, oAload 0, oGet 5 13, oGet 7 1, oIload 1, oIald, oAload 0, oGet 5 13, oGet 7 2, oIload 1, oIald, oCallZ 3 F_X5_carryOut, oIinc 1 (1), oGoto 2, oVret]
def pc_X5_carryOutSchedule (i : Nat) : Nat := ([0, 1, 2, 3, 4, 7, 10, 13, 14, 16, 19, 20, 23, 26, 27, 28, 29, 32, 35, 36, 37, 40, 43, 44, 45, 46, 49, 52, 53, 54, 57, 60, 63] : List Nat).getD i 0
abbrev rm_X5_carryOutSchedule : Room := { frames := 3, cells := 0, slots := 0, locals := 64 }
theorem pl_X5_carryOutSchedule : pPlain yX5_carryOutSchedule 0 := by decide +kernel
set_option maxRecDepth 100000 in
set_option maxHeartbeats 4000000 in
theorem ok_k_X5_carryOutSchedule (l : Launch) : ∀ (i : Nat) (en : pEn), k_X5_carryOutSchedule[i]? = some en → EOK l cX5_carryOutSchedule yX5_carryOutSchedule.cls 2 (none) rm_X5_carryOutSchedule 0 pc_X5_carryOutSchedule i en := by
  refine allOK_at ?_
  refine And.intro (okIconst dX5_carryOutSchedule_0 rfl (by first | rfl | decide)) ?_
  refine And.intro (okIstore_n dX5_carryOutSchedule_1 rfl rfl (by decide)) ?_
  refine And.intro (okIload_n dX5_carryOutSchedule_2 rfl rfl) ?_
  refine And.intro (okAload_n dX5_carryOutSchedule_3 rfl rfl) ?_
  refine And.intro (okGet (C := RX5) (T := TX5) (N := 15) dX5_carryOutSchedule_4 rfl rfl (by decide) inX5 wm_1_176) ?_
  refine And.intro (okGet (C := RX7) (T := TX7) (N := 4) dX5_carryOutSchedule_7 rfl rfl (by decide) inX7 wm_1_121) ?_
  refine And.intro (okCge dX5_carryOutSchedule_10 rfl (by rfl)) ?_
  refine And.intro (okIload_n dX5_carryOutSchedule_13 rfl rfl) ?_
  refine And.intro (okBipush dX5_carryOutSchedule_14 rfl (by first | rfl | decide)) ?_
  refine And.intro (okCge dX5_carryOutSchedule_16 rfl (by rfl)) ?_
  refine And.intro (okAload_n dX5_carryOutSchedule_19 rfl rfl) ?_
  refine And.intro (okGet (C := RX5) (T := TX5) (N := 15) dX5_carryOutSchedule_20 rfl rfl (by decide) inX5 wm_1_176) ?_
  refine And.intro (okGet (C := RX7) (T := TX7) (N := 4) dX5_carryOutSchedule_23 rfl rfl (by decide) inX7 wm_1_110) ?_
  refine And.intro (okIload_n dX5_carryOutSchedule_26 rfl rfl) ?_
  refine And.intro (okIald dX5_carryOutSchedule_27 rfl) ?_
  refine And.intro (okAload_n dX5_carryOutSchedule_28 rfl rfl) ?_
  refine And.intro (okGet (C := RX5) (T := TX5) (N := 15) dX5_carryOutSchedule_29 rfl rfl (by decide) inX5 wm_1_152) ?_
  refine And.intro (okCne dX5_carryOutSchedule_32 rfl (by rfl)) ?_
  refine And.intro (okAload_n dX5_carryOutSchedule_35 rfl rfl) ?_
  refine And.intro (okAload_n dX5_carryOutSchedule_36 rfl rfl) ?_
  refine And.intro (okGet (C := RX5) (T := TX5) (N := 15) dX5_carryOutSchedule_37 rfl rfl (by decide) inX5 wm_1_176) ?_
  refine And.intro (okGet (C := RX7) (T := TX7) (N := 4) dX5_carryOutSchedule_40 rfl rfl (by decide) inX7 wm_1_113) ?_
  refine And.intro (okIload_n dX5_carryOutSchedule_43 rfl rfl) ?_
  refine And.intro (okIald dX5_carryOutSchedule_44 rfl) ?_
  refine And.intro (okAload_n dX5_carryOutSchedule_45 rfl rfl) ?_
  refine And.intro (okGet (C := RX5) (T := TX5) (N := 15) dX5_carryOutSchedule_46 rfl rfl (by decide) inX5 wm_1_176) ?_
  refine And.intro (okGet (C := RX7) (T := TX7) (N := 4) dX5_carryOutSchedule_49 rfl rfl (by decide) inX7 wm_1_116) ?_
  refine And.intro (okIload_n dX5_carryOutSchedule_52 rfl rfl) ?_
  refine And.intro (okIald dX5_carryOutSchedule_53 rfl) ?_
  refine And.intro (okCallV (y := yX5_carryOut) (T := TX5) (oCallZ_is _ _ _) dX5_carryOutSchedule_54 rfl (ok_F_X5_carryOut l) rc_F_X5_carryOut rfl wm_2_225 wm_2_227 wp_7 wm_1_2 wm_2_228 pl_X5_carryOut (by decide)) ?_
  refine And.intro (okIinc dX5_carryOutSchedule_57 rfl (by first | rfl | decide) (by decide)) ?_
  refine And.intro (okGoto dX5_carryOutSchedule_60 (by rfl)) ?_
  refine And.intro (okVret dX5_carryOutSchedule_63 rfl) ?_
  exact trivial
set_option maxHeartbeats 800000 in
theorem lp_cry (rg : pRg) (v : pLV) : ∀ (d k : Nat), k + d = cryK v → ∃ m, ex k_X5_carryOutSchedule m 2 [(1, .int (nI k)), (0, .ref 0)] [] (loopCells 0 (cryI k v)) rg = some (none, loopCells 0 (cryV v), rg) := by
  intro d
  induction d with
  | zero =>
    intro k hk
    obtain rfl : k = cryK v := by omega
    refine ⟨5, ?_⟩
    have hK : cryK v ≤ 20 := Nat.min_le_left _ _
    conv => lhs; whnf
    by_cases h : (v 0 29).toNatClampNeg ≤ cryK v
    · refine (pif_t (by rw [cryI_29]; exact clamp_ge h (by omega))).trans ?_
      rfl
    · have h2 : cryK v = 20 := by unfold cryK at h ⊢; omega
      refine (pif_f (by rw [cryI_29]; exact clamp_le (by omega))).trans ?_
      conv => lhs; whnf
      refine (pif_t (by rw [h2]; decide)).trans ?_
      rfl
  | succ d ih =>
    intro k hk
    obtain ⟨m, hm⟩ := ih (k + 1) (by omega)
    have hK : cryK v ≤ 20 := Nat.min_le_left _ _
    have hK2 : cryK v ≤ (v 0 29).toNatClampNeg := Nat.min_le_right _ _
    by_cases h : cryI k v 4 k = cryI k v 0 0
    · refine ⟨m + 1, ?_⟩
      have e2 : cryI (k + 1) v = coV (NL (cryI k v)) (cryI k v 5 k) (cryI k v 6 k) := if_pos h
      rw [e2] at hm
      conv => lhs; whnf
      refine (pif_f (by rw [cryI_29]; exact clamp_le (by omega))).trans ?_
      conv => lhs; whnf
      refine (pif_f (nI_ge (a := k) (b := 20) (by omega) (by omega))).trans ?_
      conv => lhs; whnf
      refine (pif_f (nI_in (c := k) (N := 20) (by omega) (by omega))).trans ?_
      rw [nI_clamp (by omega : k < 2 ^ 31)]
      conv => lhs; whnf
      refine (pif_t h).trans ?_
      conv => lhs; whnf
      refine (pif_f (nI_in (c := k) (N := 20) (by omega) (by omega))).trans ?_
      rw [nI_clamp (by omega : k < 2 ^ 31)]
      conv => lhs; whnf
      refine (pif_f (nI_in (c := k) (N := 20) (by omega) (by omega))).trans ?_
      rw [nI_clamp (by omega : k < 2 ^ 31)]
      conv => lhs; whnf
      refine (callK_v (cl_X5_carryOut (cryI k v) (cryI k v 5 k) (cryI k v 6 k) rg) rfl).trans ?_
      conv => lhs; whnf
      rw [nI_1]
      exact hm
    · refine ⟨m + 2, ?_⟩
      have e2 : cryI (k + 1) v = cryI k v := if_neg h
      rw [e2] at hm
      conv => lhs; whnf
      refine (pif_f (by rw [cryI_29]; exact clamp_le (by omega))).trans ?_
      conv => lhs; whnf
      refine (pif_f (nI_ge (a := k) (b := 20) (by omega) (by omega))).trans ?_
      conv => lhs; whnf
      refine (pif_f (nI_in (c := k) (N := 20) (by omega) (by omega))).trans ?_
      rw [nI_clamp (by omega : k < 2 ^ 31)]
      conv => lhs; whnf
      refine (pif_f h).trans ?_
      conv => lhs; whnf
      rw [nI_1]
      exact hm
end
