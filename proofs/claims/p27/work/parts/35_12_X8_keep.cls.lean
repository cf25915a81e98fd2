noncomputable section
theorem dX8_keep_0 : decode cX8_keep 0 = .ok (.iload_n 1, 1) := by decide +kernel
theorem dX8_keep_1 : decode cX8_keep 1 = .ok (.ifCond .lt 8, 3) := by decide +kernel
theorem dX8_keep_4 : decode cX8_keep 4 = .ok (.iload_n 1, 1) := by decide +kernel
theorem dX8_keep_5 : decode cX8_keep 5 = .ok (.iconst 1, 1) := by decide +kernel
theorem dX8_keep_6 : decode cX8_keep 6 = .ok (.if_icmp .le 5, 3) := by decide +kernel
theorem dX8_keep_9 : decode cX8_keep 9 = .ok (.iconst (-1), 1) := by decide +kernel
theorem dX8_keep_10 : decode cX8_keep 10 = .ok (.ireturn, 1) := by decide +kernel
theorem dX8_keep_11 : decode cX8_keep 11 = .ok (.aload_n 0, 1) := by decide +kernel
theorem dX8_keep_12 : decode cX8_keep 12 = .ok (.iload_n 1, 1) := by decide +kernel
theorem dX8_keep_13 : decode cX8_keep 13 = .ok (.invokevirtual 234, 3) := by decide +kernel
theorem dX8_keep_16 : decode cX8_keep 16 = .ok (.astore_n 2, 1) := by decide +kernel
theorem dX8_keep_17 : decode cX8_keep 17 = .ok (.aload_n 2, 1) := by decide +kernel
theorem dX8_keep_18 : decode cX8_keep 18 = .ok (.getfield 238, 3) := by decide +kernel
theorem dX8_keep_21 : decode cX8_keep 21 = .ok (.aload_n 0, 1) := by decide +kernel
theorem dX8_keep_22 : decode cX8_keep 22 = .ok (.getfield 10, 3) := by decide +kernel
theorem dX8_keep_25 : decode cX8_keep 25 = .ok (.invokevirtual 222, 3) := by decide +kernel
theorem dX8_keep_28 : decode cX8_keep 28 = .ok (.aload_n 2, 1) := by decide +kernel
theorem dX8_keep_29 : decode cX8_keep 29 = .ok (.iconst 1, 1) := by decide +kernel
theorem dX8_keep_30 : decode cX8_keep 30 = .ok (.putfield 241, 3) := by decide +kernel
theorem dX8_keep_33 : decode cX8_keep 33 = .ok (.aload_n 0, 1) := by decide +kernel
theorem dX8_keep_34 : decode cX8_keep 34 = .ok (.getfield 10, 3) := by decide +kernel
theorem dX8_keep_37 : decode cX8_keep 37 = .ok (.getfield 61, 3) := by decide +kernel
theorem dX8_keep_40 : decode cX8_keep 40 = .ok (.ireturn, 1) := by decide +kernel
def k_X8_keep : List pEn := [oIload 1, oIflt 5, oIload 1, oConst (1), oCle 7, oConst (-1), oIret, oAload 0, oIload 1, oCallZ 2 F_X8_imageAt, oAstore 2, oAload 2, oGet 4 0, oAload 0, oGet 8 0, oCallZ 2 F_cpRT, oAload 2, oConst (1), oPutB 4 1, oAload 0, oGet 8 0, oGet 5 0, oIret]
def pc_X8_keep (i : Nat) : Nat := ([0, 1, 4, 5, 6, 9, 10, 11, 12, 13, 16, 17, 18, 21, 22, 25, 28, 29, 30, 33, 34, 37, 40] : List Nat).getD i 0
abbrev rm_X8_keep : Room := { frames := 3, cells := 0, slots := 0, locals := 64 }
theorem pl_X8_keep : pPlain yX8_keep 1 := by decide +kernel
set_option maxRecDepth 100000 in
set_option maxHeartbeats 4000000 in
theorem ok_k_X8_keep (l : Launch) : ∀ (i : Nat) (en : pEn), k_X8_keep[i]? = some en → EOK l cX8_keep yX8_keep.cls 3 ((some FieldType.int)) rm_X8_keep 0 pc_X8_keep i en := by
  refine allOK_at ?_
  refine And.intro (okIload_n dX8_keep_0 rfl rfl) ?_
  refine And.intro (okIflt dX8_keep_1 rfl (by rfl)) ?_
  refine And.intro (okIload_n dX8_keep_4 rfl rfl) ?_
  refine And.intro (okIconst dX8_keep_5 rfl (by first | rfl | decide)) ?_
  refine And.intro (okCle dX8_keep_6 rfl (by rfl)) ?_
  refine And.intro (okIconst dX8_keep_9 rfl (by first | rfl | decide)) ?_
  refine And.intro (okIret dX8_keep_10 rfl) ?_
  refine And.intro (okAload_n dX8_keep_11 rfl rfl) ?_
  refine And.intro (okIload_n dX8_keep_12 rfl rfl) ?_
  refine And.intro (okCallV (y := yX8_imageAt) (T := TX8) (oCallZ_is _ _ _) dX8_keep_13 rfl (ok_F_X8_imageAt l) rc_F_X8_imageAt rfl wm_3_123 wm_3_125 wp_14 wm_1_1 wm_3_126 pl_X8_imageAt (by decide)) ?_
  refine And.intro (okAstore_n dX8_keep_16 rfl rfl (by decide)) ?_
  refine And.intro (okAload_n dX8_keep_17 rfl rfl) ?_
  refine And.intro (okGet (C := RX4) (T := TX4) (N := 2) dX8_keep_18 rfl rfl (by decide) inX4 wm_2_0) ?_
  refine And.intro (okAload_n dX8_keep_21 rfl rfl) ?_
  refine And.intro (okGet (C := RX8) (T := TX8) (N := 10) dX8_keep_22 rfl rfl (by decide) inX8 wm_2_32) ?_
  refine And.intro (okCallV (y := yX5_copyFrom) (T := TX5) (oCallZ_is _ _ _) dX8_keep_25 rfl (ok_F_cpRT l) rc_F_cpRT rfl wm_3_109 wm_2_72 wm_2_73 wm_1_2 wm_2_74 pl_X5_copyFrom (by decide)) ?_
  refine And.intro (okAload_n dX8_keep_28 rfl rfl) ?_
  refine And.intro (okIconst dX8_keep_29 rfl (by first | rfl | decide)) ?_
  refine And.intro (okPutB (C := RX4) (T := TX4) (N := 2) dX8_keep_30 rfl rfl (by decide) inX4 tyX4_ok nmX4 rfl rfl wm_2_2) ?_
  refine And.intro (okAload_n dX8_keep_33 rfl rfl) ?_
  refine And.intro (okGet (C := RX8) (T := TX8) (N := 10) dX8_keep_34 rfl rfl (by decide) inX8 wm_2_32) ?_
  refine And.intro (okGet (C := RX5) (T := TX5) (N := 15) dX8_keep_37 rfl rfl (by decide) inX5 wm_1_153) ?_
  refine And.intro (okIret dX8_keep_40 rfl) ?_
  exact trivial
def ckeep_B (x v : pLV) (i : Int32) : Int32 := if i < 0 then -1 else if 1 < i then -1 else 0
def ckeep_R (x v u : pLV) (h : Nat → pLV) (i : Int32) : Int32 := if ckeep_B x v i = 0 then v 0 0 else ckeep_B x v i
def ckeep_X (x v u : pLV) (h : Nat → pLV) (i : Int32) : pLV := if ckeep_B x v i = 0 then if i = 0 then vS x 5 1 else vS x 6 1 else x
def ckeep_H (x v u : pLV) (h : Nat → pLV) (i : Int32) : Nat → pLV := if ckeep_B x v i = 0 then if i = 0 then updR h 8 (cpyV (h 8) v) else updR h 9 (cpyV (h 9) v) else h
def F_X8_keep : pF := fun args w rg => match args with
  | [.ref 0, .int i] => unB w (fun f x v u => pif (bOK f rg) (some (some (.int (ckeep_R x v u rg.2 i)), cw f (ckeep_X x v u rg.2 i) (v) (u), (rg.1, ckeep_H x v u rg.2 i))) none)
  | _ => none
set_option maxHeartbeats 400000 in
set_option maxRecDepth 100000 in
theorem run_X8_keep (rg : pRg) (f : Nat → Option Nat) (x v u : pLV) (i : Int32) (hc : bOK f rg) : ∃ fu, ex k_X8_keep fu 0 [(0, .ref 0), (1, .int i)] [] (cw f x v u) rg = some (some (.int (ckeep_R x v u rg.2 i)), cw f (ckeep_X x v u rg.2 i) (v) (u), (rg.1, ckeep_H x v u rg.2 i)) := by
  refine ⟨60, ?_⟩
  conv => lhs; whnf
  refine pif_c (fun p0 => ?_) (fun n0 => ?_)
  · have hB : ckeep_B x v i = -1 := if_pos p0
    have hN : ¬ ckeep_B x v i = 0 := by rw [hB]; decide
    rw [show ckeep_R x v u rg.2 i = -1 from (if_neg hN).trans hB, show ckeep_X x v u rg.2 i = _ from if_neg hN, show ckeep_H x v u rg.2 i = _ from if_neg hN]
    rfl
  · conv => lhs; whnf
    refine pif_c (fun q1 => ?_) (fun q1 => ?_)
    · have n1 := Int32.not_lt.mpr q1
      have hB : ckeep_B x v i = 0 := (if_neg n0).trans ((if_neg n1).trans (rfl))
      rw [show ckeep_R x v u rg.2 i = _ from if_pos hB, show ckeep_X x v u rg.2 i = _ from if_pos hB, show ckeep_H x v u rg.2 i = _ from if_pos hB]
      conv => lhs; whnf
      refine (callK_r (cl_X8_imageAt f x v u i rg hc) (by rfl)).trans ?_
      by_cases h : i = 0
      · rw [show imI i = 31 from if_pos h, show (if i = 0 then vS x 5 1 else vS x 6 1) = _ from if_pos h, show (if i = 0 then updR rg.2 8 (cpyV (rg.2 8) v) else updR rg.2 9 (cpyV (rg.2 9) v)) = _ from if_pos h]
        conv => lhs; whnf
        refine (callK_v (cl_cpRT f x v u rg 8 (by rw [hc.2]; omega)) (by rfl)).trans ?_
        conv => lhs; whnf
        refine (pif_t (by decide)).trans ?_
        rfl
      · rw [show imI i = 32 from if_neg h, show (if i = 0 then vS x 5 1 else vS x 6 1) = _ from if_neg h, show (if i = 0 then updR rg.2 8 (cpyV (rg.2 8) v) else updR rg.2 9 (cpyV (rg.2 9) v)) = _ from if_neg h]
        conv => lhs; whnf
        refine (callK_v (cl_cpRT f x v u rg 9 (by rw [hc.2]; omega)) (by rfl)).trans ?_
        conv => lhs; whnf
        refine (pif_t (by decide)).trans ?_
        rfl
    · have p1 := Int32.not_le.mp q1
      have hB : ckeep_B x v i = -1 := (if_neg n0).trans (if_pos p1)
      have hN : ¬ ckeep_B x v i = 0 := by rw [hB]; decide
      rw [show ckeep_R x v u rg.2 i = -1 from (if_neg hN).trans hB, show ckeep_X x v u rg.2 i = _ from if_neg hN, show ckeep_H x v u rg.2 i = _ from if_neg hN]
      rfl
theorem ok_F_X8_keep (l : Launch) : pFOK l yX8_keep (pWs yX8_keep cX8_keep 3 ((some FieldType.int))) rm_X8_keep F_X8_keep := by
  refine pFOK_all fun args w rg v0 w' rg' h => ?_
  unfold F_X8_keep at h
  split at h
  next i =>
    obtain ⟨f, x, v, u, hw, h2⟩ := unB_some h
    clear h
    subst hw
    by_cases hc : bOK f rg
    · have h2 := (pif_t hc).symm.trans h2
      cases h2
      exact met_of_ex (by decide) (ok_k_X8_keep l) rfl (run_X8_keep rg f x v u i hc) (Nat.le_of_ble_eq_true rfl) rfl (Nat.le_of_ble_eq_true rfl) (Nat.le_of_ble_eq_true rfl) (Nat.zero_le _) rfl rfl
    · have h2 := (pif_f hc).symm.trans h2
      cases h2
  next => cases h
theorem rc_F_X8_keep : pRcv 8 F_X8_keep := by
  intro as w rg o h
  obtain ⟨v0, w', rg'⟩ := o
  unfold F_X8_keep at h
  split at h
  next =>
    obtain ⟨f, x, v, u, rfl, -⟩ := unB_some h
    exact ⟨_, _, _, rfl, cellOf_get rfl⟩
  next => cases h
theorem cl_X8_keep (f : Nat → Option Nat) (x v u : pLV) (i : Int32) (rg : pRg) (hc : bOK f rg) : F_X8_keep [.ref 0, .int i] (cw f x v u) rg = some (some (.int (ckeep_R (NX x) (NL v) (NL u) rg.2 i)), cw f (ckeep_X (NX x) (NL v) (NL u) rg.2 i) ((NL v)) ((NL u)), (rg.1, ckeep_H (NX x) (NL v) (NL u) rg.2 i)) := pif_t hc
end
