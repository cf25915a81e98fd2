noncomputable section
def b1M (m : pLV) : pLV := vA m 1 (upd (m 1) 11 1000)
def ovN : Nat → Nat → pLV → Nat
  | 0, k, _ => k
  | d + 1, k, m => if m 0 12 = 0 then ovN d (k + 1) (tickM (NM (b1M m))) else k
def ovX : Nat → pLV → pLV
  | 0, m => m
  | d + 1, m => if m 0 12 = 0 then ovX d (tickM (NM (b1M m))) else m
def ovOK : Nat → pLV → Prop
  | 0, _ => True
  | d + 1, m => m 0 12 = 0 → tOK (NM (b1M m)) ∧ ovOK d (tickM (NM (b1M m)))
def ovA (x : pLV) (k : Nat) : Int32 := if x 0 12 = 0 then -9 else nI k
def ov0 (m : pLV) : pLV := vS (holdM (NM m)) 12 0
def ovrR (m : pLV) : Int32 := ovA (ovX 300 (ov0 m)) (ovN 300 0 (ov0 m))
def ovrM (m : pLV) : pLV := restM (NM (ovX 300 (ov0 m)))
theorem dX9_overflow_0 : decode cX9_overflow 0 = .ok (.aload_n 0, 1) := by decide +kernel
theorem dX9_overflow_1 : decode cX9_overflow 1 = .ok (.invokevirtual 169, 3) := by decide +kernel
theorem dX9_overflow_4 : decode cX9_overflow 4 = .ok (.iconst 0, 1) := by decide +kernel
theorem dX9_overflow_5 : decode cX9_overflow 5 = .ok (.istore_n 1, 1) := by decide +kernel
theorem dX9_overflow_6 : decode cX9_overflow 6 = .ok (.aload_n 0, 1) := by decide +kernel
theorem dX9_overflow_7 : decode cX9_overflow 7 = .ok (.iconst 0, 1) := by decide +kernel
theorem dX9_overflow_8 : decode cX9_overflow 8 = .ok (.putfield 80, 3) := by decide +kernel
theorem dX9_overflow_11 : decode cX9_overflow 11 = .ok (.iload_n 1, 1) := by decide +kernel
theorem dX9_overflow_12 : decode cX9_overflow 12 = .ok (.sipush 300, 3) := by decide +kernel
theorem dX9_overflow_15 : decode cX9_overflow 15 = .ok (.if_icmp .ge 30, 3) := by decide +kernel
theorem dX9_overflow_18 : decode cX9_overflow 18 = .ok (.aload_n 0, 1) := by decide +kernel
theorem dX9_overflow_19 : decode cX9_overflow 19 = .ok (.getfield 80, 3) := by decide +kernel
theorem dX9_overflow_22 : decode cX9_overflow 22 = .ok (.ifCond .ne 23, 3) := by decide +kernel
theorem dX9_overflow_25 : decode cX9_overflow 25 = .ok (.aload_n 0, 1) := by decide +kernel
theorem dX9_overflow_26 : decode cX9_overflow 26 = .ok (.getfield 7, 3) := by decide +kernel
theorem dX9_overflow_29 : decode cX9_overflow 29 = .ok (.bipush 11, 2) := by decide +kernel
theorem dX9_overflow_31 : decode cX9_overflow 31 = .ok (.sipush 1000, 3) := by decide +kernel
theorem dX9_overflow_34 : decode cX9_overflow 34 = .ok (.iastore, 1) := by decide +kernel
theorem dX9_overflow_35 : decode cX9_overflow 35 = .ok (.aload_n 0, 1) := by decide +kernel
theorem dX9_overflow_36 : decode cX9_overflow 36 = .ok (.invokevirtual 160, 3) := by decide +kernel
theorem dX9_overflow_39 : decode cX9_overflow 39 = .ok (.iinc 1 1, 3) := by decide +kernel
theorem dX9_overflow_42 : decode cX9_overflow 42 = .ok (.goto (-31), 3) := by decide +kernel
theorem dX9_overflow_45 : decode cX9_overflow 45 = .ok (.aload_n 0, 1) := by decide +kernel
theorem dX9_overflow_46 : decode cX9_overflow 46 = .ok (.invokevirtual 172, 3) := by decide +kernel
theorem dX9_overflow_49 : decode cX9_overflow 49 = .ok (.aload_n 0, 1) := by decide +kernel
theorem dX9_overflow_50 : decode cX9_overflow 50 = .ok (.getfield 80, 3) := by decide +kernel
theorem dX9_overflow_53 : decode cX9_overflow 53 = .ok (.ifCond .eq 7, 3) := by decide +kernel
theorem dX9_overflow_56 : decode cX9_overflow 56 = .ok (.iload_n 1, 1) := by decide +kernel
theorem dX9_overflow_57 : decode cX9_overflow 57 = .ok (.goto 5, 3) := by decide +kernel
theorem dX9_overflow_60 : decode cX9_overflow 60 = .ok (.bipush (-9), 2) := by decide +kernel
theorem dX9_overflow_62 : decode cX9_overflow 62 = .ok (.ireturn, 1) := by decide +kernel
def k_X9_overflow : List pEn := [oAload 0, oCallZ 1 F_X9_hold, oConst (0), oIstore 1, oAload 0, oConst (0), oPutB 9 12, oIload 1, oConst (300), oCge 22, oAload 0, oGet 9 12, oIfne 22, oAload 0, oGet 9 0, oConst (11), oConst (1000), oIastN 11, oAload 0, oCallZ 1 F_X9_tick, oIinc 1 (1), oGoto 7, oAload 0, oCallZ 1 F_X9_restore, oAload 0, oGet 9 12, oIfeq 29, oIload 1, oGoto 30, oConst (-9), oIret]
def pc_X9_overflow (i : Nat) : Nat := ([0, 1, 4, 5, 6, 7, 8, 11, 12, 15, 18, 19, 22, 25, 26, 29, 31, 34, 35, 36, 39, 42, 45, 46, 49, 50, 53, 56, 57, 60, 62] : List Nat).getD i 0
abbrev rm_X9_overflow : Room := { frames := 5, cells := 0, slots := 0, locals := 120 }
theorem pl_X9_overflow : pPlain yX9_overflow 0 := by decide +kernel
set_option maxRecDepth 100000 in
set_option maxHeartbeats 4000000 in
theorem ok_k_X9_overflow (l : Launch) : ∀ (i : Nat) (en : pEn), k_X9_overflow[i]? = some en → EOK l cX9_overflow yX9_overflow.cls 2 ((some FieldType.int)) rm_X9_overflow 0 pc_X9_overflow i en := by
  refine allOK_at ?_
  refine And.intro (okAload_n dX9_overflow_0 rfl rfl) ?_
  refine And.intro (okCallV (y := yX9_hold) (T := TX9) (oCallZ_is _ _ _) dX9_overflow_1 rfl (ok_F_X9_hold l) rc_F_X9_hold rfl wm_4_152 wm_4_154 wp_38 wm_1_10 wm_4_155 pl_X9_hold (by decide)) ?_
  refine And.intro (okIconst dX9_overflow_4 rfl (by first | rfl | decide)) ?_
  refine And.intro (okIstore_n dX9_overflow_5 rfl rfl (by decide)) ?_
  refine And.intro (okAload_n dX9_overflow_6 rfl rfl) ?_
  refine And.intro (okIconst dX9_overflow_7 rfl (by first | rfl | decide)) ?_
  refine And.intro (okPutB (C := RX9) (T := TX9) (N := 22) dX9_overflow_8 rfl rfl (by decide) inX9 tyX9_ok nmX9 rfl rfl wm_3_153) ?_
  refine And.intro (okIload_n dX9_overflow_11 rfl rfl) ?_
  refine And.intro (okSipush dX9_overflow_12 rfl (by first | rfl | decide)) ?_
  refine And.intro (okCge dX9_overflow_15 rfl (by rfl)) ?_
  refine And.intro (okAload_n dX9_overflow_18 rfl rfl) ?_
  refine And.intro (okGet (C := RX9) (T := TX9) (N := 22) dX9_overflow_19 rfl rfl (by decide) inX9 wm_3_153) ?_
  refine And.intro (okIfne dX9_overflow_22 rfl (by rfl)) ?_
  refine And.intro (okAload_n dX9_overflow_25 rfl rfl) ?_
  refine And.intro (okGet (C := RX9) (T := TX9) (N := 22) dX9_overflow_26 rfl rfl (by decide) inX9 wm_3_141) ?_
  refine And.intro (okBipush dX9_overflow_29 rfl (by first | rfl | decide)) ?_
  refine And.intro (okSipush dX9_overflow_31 rfl (by first | rfl | decide)) ?_
  refine And.intro (okIastN dX9_overflow_34 rfl) ?_
  refine And.intro (okAload_n dX9_overflow_35 rfl rfl) ?_
  refine And.intro (okCallV (y := yX9_tick) (T := TX9) (oCallZ_is _ _ _) dX9_overflow_36 rfl (ok_F_X9_tick l) rc_F_X9_tick rfl wm_4_68 wm_4_70 wp_29 wm_1_10 wm_4_71 pl_X9_tick (by decide)) ?_
  refine And.intro (okIinc dX9_overflow_39 rfl (by first | rfl | decide) (by decide)) ?_
  refine And.intro (okGoto dX9_overflow_42 (by rfl)) ?_
  refine And.intro (okAload_n dX9_overflow_45 rfl rfl) ?_
  refine And.intro (okCallV (y := yX9_restore) (T := TX9) (oCallZ_is _ _ _) dX9_overflow_46 rfl (ok_F_X9_restore l) rc_F_X9_restore rfl wm_4_156 wm_4_158 wp_39 wm_1_10 wm_4_159 pl_X9_restore (by decide)) ?_
  refine And.intro (okAload_n dX9_overflow_49 rfl rfl) ?_
  refine And.intro (okGet (C := RX9) (T := TX9) (N := 22) dX9_overflow_50 rfl rfl (by decide) inX9 wm_3_153) ?_
  refine And.intro (okIfeq dX9_overflow_53 rfl (by rfl)) ?_
  refine And.intro (okIload_n dX9_overflow_56 rfl rfl) ?_
  refine And.intro (okGoto dX9_overflow_57 (by rfl)) ?_
  refine And.intro (okBipush dX9_overflow_60 rfl (by first | rfl | decide)) ?_
  refine And.intro (okIret dX9_overflow_62 rfl) ?_
  exact trivial
theorem lp_ovt (rg : pRg) (x : pLV) (k : Nat) : ex k_X9_overflow 5 22 [(1, .int (nI k)), (0, .ref 0)] [] (mdl x) rg = some (some (.int (ovA x k)), mdl (restM (NM x)), rg) := by
  conv => lhs; whnf
  refine (callK_v (cl_X9_restore x rg) (by rfl)).trans ?_
  conv => lhs; whnf
  refine pif_c (fun h => ?_) (fun h => ?_)
  · rw [show ovA x k = _ from if_pos h] <;> rfl
  · rw [show ovA x k = _ from if_neg h] <;> rfl
theorem ovX_e {x : pLV} (h : ¬ x 0 12 = 0) : ∀ d, ovX d x = x
  | 0 => rfl
  | _ + 1 => if_neg h
theorem ovN_e {x : pLV} (h : ¬ x 0 12 = 0) (k : Nat) : ∀ d, ovN d k x = k
  | 0 => rfl
  | _ + 1 => if_neg h
set_option maxHeartbeats 400000 in
theorem lp_ov (rg : pRg) : ∀ (d k : Nat) (x : pLV), k + d = 300 → ovOK d x → ∃ fu, ex k_X9_overflow fu 7 [(1, .int (nI k)), (0, .ref 0)] [] (mdl x) rg = some (some (.int (ovA (ovX d x) (ovN d k x))), mdl (restM (NM (ovX d x))), rg) := by
  intro d
  induction d with
  | zero =>
    intro k x hk _
    obtain rfl : k = 300 := by omega
    refine ⟨6, ?_⟩
    have ht := lp_ovt rg x 300
    conv => lhs; whnf
    refine (pif_t (by decide)).trans ?_
    exact ht
  | succ d ih =>
    intro k x hk hO
    by_cases h : x 0 12 = 0
    · obtain ⟨hT, hO2⟩ := hO h
      obtain ⟨m0, hm⟩ := ih (k + 1) (tickM (NM (b1M x))) (by omega) hO2
      rw [show ovX (d + 1) x = _ from if_pos h, show ovN (d + 1) k x = _ from if_pos h]
      refine ⟨m0 + 1, ?_⟩
      conv => lhs; whnf
      refine (pif_f (nI_ge (a := k) (b := 300) (by omega) (by omega))).trans ?_
      conv => lhs; whnf
      refine (pif_t h).trans ?_
      conv => lhs; whnf
      refine (callK_v (cl_X9_tick (b1M x) rg hT) (by rfl)).trans ?_
      conv => lhs; whnf
      rw [nI_1]
      exact hm
    · rw [ovX_e h, ovN_e h]
      refine ⟨6, ?_⟩
      have ht := lp_ovt rg x k
      conv => lhs; whnf
      refine (pif_f (nI_ge (a := k) (b := 300) (by omega) (by omega))).trans ?_
      conv => lhs; whnf
      refine (pif_f h).trans ?_
      exact ht
def G_X9_overflow : pG := fun args w => match args with
  | [.ref 0] => unM w (fun m => pif (ovOK 300 (ov0 m)) (some (some (.int (ovrR m)), mdl (ovrM m))) none)
  | _ => none
set_option maxHeartbeats 400000 in
set_option maxRecDepth 100000 in
theorem run_X9_overflow (rg : pRg) (m : pLV)  (hc : ovOK 300 (ov0 m)) : ∃ fu, ex k_X9_overflow fu 0 [(0, .ref 0)] [] (mdl m) rg = some (some (.int (ovrR m)), mdl (ovrM m), rg) := by
  obtain ⟨fu, hf⟩ := lp_ov rg 300 0 (ov0 m) (by omega) hc
  obtain ⟨f1, rfl⟩ := ex_pos hf
  refine ⟨f1 + 1, ?_⟩
  unfold ovrR ovrM
  clear hc
  conv => lhs; whnf
  refine (callK_v (cl_X9_hold m rg) (by rfl)).trans ?_
  unfold ov0 at hf ⊢
  revert hf
  generalize holdM (NM m) = x
  revert x; refine id ?_; intro x hf
  conv => lhs; whnf
  refine (pif_t (by decide)).trans ?_
  conv at hf => lhs; whnf
  conv => lhs; whnf
  exact hf
theorem ct_X9_overflow (l : Launch) : ∀ args0 w0 v0 w1 rg, G_X9_overflow args0 w0 = some (v0, w1) → pCT l yX9_overflow (pWs yX9_overflow cX9_overflow 2 ((some FieldType.int))) rm_X9_overflow args0 w0 rg (v0, w1, rg) := by
  intro args0 w0 v0 w1 rg h
  unfold G_X9_overflow at h
  split at h
  next  =>
    obtain ⟨m, hw, h2⟩ := unM_some h
    clear h
    subst hw
    by_cases hc : ovOK 300 (ov0 m)
    · have h2 := (pif_t hc).symm.trans h2
      cases h2
      exact met_of_exM (by decide) (ok_k_X9_overflow l) rfl (run_X9_overflow rg m  hc) (Nat.le_of_ble_eq_true rfl) rfl rfl
    · have h2 := (pif_f hc).symm.trans h2
      cases h2
  next => cases h
def F_X9_overflow : pF := faN G_X9_overflow
theorem ok_F_X9_overflow (l : Launch) : pFOK l yX9_overflow (pWs yX9_overflow cX9_overflow 2 ((some FieldType.int))) rm_X9_overflow F_X9_overflow := pFOK_fa (fun a b c d rg h => ct_X9_overflow l a b c d rg h)
theorem rc_F_X9_overflow : pRcv 9 F_X9_overflow := pRcv_fa (fun a b c d h => by
  unfold G_X9_overflow at h
  split at h
  next =>
    obtain ⟨m, rfl, h⟩ := unM_some h
    exact ⟨_, _, _, rfl, rfl⟩
  next => cases h)
theorem cl_X9_overflow (m : pLV)  (rg : pRg) (hc : ovOK 300 (ov0 (NM m))) : F_X9_overflow [.ref 0] (mdl m) rg = some (some (.int (ovrR (NM m))), mdl (ovrM (NM m)), rg) := by
  have h : G_X9_overflow [.ref 0] (mdl m) = some (some (.int (ovrR (NM m))), mdl (ovrM (NM m))) := pif_t hc
  unfold F_X9_overflow faN
  rw [h]
end
