noncomputable section
def eeM (m : pLV) : pLV := vS (vS (vA m 5 (upd (m 5) (3 * m 0 13 + 2).toNatClampNeg (m 0 20))) 13 (m 0 13 + 1)) 17 0
theorem dX9_endEntry_0 : decode cX9_endEntry 0 = .ok (.aload_n 0, 1) := by decide +kernel
theorem dX9_endEntry_1 : decode cX9_endEntry 1 = .ok (.getfield 29, 3) := by decide +kernel
theorem dX9_endEntry_4 : decode cX9_endEntry 4 = .ok (.iconst 3, 1) := by decide +kernel
theorem dX9_endEntry_5 : decode cX9_endEntry 5 = .ok (.aload_n 0, 1) := by decide +kernel
theorem dX9_endEntry_6 : decode cX9_endEntry 6 = .ok (.getfield 104, 3) := by decide +kernel
theorem dX9_endEntry_9 : decode cX9_endEntry 9 = .ok (.imul, 1) := by decide +kernel
theorem dX9_endEntry_10 : decode cX9_endEntry 10 = .ok (.iconst 2, 1) := by decide +kernel
theorem dX9_endEntry_11 : decode cX9_endEntry 11 = .ok (.iadd, 1) := by decide +kernel
theorem dX9_endEntry_12 : decode cX9_endEntry 12 = .ok (.aload_n 0, 1) := by decide +kernel
theorem dX9_endEntry_13 : decode cX9_endEntry 13 = .ok (.getfield 110, 3) := by decide +kernel
theorem dX9_endEntry_16 : decode cX9_endEntry 16 = .ok (.iastore, 1) := by decide +kernel
theorem dX9_endEntry_17 : decode cX9_endEntry 17 = .ok (.aload_n 0, 1) := by decide +kernel
theorem dX9_endEntry_18 : decode cX9_endEntry 18 = .ok (.dup, 1) := by decide +kernel
theorem dX9_endEntry_19 : decode cX9_endEntry 19 = .ok (.getfield 104, 3) := by decide +kernel
theorem dX9_endEntry_22 : decode cX9_endEntry 22 = .ok (.iconst 1, 1) := by decide +kernel
theorem dX9_endEntry_23 : decode cX9_endEntry 23 = .ok (.iadd, 1) := by decide +kernel
theorem dX9_endEntry_24 : decode cX9_endEntry 24 = .ok (.putfield 104, 3) := by decide +kernel
theorem dX9_endEntry_27 : decode cX9_endEntry 27 = .ok (.aload_n 0, 1) := by decide +kernel
theorem dX9_endEntry_28 : decode cX9_endEntry 28 = .ok (.iconst 0, 1) := by decide +kernel
theorem dX9_endEntry_29 : decode cX9_endEntry 29 = .ok (.putfield 107, 3) := by decide +kernel
theorem dX9_endEntry_32 : decode cX9_endEntry 32 = .ok (.return_, 1) := by decide +kernel
def k_X9_endEntry : List pEn := [oAload 0, oGet 9 14, oConst (3), oAload 0, oGet 9 13, oMul, oConst (2), oAdd, oAload 0, oGet 9 20, oIast, oAload 0, oDup, oGet 9 13, oConst (1), oAdd, oPut 9 13, oAload 0, oConst (0), oPut 9 17, oVret]
def pc_X9_endEntry (i : Nat) : Nat := ([0, 1, 4, 5, 6, 9, 10, 11, 12, 13, 16, 17, 18, 19, 22, 23, 24, 27, 28, 29, 32] : List Nat).getD i 0
abbrev rm_X9_endEntry : Room := { frames := 0, cells := 0, slots := 0, locals := 0 }
theorem pl_X9_endEntry : pPlain yX9_endEntry 0 := by decide +kernel
set_option maxRecDepth 100000 in
set_option maxHeartbeats 4000000 in
theorem ok_k_X9_endEntry (l : Launch) : ∀ (i : Nat) (en : pEn), k_X9_endEntry[i]? = some en → EOK l cX9_endEntry yX9_endEntry.cls 1 (none) rm_X9_endEntry 0 pc_X9_endEntry i en := by
  refine allOK_at ?_
  refine And.intro (okAload_n dX9_endEntry_0 rfl rfl) ?_
  refine And.intro (okGet (C := RX9) (T := TX9) (N := 22) dX9_endEntry_1 rfl rfl (by decide) inX9 wm_3_155) ?_
  refine And.intro (okIconst dX9_endEntry_4 rfl (by first | rfl | decide)) ?_
  refine And.intro (okAload_n dX9_endEntry_5 rfl rfl) ?_
  refine And.intro (okGet (C := RX9) (T := TX9) (N := 22) dX9_endEntry_6 rfl rfl (by decide) inX9 wm_3_154) ?_
  refine And.intro (okMul dX9_endEntry_9 rfl) ?_
  refine And.intro (okIconst dX9_endEntry_10 rfl (by first | rfl | decide)) ?_
  refine And.intro (okAdd dX9_endEntry_11 rfl) ?_
  refine And.intro (okAload_n dX9_endEntry_12 rfl rfl) ?_
  refine And.intro (okGet (C := RX9) (T := TX9) (N := 22) dX9_endEntry_13 rfl rfl (by decide) inX9 wm_3_161) ?_
  refine And.intro (okIast dX9_endEntry_16 rfl) ?_
  refine And.intro (okAload_n dX9_endEntry_17 rfl rfl) ?_
  refine And.intro (okDup dX9_endEntry_18 rfl) ?_
  refine And.intro (okGet (C := RX9) (T := TX9) (N := 22) dX9_endEntry_19 rfl rfl (by decide) inX9 wm_3_154) ?_
  refine And.intro (okIconst dX9_endEntry_22 rfl (by first | rfl | decide)) ?_
  refine And.intro (okAdd dX9_endEntry_23 rfl) ?_
  refine And.intro (okPut (C := RX9) (T := TX9) (N := 22) dX9_endEntry_24 rfl rfl (by decide) inX9 tyX9_ok nmX9 rfl rfl wm_3_154) ?_
  refine And.intro (okAload_n dX9_endEntry_27 rfl rfl) ?_
  refine And.intro (okIconst dX9_endEntry_28 rfl (by first | rfl | decide)) ?_
  refine And.intro (okPut (C := RX9) (T := TX9) (N := 22) dX9_endEntry_29 rfl rfl (by decide) inX9 tyX9_ok nmX9 rfl rfl wm_3_158) ?_
  refine And.intro (okVret dX9_endEntry_32 rfl) ?_
  exact trivial
def G_X9_endEntry : pG := fun args w => match args with
  | [.ref 0] => unM w (fun m => pif (r19 m) (some (none, mdl (eeM m))) none)
  | _ => none
set_option maxHeartbeats 400000 in
set_option maxRecDepth 100000 in
theorem run_X9_endEntry (rg : pRg) (m : pLV)  (hc : r19 m) : ∃ fu, ex k_X9_endEntry fu 0 [(0, .ref 0)] [] (mdl m) rg = some (none, mdl (eeM m), rg) := by
  refine ⟨60, ?_⟩
  conv => lhs; whnf
  refine (pif_f (e3_b 2 2 rfl (by decide) hc.1 hc.2)).trans ?_
  rfl
theorem ct_X9_endEntry (l : Launch) : ∀ args0 w0 v0 w1 rg, G_X9_endEntry args0 w0 = some (v0, w1) → pCT l yX9_endEntry (pWs yX9_endEntry cX9_endEntry 1 (none)) rm_X9_endEntry args0 w0 rg (v0, w1, rg) := by
  intro args0 w0 v0 w1 rg h
  unfold G_X9_endEntry at h
  split at h
  next  =>
    obtain ⟨m, hw, h2⟩ := unM_some h
    clear h
    subst hw
    by_cases hc : r19 m
    · have h2 := (pif_t hc).symm.trans h2
      cases h2
      exact met_of_exM (by decide) (ok_k_X9_endEntry l) rfl (run_X9_endEntry rg m  hc) (Nat.le_of_ble_eq_true rfl) rfl rfl
    · have h2 := (pif_f hc).symm.trans h2
      cases h2
  next => cases h
def F_X9_endEntry : pF := faN G_X9_endEntry
theorem ok_F_X9_endEntry (l : Launch) : pFOK l yX9_endEntry (pWs yX9_endEntry cX9_endEntry 1 (none)) rm_X9_endEntry F_X9_endEntry := pFOK_fa (fun a b c d rg h => ct_X9_endEntry l a b c d rg h)
theorem rc_F_X9_endEntry : pRcv 9 F_X9_endEntry := pRcv_fa (fun a b c d h => by
  unfold G_X9_endEntry at h
  split at h
  next =>
    obtain ⟨m, rfl, h⟩ := unM_some h
    exact ⟨_, _, _, rfl, rfl⟩
  next => cases h)
theorem cl_X9_endEntry (m : pLV)  (rg : pRg) (hc : r19 (NM m)) : F_X9_endEntry [.ref 0] (mdl m) rg = some (none, mdl (eeM (NM m)), rg) := by
  have h : G_X9_endEntry [.ref 0] (mdl m) = some (none, mdl (eeM (NM m))) := pif_t hc
  unfold F_X9_endEntry faN
  rw [h]
end
