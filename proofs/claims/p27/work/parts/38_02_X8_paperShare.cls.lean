noncomputable section
/-- the share of a in all b -/
def psI (a b : Int32) : UInt32 := if b = 0 then FP.fconst0 else FP.fdiv (FP.i2f a) (FP.i2f b)
theorem psI_n (a b : Int32) : vf_n32 (psI a b) := by
  unfold psI
  split
  · unfold vf_n32; decide
  · rename_i h
    exact fdiv_ok a b h
theorem dX8_paperShare_0 : decode cX8_paperShare 0 = .ok (.aload_n 0, 1) := by decide +kernel
theorem dX8_paperShare_1 : decode cX8_paperShare 1 = .ok (.getfield 10, 3) := by decide +kernel
theorem dX8_paperShare_4 : decode cX8_paperShare 4 = .ok (.getfield 90, 3) := by decide +kernel
theorem dX8_paperShare_7 : decode cX8_paperShare 7 = .ok (.invokevirtual 198, 3) := by decide +kernel
theorem dX8_paperShare_10 : decode cX8_paperShare 10 = .ok (.istore_n 1, 1) := by decide +kernel
theorem dX8_paperShare_11 : decode cX8_paperShare 11 = .ok (.iload_n 1, 1) := by decide +kernel
theorem dX8_paperShare_12 : decode cX8_paperShare 12 = .ok (.aload_n 0, 1) := by decide +kernel
theorem dX8_paperShare_13 : decode cX8_paperShare 13 = .ok (.getfield 10, 3) := by decide +kernel
theorem dX8_paperShare_16 : decode cX8_paperShare 16 = .ok (.getfield 90, 3) := by decide +kernel
theorem dX8_paperShare_19 : decode cX8_paperShare 19 = .ok (.getfield 207, 3) := by decide +kernel
theorem dX8_paperShare_22 : decode cX8_paperShare 22 = .ok (.iadd, 1) := by decide +kernel
theorem dX8_paperShare_23 : decode cX8_paperShare 23 = .ok (.istore_n 2, 1) := by decide +kernel
theorem dX8_paperShare_24 : decode cX8_paperShare 24 = .ok (.iload_n 2, 1) := by decide +kernel
theorem dX8_paperShare_25 : decode cX8_paperShare 25 = .ok (.ifCond .ne 5, 3) := by decide +kernel
theorem dX8_paperShare_28 : decode cX8_paperShare 28 = .ok (.fconst 0, 1) := by decide +kernel
theorem dX8_paperShare_29 : decode cX8_paperShare 29 = .ok (.freturn, 1) := by decide +kernel
theorem dX8_paperShare_30 : decode cX8_paperShare 30 = .ok (.iload_n 1, 1) := by decide +kernel
theorem dX8_paperShare_31 : decode cX8_paperShare 31 = .ok (.i2f, 1) := by decide +kernel
theorem dX8_paperShare_32 : decode cX8_paperShare 32 = .ok (.iload_n 2, 1) := by decide +kernel
theorem dX8_paperShare_33 : decode cX8_paperShare 33 = .ok (.i2f, 1) := by decide +kernel
theorem dX8_paperShare_34 : decode cX8_paperShare 34 = .ok (.fdiv, 1) := by decide +kernel
theorem dX8_paperShare_35 : decode cX8_paperShare 35 = .ok (.freturn, 1) := by decide +kernel
def k_X8_paperShare : List pEn := [oAload 0, oGet 8 0, oGet 5 11, oCall 1 F_X0_paperOfAll, oIstore 1, oIload 1, oAload 0, oGet 8 0, oGet 5 11, oGet 0 4, oAdd, oIstore 2, oIload 2, oIfne 16, oFconst0, oFret, oIload 1, oI2f, oIload 2, oI2f, oFdiv, oFret]
def pc_X8_paperShare (i : Nat) : Nat := ([0, 1, 4, 7, 10, 11, 12, 13, 16, 19, 22, 23, 24, 25, 28, 29, 30, 31, 32, 33, 34, 35] : List Nat).getD i 0
abbrev rm_X8_paperShare : Room := { frames := 1, cells := 0, slots := 0, locals := 22 }
theorem pl_X8_paperShare : pPlain yX8_paperShare 0 := by decide +kernel
set_option maxRecDepth 100000 in
set_option maxHeartbeats 4000000 in
theorem ok_k_X8_paperShare (l : Launch) : ∀ (i : Nat) (en : pEn), k_X8_paperShare[i]? = some en → EOK l cX8_paperShare yX8_paperShare.cls 3 ((some FieldType.float)) rm_X8_paperShare 0 pc_X8_paperShare i en := by
  refine allOK_at ?_
  refine And.intro (okAload_n dX8_paperShare_0 rfl rfl) ?_
  refine And.intro (okGet (C := RX8) (T := TX8) (N := 10) dX8_paperShare_1 rfl rfl (by decide) inX8 wm_2_32) ?_
  refine And.intro (okGet (C := RX5) (T := TX5) (N := 15) dX8_paperShare_4 rfl rfl (by decide) inX5 wm_1_173) ?_
  refine And.intro (okCallV (y := yX0_paperOfAll) (T := TX0) (oCall_is _ _ _) dX8_paperShare_7 rfl (ok_F_X0_paperOfAll l) rc_F_X0_paperOfAll rfl wm_3_88 wm_2_214 wm_2_215 wm_1_4 wm_2_216 pl_X0_paperOfAll (by decide)) ?_
  refine And.intro (okIstore_n dX8_paperShare_10 rfl rfl (by decide)) ?_
  refine And.intro (okIload_n dX8_paperShare_11 rfl rfl) ?_
  refine And.intro (okAload_n dX8_paperShare_12 rfl rfl) ?_
  refine And.intro (okGet (C := RX8) (T := TX8) (N := 10) dX8_paperShare_13 rfl rfl (by decide) inX8 wm_2_32) ?_
  refine And.intro (okGet (C := RX5) (T := TX5) (N := 15) dX8_paperShare_16 rfl rfl (by decide) inX5 wm_1_173) ?_
  refine And.intro (okGet (C := RX0) (T := TX0) (N := 6) dX8_paperShare_19 rfl rfl (by decide) inX0 wm_1_67) ?_
  refine And.intro (okAdd dX8_paperShare_22 rfl) ?_
  refine And.intro (okIstore_n dX8_paperShare_23 rfl rfl (by decide)) ?_
  refine And.intro (okIload_n dX8_paperShare_24 rfl rfl) ?_
  refine And.intro (okIfne dX8_paperShare_25 rfl (by rfl)) ?_
  refine And.intro (okFconst0 dX8_paperShare_28 rfl) ?_
  refine And.intro (okFret dX8_paperShare_29 rfl) ?_
  refine And.intro (okIload_n dX8_paperShare_30 rfl rfl) ?_
  refine And.intro (okI2f dX8_paperShare_31 rfl) ?_
  refine And.intro (okIload_n dX8_paperShare_32 rfl rfl) ?_
  refine And.intro (okI2f dX8_paperShare_33 rfl) ?_
  refine And.intro (okFdiv dX8_paperShare_34 rfl) ?_
  refine And.intro (okFret dX8_paperShare_35 rfl) ?_
  exact trivial
def F_X8_paperShare : pF := fun args w rg => match args with
  | [.ref 0] => unB w (fun f x v u => pif (bOK f rg) (some (some (.float (psI (sumP (v 2) 4) (sumP (v 2) 4 + v 0 26))), cw f (x) (v) (u), rg)) none)
  | _ => none
set_option maxHeartbeats 400000 in
set_option maxRecDepth 100000 in
theorem run_X8_paperShare (rg : pRg) (f : Nat → Option Nat) (x v u : pLV)  (hc : bOK f rg) : ∃ fu, ex k_X8_paperShare fu 0 [(0, .ref 0)] [] (cw f x v u) rg = some (some (.float (psI (sumP (v 2) 4) (sumP (v 2) 4 + v 0 26))), cw f (x) (v) (u), rg) := by
  refine ⟨60, ?_⟩
  conv => lhs; whnf
  refine pif_c (fun h => ?_) (fun h => ?_)
  · rw [show psI (sumP (v 2) 4) (sumP (v 2) 4 + v 0 26) = _ from if_pos h]
    rfl
  · rw [show psI (sumP (v 2) 4) (sumP (v 2) 4 + v 0 26) = _ from if_neg h]
    conv => lhs; whnf
    refine (pif_t (fdiv_ok _ _ h)).trans ?_
    rfl
theorem ok_F_X8_paperShare (l : Launch) : pFOK l yX8_paperShare (pWs yX8_paperShare cX8_paperShare 3 ((some FieldType.float))) rm_X8_paperShare F_X8_paperShare := by
  refine pFOK_all fun args w rg v0 w' rg' h => ?_
  unfold F_X8_paperShare at h
  split at h
  next  =>
    obtain ⟨f, x, v, u, hw, h2⟩ := unB_some h
    clear h
    subst hw
    by_cases hc : bOK f rg
    · have h2 := (pif_t hc).symm.trans h2
      cases h2
      exact met_of_ex (by decide) (ok_k_X8_paperShare l) rfl (run_X8_paperShare rg f x v u  hc) (Nat.le_of_ble_eq_true rfl) rfl (Nat.le_of_ble_eq_true rfl) (Nat.le_of_ble_eq_true rfl) (Nat.zero_le _) rfl rfl
    · have h2 := (pif_f hc).symm.trans h2
      cases h2
  next => cases h
theorem rc_F_X8_paperShare : pRcv 8 F_X8_paperShare := by
  intro as w rg o h
  obtain ⟨v0, w', rg'⟩ := o
  unfold F_X8_paperShare at h
  split at h
  next =>
    obtain ⟨f, x, v, u, rfl, -⟩ := unB_some h
    exact ⟨_, _, _, rfl, cellOf_get rfl⟩
  next => cases h
theorem cl_X8_paperShare (f : Nat → Option Nat) (x v u : pLV)  (rg : pRg) (hc : bOK f rg) : F_X8_paperShare [.ref 0] (cw f x v u) rg = some (some (.float (psI (sumP ((NL v) 2) 4) (sumP ((NL v) 2) 4 + (NL v) 0 26))), cw f ((NX x)) ((NL v)) ((NL u)), rg) := pif_t hc
end
