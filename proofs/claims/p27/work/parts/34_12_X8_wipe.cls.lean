noncomputable section
theorem dX8_wipe_0 : decode cX8_wipe 0 = .ok (.aload_n 0, 1) := by decide +kernel
theorem dX8_wipe_1 : decode cX8_wipe 1 = .ok (.getfield 40, 3) := by decide +kernel
theorem dX8_wipe_4 : decode cX8_wipe 4 = .ok (.istore_n 1, 1) := by decide +kernel
theorem dX8_wipe_5 : decode cX8_wipe 5 = .ok (.aload_n 0, 1) := by decide +kernel
theorem dX8_wipe_6 : decode cX8_wipe 6 = .ok (.iconst 0, 1) := by decide +kernel
theorem dX8_wipe_7 : decode cX8_wipe 7 = .ok (.putfield 40, 3) := by decide +kernel
theorem dX8_wipe_10 : decode cX8_wipe 10 = .ok (.iload_n 1, 1) := by decide +kernel
theorem dX8_wipe_11 : decode cX8_wipe 11 = .ok (.ireturn, 1) := by decide +kernel
def k_X8_wipe : List pEn := [oAload 0, oGet 8 6, oIstore 1, oAload 0, oConst (0), oPut 8 6, oIload 1, oIret]
def pc_X8_wipe (i : Nat) : Nat := ([0, 1, 4, 5, 6, 7, 10, 11] : List Nat).getD i 0
abbrev rm_X8_wipe : Room := { frames := 0, cells := 0, slots := 0, locals := 0 }
theorem pl_X8_wipe : pPlain yX8_wipe 0 := by decide +kernel
set_option maxRecDepth 100000 in
set_option maxHeartbeats 4000000 in
theorem ok_k_X8_wipe (l : Launch) : ∀ (i : Nat) (en : pEn), k_X8_wipe[i]? = some en → EOK l cX8_wipe yX8_wipe.cls 2 ((some FieldType.int)) rm_X8_wipe 0 pc_X8_wipe i en := by
  refine allOK_at ?_
  refine And.intro (okAload_n dX8_wipe_0 rfl rfl) ?_
  refine And.intro (okGet (C := RX8) (T := TX8) (N := 10) dX8_wipe_1 rfl rfl (by decide) inX8 wm_2_38) ?_
  refine And.intro (okIstore_n dX8_wipe_4 rfl rfl (by decide)) ?_
  refine And.intro (okAload_n dX8_wipe_5 rfl rfl) ?_
  refine And.intro (okIconst dX8_wipe_6 rfl (by first | rfl | decide)) ?_
  refine And.intro (okPut (C := RX8) (T := TX8) (N := 10) dX8_wipe_7 rfl rfl (by decide) inX8 tyX8_ok nmX8 rfl rfl wm_2_38) ?_
  refine And.intro (okIload_n dX8_wipe_10 rfl rfl) ?_
  refine And.intro (okIret dX8_wipe_11 rfl) ?_
  exact trivial
def F_X8_wipe : pF := fun args w rg => match args with
  | [.ref 0] => unB w (fun f x v u => pif (bOK f rg) (some (some (.int (x 0 0)), cw f (vS x 0 0) (v) (u), rg)) none)
  | _ => none
set_option maxHeartbeats 400000 in
set_option maxRecDepth 100000 in
theorem run_X8_wipe (rg : pRg) (f : Nat → Option Nat) (x v u : pLV)  (hc : bOK f rg) : ∃ fu, ex k_X8_wipe fu 0 [(0, .ref 0)] [] (cw f x v u) rg = some (some (.int (x 0 0)), cw f (vS x 0 0) (v) (u), rg) := by
  refine ⟨60, ?_⟩
  rfl
theorem ok_F_X8_wipe (l : Launch) : pFOK l yX8_wipe (pWs yX8_wipe cX8_wipe 2 ((some FieldType.int))) rm_X8_wipe F_X8_wipe := by
  refine pFOK_all fun args w rg v0 w' rg' h => ?_
  unfold F_X8_wipe at h
  split at h
  next  =>
    obtain ⟨f, x, v, u, hw, h2⟩ := unB_some h
    clear h
    subst hw
    by_cases hc : bOK f rg
    · have h2 := (pif_t hc).symm.trans h2
      cases h2
      exact met_of_ex (by decide) (ok_k_X8_wipe l) rfl (run_X8_wipe rg f x v u  hc) (Nat.le_of_ble_eq_true rfl) rfl (Nat.le_of_ble_eq_true rfl) (Nat.le_of_ble_eq_true rfl) (Nat.zero_le _) rfl rfl
    · have h2 := (pif_f hc).symm.trans h2
      cases h2
  next => cases h
theorem rc_F_X8_wipe : pRcv 8 F_X8_wipe := by
  intro as w rg o h
  obtain ⟨v0, w', rg'⟩ := o
  unfold F_X8_wipe at h
  split at h
  next =>
    obtain ⟨f, x, v, u, rfl, -⟩ := unB_some h
    exact ⟨_, _, _, rfl, cellOf_get rfl⟩
  next => cases h
theorem cl_X8_wipe (f : Nat → Option Nat) (x v u : pLV)  (rg : pRg) (hc : bOK f rg) : F_X8_wipe [.ref 0] (cw f x v u) rg = some (some (.int ((NX x) 0 0)), cw f (vS (NX x) 0 0) ((NL v)) ((NL u)), rg) := pif_t hc
end
