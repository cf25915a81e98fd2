noncomputable section
theorem dX8_imageAt_0 : decode cX8_imageAt 0 = .ok (.iload_n 1, 1) := by decide +kernel
theorem dX8_imageAt_1 : decode cX8_imageAt 1 = .ok (.ifCond .ne 10, 3) := by decide +kernel
theorem dX8_imageAt_4 : decode cX8_imageAt 4 = .ok (.aload_n 0, 1) := by decide +kernel
theorem dX8_imageAt_5 : decode cX8_imageAt 5 = .ok (.getfield 29, 3) := by decide +kernel
theorem dX8_imageAt_8 : decode cX8_imageAt 8 = .ok (.goto 7, 3) := by decide +kernel
theorem dX8_imageAt_11 : decode cX8_imageAt 11 = .ok (.aload_n 0, 1) := by decide +kernel
theorem dX8_imageAt_12 : decode cX8_imageAt 12 = .ok (.getfield 33, 3) := by decide +kernel
theorem dX8_imageAt_15 : decode cX8_imageAt 15 = .ok (.areturn, 1) := by decide +kernel
def k_X8_imageAt : List pEn := [oIload 1, oIfne 5, oAload 0, oGet 8 3, oGoto 7, oAload 0, oGet 8 4, oAret]
def pc_X8_imageAt (i : Nat) : Nat := ([0, 1, 4, 5, 8, 11, 12, 15] : List Nat).getD i 0
abbrev rm_X8_imageAt : Room := { frames := 0, cells := 0, slots := 0, locals := 0 }
theorem pl_X8_imageAt : pPlain yX8_imageAt 1 := by decide +kernel
set_option maxRecDepth 100000 in
set_option maxHeartbeats 4000000 in
theorem ok_k_X8_imageAt (l : Launch) : ∀ (i : Nat) (en : pEn), k_X8_imageAt[i]? = some en → EOK l cX8_imageAt yX8_imageAt.cls 2 ((some (FieldType.object "BrokeLoop$Image"))) rm_X8_imageAt 0 pc_X8_imageAt i en := by
  refine allOK_at ?_
  refine And.intro (okIload_n dX8_imageAt_0 rfl rfl) ?_
  refine And.intro (okIfne dX8_imageAt_1 rfl (by rfl)) ?_
  refine And.intro (okAload_n dX8_imageAt_4 rfl rfl) ?_
  refine And.intro (okGet (C := RX8) (T := TX8) (N := 10) dX8_imageAt_5 rfl rfl (by decide) inX8 wm_2_35) ?_
  refine And.intro (okGoto dX8_imageAt_8 (by rfl)) ?_
  refine And.intro (okAload_n dX8_imageAt_11 rfl rfl) ?_
  refine And.intro (okGet (C := RX8) (T := TX8) (N := 10) dX8_imageAt_12 rfl rfl (by decide) inX8 wm_2_36) ?_
  refine And.intro (okAret dX8_imageAt_15 rfl) ?_
  exact trivial
def imI (i : Int32) : Nat := if i = 0 then 31 else 32
def F_X8_imageAt : pF := fun args w rg => match args with
  | [.ref 0, .int i] => unB w (fun f x v u => pif (bOK f rg) (some (some (.ref (imI i)), cw f (x) (v) (u), rg)) none)
  | _ => none
set_option maxHeartbeats 400000 in
set_option maxRecDepth 100000 in
theorem run_X8_imageAt (rg : pRg) (f : Nat → Option Nat) (x v u : pLV) (i : Int32) (hc : bOK f rg) : ∃ fu, ex k_X8_imageAt fu 0 [(0, .ref 0), (1, .int i)] [] (cw f x v u) rg = some (some (.ref (imI i)), cw f (x) (v) (u), rg) := by
  refine ⟨60, ?_⟩
  conv => lhs; whnf
  refine pif_c (fun h => ?_) (fun h => ?_)
  · rw [show imI i = _ from if_pos h]
    rfl
  · rw [show imI i = _ from if_neg h]
    rfl
theorem ok_F_X8_imageAt (l : Launch) : pFOK l yX8_imageAt (pWs yX8_imageAt cX8_imageAt 2 ((some (FieldType.object "BrokeLoop$Image")))) rm_X8_imageAt F_X8_imageAt := by
  refine pFOK_all fun args w rg v0 w' rg' h => ?_
  unfold F_X8_imageAt at h
  split at h
  next i =>
    obtain ⟨f, x, v, u, hw, h2⟩ := unB_some h
    clear h
    subst hw
    by_cases hc : bOK f rg
    · have h2 := (pif_t hc).symm.trans h2
      cases h2
      exact met_of_ex (by decide) (ok_k_X8_imageAt l) rfl (run_X8_imageAt rg f x v u i hc) (Nat.le_of_ble_eq_true rfl) rfl (Nat.le_of_ble_eq_true rfl) (Nat.le_of_ble_eq_true rfl) (Nat.zero_le _) rfl rfl
    · have h2 := (pif_f hc).symm.trans h2
      cases h2
  next => cases h
theorem rc_F_X8_imageAt : pRcv 8 F_X8_imageAt := by
  intro as w rg o h
  obtain ⟨v0, w', rg'⟩ := o
  unfold F_X8_imageAt at h
  split at h
  next =>
    obtain ⟨f, x, v, u, rfl, -⟩ := unB_some h
    exact ⟨_, _, _, rfl, cellOf_get rfl⟩
  next => cases h
theorem cl_X8_imageAt (f : Nat → Option Nat) (x v u : pLV) (i : Int32) (rg : pRg) (hc : bOK f rg) : F_X8_imageAt [.ref 0, .int i] (cw f x v u) rg = some (some (.ref (imI i)), cw f ((NX x)) ((NL v)) ((NL u)), rg) := pif_t hc
end
