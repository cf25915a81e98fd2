noncomputable section
def fauB (x : pLV) (q : Int32) : Int32 := if q < 0 then -1 else if 1 < q then -1 else if x 0 1 = 0 then -9 else if q = 0 then x 0 1 else x 0 2
theorem dX8_fault_0 : decode cX8_fault 0 = .ok (.iload_n 1, 1) := by decide +kernel
theorem dX8_fault_1 : decode cX8_fault 1 = .ok (.ifCond .lt 8, 3) := by decide +kernel
theorem dX8_fault_4 : decode cX8_fault 4 = .ok (.iload_n 1, 1) := by decide +kernel
theorem dX8_fault_5 : decode cX8_fault 5 = .ok (.iconst 1, 1) := by decide +kernel
theorem dX8_fault_6 : decode cX8_fault 6 = .ok (.if_icmp .le 5, 3) := by decide +kernel
theorem dX8_fault_9 : decode cX8_fault 9 = .ok (.iconst (-1), 1) := by decide +kernel
theorem dX8_fault_10 : decode cX8_fault 10 = .ok (.ireturn, 1) := by decide +kernel
theorem dX8_fault_11 : decode cX8_fault 11 = .ok (.aload_n 0, 1) := by decide +kernel
theorem dX8_fault_12 : decode cX8_fault 12 = .ok (.getfield 51, 3) := by decide +kernel
theorem dX8_fault_15 : decode cX8_fault 15 = .ok (.ifCond .ne 6, 3) := by decide +kernel
theorem dX8_fault_18 : decode cX8_fault 18 = .ok (.bipush (-9), 2) := by decide +kernel
theorem dX8_fault_20 : decode cX8_fault 20 = .ok (.ireturn, 1) := by decide +kernel
theorem dX8_fault_21 : decode cX8_fault 21 = .ok (.iload_n 1, 1) := by decide +kernel
theorem dX8_fault_22 : decode cX8_fault 22 = .ok (.ifCond .ne 10, 3) := by decide +kernel
theorem dX8_fault_25 : decode cX8_fault 25 = .ok (.aload_n 0, 1) := by decide +kernel
theorem dX8_fault_26 : decode cX8_fault 26 = .ok (.getfield 51, 3) := by decide +kernel
theorem dX8_fault_29 : decode cX8_fault 29 = .ok (.goto 7, 3) := by decide +kernel
theorem dX8_fault_32 : decode cX8_fault 32 = .ok (.aload_n 0, 1) := by decide +kernel
theorem dX8_fault_33 : decode cX8_fault 33 = .ok (.getfield 54, 3) := by decide +kernel
theorem dX8_fault_36 : decode cX8_fault 36 = .ok (.ireturn, 1) := by decide +kernel
def k_X8_fault : List pEn := [oIload 1, oIflt 5, oIload 1, oConst (1), oCle 7, oConst (-1), oIret, oAload 0, oGet 8 8, oIfne 12, oConst (-9), oIret, oIload 1, oIfne 17, oAload 0, oGet 8 8, oGoto 19, oAload 0, oGet 8 9, oIret]
def pc_X8_fault (i : Nat) : Nat := ([0, 1, 4, 5, 6, 9, 10, 11, 12, 15, 18, 20, 21, 22, 25, 26, 29, 32, 33, 36] : List Nat).getD i 0
abbrev rm_X8_fault : Room := { frames := 0, cells := 0, slots := 0, locals := 0 }
theorem pl_X8_fault : pPlain yX8_fault 1 := by decide +kernel
set_option maxRecDepth 100000 in
set_option maxHeartbeats 4000000 in
theorem ok_k_X8_fault (l : Launch) : ∀ (i : Nat) (en : pEn), k_X8_fault[i]? = some en → EOK l cX8_fault yX8_fault.cls 2 ((some FieldType.int)) rm_X8_fault 0 pc_X8_fault i en := by
  refine allOK_at ?_
  refine And.intro (okIload_n dX8_fault_0 rfl rfl) ?_
  refine And.intro (okIflt dX8_fault_1 rfl (by rfl)) ?_
  refine And.intro (okIload_n dX8_fault_4 rfl rfl) ?_
  refine And.intro (okIconst dX8_fault_5 rfl (by first | rfl | decide)) ?_
  refine And.intro (okCle dX8_fault_6 rfl (by rfl)) ?_
  refine And.intro (okIconst dX8_fault_9 rfl (by first | rfl | decide)) ?_
  refine And.intro (okIret dX8_fault_10 rfl) ?_
  refine And.intro (okAload_n dX8_fault_11 rfl rfl) ?_
  refine And.intro (okGet (C := RX8) (T := TX8) (N := 10) dX8_fault_12 rfl rfl (by decide) inX8 wm_2_40) ?_
  refine And.intro (okIfne dX8_fault_15 rfl (by rfl)) ?_
  refine And.intro (okBipush dX8_fault_18 rfl (by first | rfl | decide)) ?_
  refine And.intro (okIret dX8_fault_20 rfl) ?_
  refine And.intro (okIload_n dX8_fault_21 rfl rfl) ?_
  refine And.intro (okIfne dX8_fault_22 rfl (by rfl)) ?_
  refine And.intro (okAload_n dX8_fault_25 rfl rfl) ?_
  refine And.intro (okGet (C := RX8) (T := TX8) (N := 10) dX8_fault_26 rfl rfl (by decide) inX8 wm_2_40) ?_
  refine And.intro (okGoto dX8_fault_29 (by rfl)) ?_
  refine And.intro (okAload_n dX8_fault_32 rfl rfl) ?_
  refine And.intro (okGet (C := RX8) (T := TX8) (N := 10) dX8_fault_33 rfl rfl (by decide) inX8 wm_2_41) ?_
  refine And.intro (okIret dX8_fault_36 rfl) ?_
  exact trivial
def F_X8_fault : pF := fun args w rg => match args with
  | [.ref 0, .int q] => unB w (fun f x v u => pif (bOK f rg) (some (some (.int (fauB x q)), cw f (x) (v) (u), rg)) none)
  | _ => none
set_option maxHeartbeats 400000 in
set_option maxRecDepth 100000 in
theorem run_X8_fault (rg : pRg) (f : Nat → Option Nat) (x v u : pLV) (q : Int32) (hc : bOK f rg) : ∃ fu, ex k_X8_fault fu 0 [(0, .ref 0), (1, .int q)] [] (cw f x v u) rg = some (some (.int (fauB x q)), cw f (x) (v) (u), rg) := by
  refine ⟨60, ?_⟩
  conv => lhs; whnf
  refine pif_c (fun p0 => ?_) (fun p0 => ?_)
  · rw [show fauB x q = _ from if_pos p0]
    rfl
  · conv => lhs; whnf
    refine pif_c (fun q1 => ?_) (fun q1 => ?_)
    · have n1 := Int32.not_lt.mpr q1
      conv => lhs; whnf
      refine pif_c (fun p2 => ?_) (fun p2 => ?_)
      · rw [show fauB x q = _ from (if_neg p0).trans ((if_neg n1).trans (if_pos p2))]
        rfl
      · conv => lhs; whnf
        refine pif_c (fun p3 => ?_) (fun p3 => ?_)
        · rw [show fauB x q = _ from (if_neg p0).trans ((if_neg n1).trans ((if_neg p2).trans (if_pos p3)))]
          rfl
        · rw [show fauB x q = _ from (if_neg p0).trans ((if_neg n1).trans ((if_neg p2).trans (if_neg p3)))]
          rfl
    · have p1 := Int32.not_le.mp q1
      rw [show fauB x q = _ from (if_neg p0).trans (if_pos p1)]
      rfl
theorem ok_F_X8_fault (l : Launch) : pFOK l yX8_fault (pWs yX8_fault cX8_fault 2 ((some FieldType.int))) rm_X8_fault F_X8_fault := by
  refine pFOK_all fun args w rg v0 w' rg' h => ?_
  unfold F_X8_fault at h
  split at h
  next q =>
    obtain ⟨f, x, v, u, hw, h2⟩ := unB_some h
    clear h
    subst hw
    by_cases hc : bOK f rg
    · have h2 := (pif_t hc).symm.trans h2
      cases h2
      exact met_of_ex (by decide) (ok_k_X8_fault l) rfl (run_X8_fault rg f x v u q hc) (Nat.le_of_ble_eq_true rfl) rfl (Nat.le_of_ble_eq_true rfl) (Nat.le_of_ble_eq_true rfl) (Nat.zero_le _) rfl rfl
    · have h2 := (pif_f hc).symm.trans h2
      cases h2
  next => cases h
theorem rc_F_X8_fault : pRcv 8 F_X8_fault := by
  intro as w rg o h
  obtain ⟨v0, w', rg'⟩ := o
  unfold F_X8_fault at h
  split at h
  next =>
    obtain ⟨f, x, v, u, rfl, -⟩ := unB_some h
    exact ⟨_, _, _, rfl, cellOf_get rfl⟩
  next => cases h
theorem cl_X8_fault (f : Nat → Option Nat) (x v u : pLV) (q : Int32) (rg : pRg) (hc : bOK f rg) : F_X8_fault [.ref 0, .int q] (cw f x v u) rg = some (some (.int (fauB (NX x) q)), cw f ((NX x)) ((NL v)) ((NL u)), rg) := pif_t hc
end
