noncomputable section
theorem dX8_paper_0 : decode cX8_paper 0 = .ok (.iload_n 1, 1) := by decide +kernel
theorem dX8_paper_1 : decode cX8_paper 1 = .ok (.ifCond .lt 8, 3) := by decide +kernel
theorem dX8_paper_4 : decode cX8_paper 4 = .ok (.iload_n 1, 1) := by decide +kernel
theorem dX8_paper_5 : decode cX8_paper 5 = .ok (.iconst 4, 1) := by decide +kernel
theorem dX8_paper_6 : decode cX8_paper 6 = .ok (.if_icmp .lt 5, 3) := by decide +kernel
theorem dX8_paper_9 : decode cX8_paper 9 = .ok (.iconst (-1), 1) := by decide +kernel
theorem dX8_paper_10 : decode cX8_paper 10 = .ok (.ireturn, 1) := by decide +kernel
theorem dX8_paper_11 : decode cX8_paper 11 = .ok (.aload_n 0, 1) := by decide +kernel
theorem dX8_paper_12 : decode cX8_paper 12 = .ok (.getfield 10, 3) := by decide +kernel
theorem dX8_paper_15 : decode cX8_paper 15 = .ok (.getfield 90, 3) := by decide +kernel
theorem dX8_paper_18 : decode cX8_paper 18 = .ok (.getfield 210, 3) := by decide +kernel
theorem dX8_paper_21 : decode cX8_paper 21 = .ok (.iload_n 1, 1) := by decide +kernel
theorem dX8_paper_22 : decode cX8_paper 22 = .ok (.iaload, 1) := by decide +kernel
theorem dX8_paper_23 : decode cX8_paper 23 = .ok (.ireturn, 1) := by decide +kernel
def k_X8_paper : List pEn := [oIload 1, oIflt 5, oIload 1, oConst (4), oClt 7, oConst (-1), oIret, oAload 0, oGet 8 0, oGet 5 11, oGet 0 5, oIload 1, oIald, oIret]
def pc_X8_paper (i : Nat) : Nat := ([0, 1, 4, 5, 6, 9, 10, 11, 12, 15, 18, 21, 22, 23] : List Nat).getD i 0
abbrev rm_X8_paper : Room := { frames := 0, cells := 0, slots := 0, locals := 0 }
theorem pl_X8_paper : pPlain yX8_paper 1 := by decide +kernel
set_option maxRecDepth 100000 in
set_option maxHeartbeats 4000000 in
theorem ok_k_X8_paper (l : Launch) : ∀ (i : Nat) (en : pEn), k_X8_paper[i]? = some en → EOK l cX8_paper yX8_paper.cls 2 ((some FieldType.int)) rm_X8_paper 0 pc_X8_paper i en := by
  refine allOK_at ?_
  refine And.intro (okIload_n dX8_paper_0 rfl rfl) ?_
  refine And.intro (okIflt dX8_paper_1 rfl (by rfl)) ?_
  refine And.intro (okIload_n dX8_paper_4 rfl rfl) ?_
  refine And.intro (okIconst dX8_paper_5 rfl (by first | rfl | decide)) ?_
  refine And.intro (okClt dX8_paper_6 rfl (by rfl)) ?_
  refine And.intro (okIconst dX8_paper_9 rfl (by first | rfl | decide)) ?_
  refine And.intro (okIret dX8_paper_10 rfl) ?_
  refine And.intro (okAload_n dX8_paper_11 rfl rfl) ?_
  refine And.intro (okGet (C := RX8) (T := TX8) (N := 10) dX8_paper_12 rfl rfl (by decide) inX8 wm_2_32) ?_
  refine And.intro (okGet (C := RX5) (T := TX5) (N := 15) dX8_paper_15 rfl rfl (by decide) inX5 wm_1_173) ?_
  refine And.intro (okGet (C := RX0) (T := TX0) (N := 6) dX8_paper_18 rfl rfl (by decide) inX0 wm_1_70) ?_
  refine And.intro (okIload_n dX8_paper_21 rfl rfl) ?_
  refine And.intro (okIald dX8_paper_22 rfl) ?_
  refine And.intro (okIret dX8_paper_23 rfl) ?_
  exact trivial
def papB (x v : pLV) (g : Int32) : Int32 := if g < 0 then -1 else if 4 ≤ g then -1 else v 2 g.toNatClampNeg
def F_X8_paper : pF := fun args w rg => match args with
  | [.ref 0, .int g] => unB w (fun f x v u => pif (bOK f rg) (some (some (.int (papB x v g)), cw f (x) (v) (u), rg)) none)
  | _ => none
set_option maxHeartbeats 400000 in
set_option maxRecDepth 100000 in
theorem run_X8_paper (rg : pRg) (f : Nat → Option Nat) (x v u : pLV) (g : Int32) (hc : bOK f rg) : ∃ fu, ex k_X8_paper fu 0 [(0, .ref 0), (1, .int g)] [] (cw f x v u) rg = some (some (.int (papB x v g)), cw f (x) (v) (u), rg) := by
  refine ⟨60, ?_⟩
  conv => lhs; whnf
  refine pif_c (fun p0 => ?_) (fun p0 => ?_)
  · rw [show papB x v g = _ from if_pos p0]
    rfl
  · conv => lhs; whnf
    refine pif_c (fun q1 => ?_) (fun q1 => ?_)
    · have p1 := Int32.not_le.mpr q1
      conv => lhs; whnf
      refine (pif_f (in_of (y := 4) (n := 4) rfl p0 p1)).trans ?_
      rw [show papB x v g = _ from (if_neg p0).trans (if_neg p1)]
      rfl
    · have p1 := Int32.not_lt.mp q1
      rw [show papB x v g = _ from (if_neg p0).trans (if_pos p1)]
      rfl
theorem ok_F_X8_paper (l : Launch) : pFOK l yX8_paper (pWs yX8_paper cX8_paper 2 ((some FieldType.int))) rm_X8_paper F_X8_paper := by
  refine pFOK_all fun args w rg v0 w' rg' h => ?_
  unfold F_X8_paper at h
  split at h
  next g =>
    obtain ⟨f, x, v, u, hw, h2⟩ := unB_some h
    clear h
    subst hw
    by_cases hc : bOK f rg
    · have h2 := (pif_t hc).symm.trans h2
      cases h2
      exact met_of_ex (by decide) (ok_k_X8_paper l) rfl (run_X8_paper rg f x v u g hc) (Nat.le_of_ble_eq_true rfl) rfl (Nat.le_of_ble_eq_true rfl) (Nat.le_of_ble_eq_true rfl) (Nat.zero_le _) rfl rfl
    · have h2 := (pif_f hc).symm.trans h2
      cases h2
  next => cases h
theorem rc_F_X8_paper : pRcv 8 F_X8_paper := by
  intro as w rg o h
  obtain ⟨v0, w', rg'⟩ := o
  unfold F_X8_paper at h
  split at h
  next =>
    obtain ⟨f, x, v, u, rfl, -⟩ := unB_some h
    exact ⟨_, _, _, rfl, cellOf_get rfl⟩
  next => cases h
theorem cl_X8_paper (f : Nat → Option Nat) (x v u : pLV) (g : Int32) (rg : pRg) (hc : bOK f rg) : F_X8_paper [.ref 0, .int g] (cw f x v u) rg = some (some (.int (papB (NX x) (NL v) g)), cw f ((NX x)) ((NL v)) ((NL u)), rg) := pif_t hc
end
