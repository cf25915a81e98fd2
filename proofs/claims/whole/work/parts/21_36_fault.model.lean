noncomputable section
def fauR (m : pLV) (q : Int32) : Int32 := if q = 0 then m 0 7 else if q = 1 then m 0 8 else -1
theorem dX9_fault_0 : decode cX9_fault 0 = .ok (.iload_n 1, 1) := by decide +kernel
theorem dX9_fault_1 : decode cX9_fault 1 = .ok (.ifCond .ne 10, 3) := by decide +kernel
theorem dX9_fault_4 : decode cX9_fault 4 = .ok (.aload_n 0, 1) := by decide +kernel
theorem dX9_fault_5 : decode cX9_fault 5 = .ok (.getfield 22, 3) := by decide +kernel
theorem dX9_fault_8 : decode cX9_fault 8 = .ok (.goto 16, 3) := by decide +kernel
theorem dX9_fault_11 : decode cX9_fault 11 = .ok (.iload_n 1, 1) := by decide +kernel
theorem dX9_fault_12 : decode cX9_fault 12 = .ok (.iconst 1, 1) := by decide +kernel
theorem dX9_fault_13 : decode cX9_fault 13 = .ok (.if_icmp .ne 10, 3) := by decide +kernel
theorem dX9_fault_16 : decode cX9_fault 16 = .ok (.aload_n 0, 1) := by decide +kernel
theorem dX9_fault_17 : decode cX9_fault 17 = .ok (.getfield 26, 3) := by decide +kernel
theorem dX9_fault_20 : decode cX9_fault 20 = .ok (.goto 4, 3) := by decide +kernel
theorem dX9_fault_23 : decode cX9_fault 23 = .ok (.iconst (-1), 1) := by decide +kernel
theorem dX9_fault_24 : decode cX9_fault 24 = .ok (.ireturn, 1) := by decide +kernel
def k_X9_fault : List pEn := [oIload 1, oIfne 5, oAload 0, oGet 9 7, oGoto 12, oIload 1, oConst (1), oCne 11, oAload 0, oGet 9 8, oGoto 12, oConst (-1), oIret]
def pc_X9_fault (i : Nat) : Nat := ([0, 1, 4, 5, 8, 11, 12, 13, 16, 17, 20, 23, 24] : List Nat).getD i 0
abbrev rm_X9_fault : Room := { frames := 0, cells := 0, slots := 0, locals := 0 }
theorem pl_X9_fault : pPlain yX9_fault 1 := by decide +kernel
set_option maxRecDepth 100000 in
set_option maxHeartbeats 4000000 in
theorem ok_k_X9_fault (l : Launch) : ∀ (i : Nat) (en : pEn), k_X9_fault[i]? = some en → EOK l cX9_fault yX9_fault.cls 2 ((some FieldType.int)) rm_X9_fault 0 pc_X9_fault i en := by
  refine allOK_at ?_
  refine And.intro (okIload_n dX9_fault_0 rfl rfl) ?_
  refine And.intro (okIfne dX9_fault_1 rfl (by rfl)) ?_
  refine And.intro (okAload_n dX9_fault_4 rfl rfl) ?_
  refine And.intro (okGet (C := RX9) (T := TX9) (N := 22) dX9_fault_5 rfl rfl (by decide) inX9 wm_3_148) ?_
  refine And.intro (okGoto dX9_fault_8 (by rfl)) ?_
  refine And.intro (okIload_n dX9_fault_11 rfl rfl) ?_
  refine And.intro (okIconst dX9_fault_12 rfl (by first | rfl | decide)) ?_
  refine And.intro (okCne dX9_fault_13 rfl (by rfl)) ?_
  refine And.intro (okAload_n dX9_fault_16 rfl rfl) ?_
  refine And.intro (okGet (C := RX9) (T := TX9) (N := 22) dX9_fault_17 rfl rfl (by decide) inX9 wm_3_149) ?_
  refine And.intro (okGoto dX9_fault_20 (by rfl)) ?_
  refine And.intro (okIconst dX9_fault_23 rfl (by first | rfl | decide)) ?_
  refine And.intro (okIret dX9_fault_24 rfl) ?_
  exact trivial
def G_X9_fault : pG := fun args w => match args with
  | [.ref 0, .int q] => unM w (fun m => some (some (.int (fauR m q)), mdl (m)))
  | _ => none
set_option maxHeartbeats 400000 in
set_option maxRecDepth 100000 in
theorem run_X9_fault (rg : pRg) (m : pLV) (q : Int32)  : ∃ fu, ex k_X9_fault fu 0 [(0, .ref 0), (1, .int q)] [] (mdl m) rg = some (some (.int (fauR m q)), mdl (m), rg) := by
  refine ⟨60, ?_⟩
  conv => lhs; whnf
  refine pif_c (fun h => ?_) (fun h => ?_)
  · rw [show fauR m q = _ from if_pos h] <;> rfl
  · conv => lhs; whnf
    refine pif_c (fun h2 => ?_) (fun h2 => ?_)
    · rw [show fauR m q = _ from (if_neg h).trans (if_pos h2)] <;> rfl
    · rw [show fauR m q = _ from (if_neg h).trans (if_neg h2)] <;> rfl
theorem ct_X9_fault (l : Launch) : ∀ args0 w0 v0 w1 rg, G_X9_fault args0 w0 = some (v0, w1) → pCT l yX9_fault (pWs yX9_fault cX9_fault 2 ((some FieldType.int))) rm_X9_fault args0 w0 rg (v0, w1, rg) := by
  intro args0 w0 v0 w1 rg h
  unfold G_X9_fault at h
  split at h
  next q =>
    obtain ⟨m, hw, h2⟩ := unM_some h
    clear h
    subst hw
    cases h2
    exact met_of_exM (by decide) (ok_k_X9_fault l) rfl (run_X9_fault rg m q ) (Nat.le_of_ble_eq_true rfl) rfl rfl
  next => cases h
def F_X9_fault : pF := faN G_X9_fault
theorem ok_F_X9_fault (l : Launch) : pFOK l yX9_fault (pWs yX9_fault cX9_fault 2 ((some FieldType.int))) rm_X9_fault F_X9_fault := pFOK_fa (fun a b c d rg h => ct_X9_fault l a b c d rg h)
theorem rc_F_X9_fault : pRcv 9 F_X9_fault := pRcv_fa (fun a b c d h => by
  unfold G_X9_fault at h
  split at h
  next =>
    obtain ⟨m, rfl, h⟩ := unM_some h
    exact ⟨_, _, _, rfl, rfl⟩
  next => cases h)
theorem cl_X9_fault (m : pLV) (q : Int32) (rg : pRg) : F_X9_fault [.ref 0, .int q] (mdl m) rg = some (some (.int (fauR (NM m) q)), mdl ((NM m)), rg) := rfl
end
