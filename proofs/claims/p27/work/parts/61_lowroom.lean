noncomputable section
/-! THE LAW'S METHODS OVER INTS -/
def lowI (v n : Int32) : Int32 := (v &&& 2147483647) - (v &&& 2147483647) / n * n
theorem dL_low_0 : decode cL_low 0 = .ok (.iload_n 0, 1) := by decide +kernel
theorem dL_low_1 : decode cL_low 1 = .ok (.ldc 8, 2) := by decide +kernel
theorem dL_low_3 : decode cL_low 3 = .ok (.iand, 1) := by decide +kernel
theorem dL_low_4 : decode cL_low 4 = .ok (.iload_n 1, 1) := by decide +kernel
theorem dL_low_5 : decode cL_low 5 = .ok (.irem, 1) := by decide +kernel
theorem dL_low_6 : decode cL_low 6 = .ok (.ireturn, 1) := by decide +kernel
def k_L_low : List pEn := [oIload 0, oConst (2147483647), oAnd, oIload 1, oRem, oIret]
def pc_L_low (i : Nat) : Nat := ([0, 1, 3, 4, 5, 6] : List Nat).getD i 0
abbrev rm_L_low : Room := { frames := 0, cells := 0, slots := 0, locals := 0 }
theorem pl_L_low : pPlain yL_low 2 := by decide +kernel
set_option maxRecDepth 100000 in
set_option maxHeartbeats 4000000 in
theorem ok_k_L_low (l : Launch) : ∀ (i : Nat) (en : pEn), k_L_low[i]? = some en → EOK l cL_low yL_low.cls 2 ((some FieldType.int)) rm_L_low 0 pc_L_low i en := by
  refine allOK_at ?_
  refine And.intro (okIload_n dL_low_0 rfl rfl) ?_
  refine And.intro (okLdc dL_low_1 rfl wn_2_69) ?_
  refine And.intro (okAnd dL_low_3 rfl) ?_
  refine And.intro (okIload_n dL_low_4 rfl rfl) ?_
  refine And.intro (okRem dL_low_5 rfl) ?_
  refine And.intro (okIret dL_low_6 rfl) ?_
  exact trivial
def F_L_low : pF := fun args w rg => match args with
  | [.int v, .int n] => pif (w.length ≤ 100000 ∧ ¬ n = 0) (some (some (.int (lowI v n)), w, rg)) none
  | _ => none
set_option maxHeartbeats 400000 in
set_option maxRecDepth 100000 in
theorem run_L_low (rg : pRg) (w : pWd) (v n : Int32) (hc : w.length ≤ 100000 ∧ ¬ n = 0) : ∃ fu, ex k_L_low fu 0 [(0, .int v), (1, .int n)] [] w rg = some (some (.int (lowI v n)), w, rg) := by
  refine ⟨40, ?_⟩
  conv => lhs; whnf
  refine (pif_f hc.2).trans ?_
  rfl
theorem ok_F_L_low (l : Launch) : pFOK l yL_low (pWs yL_low cL_low 2 ((some FieldType.int))) rm_L_low F_L_low := by
  refine pFOK_all fun args w rg v0 w' rg' h => ?_
  unfold F_L_low at h
  split at h
  next v n =>
    by_cases hc : w.length ≤ 100000 ∧ ¬ n = 0
    · have h2 := (pif_t hc).symm.trans h
      cases h2
      exact met_of_ex (by decide) (ok_k_L_low l) rfl (run_L_low rg w v n hc) (Nat.le_of_ble_eq_true rfl) rfl (Nat.le_refl _) hc.1 (Nat.zero_le _) (Nat.sub_self _).symm (by rw [Nat.sub_self])
    · have h2 := (pif_f hc).symm.trans h
      cases h2
  next => cases h
theorem cl_L_low (w : pWd) (rg : pRg) (v n : Int32) (hw : w.length ≤ 100000) (hc : ¬ n = 0) : F_L_low [.int v, .int n] w rg = some (some (.int (lowI v n)), w, rg) := pif_t ⟨hw, hc⟩
def roomI (c : Int32) : Int32 := if c = 0 then 20000 else if c = 1 then 30000 else 10000
theorem dL_room_0 : decode cL_room 0 = .ok (.iload_n 0, 1) := by decide +kernel
theorem dL_room_1 : decode cL_room 1 = .ok (.ifCond .ne 9, 3) := by decide +kernel
theorem dL_room_4 : decode cL_room 4 = .ok (.sipush 20000, 3) := by decide +kernel
theorem dL_room_7 : decode cL_room 7 = .ok (.goto 17, 3) := by decide +kernel
theorem dL_room_10 : decode cL_room 10 = .ok (.iload_n 0, 1) := by decide +kernel
theorem dL_room_11 : decode cL_room 11 = .ok (.iconst 1, 1) := by decide +kernel
theorem dL_room_12 : decode cL_room 12 = .ok (.if_icmp .ne 9, 3) := by decide +kernel
theorem dL_room_15 : decode cL_room 15 = .ok (.sipush 30000, 3) := by decide +kernel
theorem dL_room_18 : decode cL_room 18 = .ok (.goto 6, 3) := by decide +kernel
theorem dL_room_21 : decode cL_room 21 = .ok (.sipush 10000, 3) := by decide +kernel
theorem dL_room_24 : decode cL_room 24 = .ok (.ireturn, 1) := by decide +kernel
def k_L_room : List pEn := [oIload 0, oIfne 4, oConst (20000), oGoto 10, oIload 0, oConst (1), oCne 9, oConst (30000), oGoto 10, oConst (10000), oIret]
def pc_L_room (i : Nat) : Nat := ([0, 1, 4, 7, 10, 11, 12, 15, 18, 21, 24] : List Nat).getD i 0
abbrev rm_L_room : Room := { frames := 0, cells := 0, slots := 0, locals := 0 }
theorem pl_L_room : pPlain yL_room 1 := by decide +kernel
set_option maxRecDepth 100000 in
set_option maxHeartbeats 4000000 in
theorem ok_k_L_room (l : Launch) : ∀ (i : Nat) (en : pEn), k_L_room[i]? = some en → EOK l cL_room yL_room.cls 1 ((some FieldType.int)) rm_L_room 0 pc_L_room i en := by
  refine allOK_at ?_
  refine And.intro (okIload_n dL_room_0 rfl rfl) ?_
  refine And.intro (okIfne dL_room_1 rfl (by rfl)) ?_
  refine And.intro (okSipush dL_room_4 rfl (by first | rfl | decide)) ?_
  refine And.intro (okGoto dL_room_7 (by rfl)) ?_
  refine And.intro (okIload_n dL_room_10 rfl rfl) ?_
  refine And.intro (okIconst dL_room_11 rfl (by first | rfl | decide)) ?_
  refine And.intro (okCne dL_room_12 rfl (by rfl)) ?_
  refine And.intro (okSipush dL_room_15 rfl (by first | rfl | decide)) ?_
  refine And.intro (okGoto dL_room_18 (by rfl)) ?_
  refine And.intro (okSipush dL_room_21 rfl (by first | rfl | decide)) ?_
  refine And.intro (okIret dL_room_24 rfl) ?_
  exact trivial
def F_L_room : pF := fun args w rg => match args with
  | [.int c] => pif (w.length ≤ 100000) (some (some (.int (roomI c)), w, rg)) none
  | _ => none
set_option maxHeartbeats 400000 in
set_option maxRecDepth 100000 in
theorem run_L_room (rg : pRg) (w : pWd) (c : Int32) (hc : w.length ≤ 100000) : ∃ fu, ex k_L_room fu 0 [(0, .int c)] [] w rg = some (some (.int (roomI c)), w, rg) := by
  refine ⟨40, ?_⟩
  conv => lhs; whnf
  refine pif_c (fun h => ?_) (fun h => ?_)
  · rw [show roomI c = _ from if_pos h]
    rfl
  · conv => lhs; whnf
    refine pif_c (fun h2 => ?_) (fun h2 => ?_)
    · rw [show roomI c = _ from (if_neg h).trans (if_pos h2)]
      rfl
    · rw [show roomI c = _ from (if_neg h).trans (if_neg h2)]
      rfl
theorem ok_F_L_room (l : Launch) : pFOK l yL_room (pWs yL_room cL_room 1 ((some FieldType.int))) rm_L_room F_L_room := by
  refine pFOK_all fun args w rg v0 w' rg' h => ?_
  unfold F_L_room at h
  split at h
  next c =>
    by_cases hc : w.length ≤ 100000
    · have h2 := (pif_t hc).symm.trans h
      cases h2
      exact met_of_ex (by decide) (ok_k_L_room l) rfl (run_L_room rg w c hc) (Nat.le_of_ble_eq_true rfl) rfl (Nat.le_refl _) hc (Nat.zero_le _) (Nat.sub_self _).symm (by rw [Nat.sub_self])
    · have h2 := (pif_f hc).symm.trans h
      cases h2
  next => cases h
theorem cl_L_room (w : pWd) (rg : pRg) (c : Int32) (hw : w.length ≤ 100000) : F_L_room [.int c] w rg = some (some (.int (roomI c)), w, rg) := pif_t hw
end
