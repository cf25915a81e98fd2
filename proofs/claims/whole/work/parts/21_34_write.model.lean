noncomputable section
def lOK (m : pLV) : Prop := 0 ≤ m 0 6 ∧ m 0 6 ≤ 120
def wr1 (m : pLV) (c : Int32) : pLV := vS (vA m 4 (upd (m 4) (m 0 6).toNatClampNeg c)) 6 (m 0 6 + 1)
def wrtR (m : pLV) (c : Int32) : Int32 := if inI c 32 126 = 0 then -1 else if m 0 6 = 120 then -3 else m 0 6 + 1
def wrtM (m : pLV) (c : Int32) : pLV := if inI c 32 126 = 0 then m else if m 0 6 = 120 then m else wr1 m c
theorem len_in {x : Int32} (h0 : 0 ≤ x) (h1 : x ≤ 120) (h : ¬ x = 120) : ¬ (x < 0 ∨ 120 ≤ x.toNatClampNeg) := by
  have h2 := clamp_b 120 (n := 120) rfl h1
  have e := nI_ofN h0
  have h3 : x.toNatClampNeg ≠ 120 := fun q => h (by rw [q] at e; exact e)
  rintro (q | q)
  · exact Int32.not_lt.mpr h0 q
  · omega
theorem dX9_write_0 : decode cX9_write 0 = .ok (.iload_n 1, 1) := by decide +kernel
theorem dX9_write_1 : decode cX9_write 1 = .ok (.bipush 32, 2) := by decide +kernel
theorem dX9_write_3 : decode cX9_write 3 = .ok (.bipush 126, 2) := by decide +kernel
theorem dX9_write_5 : decode cX9_write 5 = .ok (.invokestatic 41, 3) := by decide +kernel
theorem dX9_write_8 : decode cX9_write 8 = .ok (.ifCond .ne 5, 3) := by decide +kernel
theorem dX9_write_11 : decode cX9_write 11 = .ok (.iconst (-1), 1) := by decide +kernel
theorem dX9_write_12 : decode cX9_write 12 = .ok (.ireturn, 1) := by decide +kernel
theorem dX9_write_13 : decode cX9_write 13 = .ok (.aload_n 0, 1) := by decide +kernel
theorem dX9_write_14 : decode cX9_write 14 = .ok (.getfield 132, 3) := by decide +kernel
theorem dX9_write_17 : decode cX9_write 17 = .ok (.bipush 120, 2) := by decide +kernel
theorem dX9_write_19 : decode cX9_write 19 = .ok (.if_icmp .ne 6, 3) := by decide +kernel
theorem dX9_write_22 : decode cX9_write 22 = .ok (.bipush (-3), 2) := by decide +kernel
theorem dX9_write_24 : decode cX9_write 24 = .ok (.ireturn, 1) := by decide +kernel
theorem dX9_write_25 : decode cX9_write 25 = .ok (.aload_n 0, 1) := by decide +kernel
theorem dX9_write_26 : decode cX9_write 26 = .ok (.getfield 19, 3) := by decide +kernel
theorem dX9_write_29 : decode cX9_write 29 = .ok (.aload_n 0, 1) := by decide +kernel
theorem dX9_write_30 : decode cX9_write 30 = .ok (.getfield 132, 3) := by decide +kernel
theorem dX9_write_33 : decode cX9_write 33 = .ok (.iload_n 1, 1) := by decide +kernel
theorem dX9_write_34 : decode cX9_write 34 = .ok (.iastore, 1) := by decide +kernel
theorem dX9_write_35 : decode cX9_write 35 = .ok (.aload_n 0, 1) := by decide +kernel
theorem dX9_write_36 : decode cX9_write 36 = .ok (.dup, 1) := by decide +kernel
theorem dX9_write_37 : decode cX9_write 37 = .ok (.getfield 132, 3) := by decide +kernel
theorem dX9_write_40 : decode cX9_write 40 = .ok (.iconst 1, 1) := by decide +kernel
theorem dX9_write_41 : decode cX9_write 41 = .ok (.iadd, 1) := by decide +kernel
theorem dX9_write_42 : decode cX9_write 42 = .ok (.putfield 132, 3) := by decide +kernel
theorem dX9_write_45 : decode cX9_write 45 = .ok (.aload_n 0, 1) := by decide +kernel
theorem dX9_write_46 : decode cX9_write 46 = .ok (.getfield 132, 3) := by decide +kernel
theorem dX9_write_49 : decode cX9_write 49 = .ok (.ireturn, 1) := by decide +kernel
def k_X9_write : List pEn := [oIload 1, oConst (32), oConst (126), oCall 3 F_X9_isIn, oIfne 7, oConst (-1), oIret, oAload 0, oGet 9 6, oConst (120), oCne 13, oConst (-3), oIret, oAload 0, oGet 9 5, oAload 0, oGet 9 6, oIload 1, oIast, oAload 0, oDup, oGet 9 6, oConst (1), oAdd, oPut 9 6, oAload 0, oGet 9 6, oIret]
def pc_X9_write (i : Nat) : Nat := ([0, 1, 3, 5, 8, 11, 12, 13, 14, 17, 19, 22, 24, 25, 26, 29, 30, 33, 34, 35, 36, 37, 40, 41, 42, 45, 46, 49] : List Nat).getD i 0
abbrev rm_X9_write : Room := { frames := 1, cells := 0, slots := 0, locals := 22 }
theorem pl_X9_write : pPlain yX9_write 1 := by decide +kernel
set_option maxRecDepth 100000 in
set_option maxHeartbeats 4000000 in
theorem ok_k_X9_write (l : Launch) : ∀ (i : Nat) (en : pEn), k_X9_write[i]? = some en → EOK l cX9_write yX9_write.cls 2 ((some FieldType.int)) rm_X9_write 0 pc_X9_write i en := by
  refine allOK_at ?_
  refine And.intro (okIload_n dX9_write_0 rfl rfl) ?_
  refine And.intro (okBipush dX9_write_1 rfl (by first | rfl | decide)) ?_
  refine And.intro (okBipush dX9_write_3 rfl (by first | rfl | decide)) ?_
  refine And.intro (okCallS (y := yX9_isIn) (oCall_is _ _ _) dX9_write_5 rfl (ok_F_X9_isIn l) wm_3_223 wm_3_224 wm_1_10 wm_3_225 pl_X9_isIn (by decide)) ?_
  refine And.intro (okIfne dX9_write_8 rfl (by rfl)) ?_
  refine And.intro (okIconst dX9_write_11 rfl (by first | rfl | decide)) ?_
  refine And.intro (okIret dX9_write_12 rfl) ?_
  refine And.intro (okAload_n dX9_write_13 rfl rfl) ?_
  refine And.intro (okGet (C := RX9) (T := TX9) (N := 22) dX9_write_14 rfl rfl (by decide) inX9 wm_3_147) ?_
  refine And.intro (okBipush dX9_write_17 rfl (by first | rfl | decide)) ?_
  refine And.intro (okCne dX9_write_19 rfl (by rfl)) ?_
  refine And.intro (okBipush dX9_write_22 rfl (by first | rfl | decide)) ?_
  refine And.intro (okIret dX9_write_24 rfl) ?_
  refine And.intro (okAload_n dX9_write_25 rfl rfl) ?_
  refine And.intro (okGet (C := RX9) (T := TX9) (N := 22) dX9_write_26 rfl rfl (by decide) inX9 wm_3_146) ?_
  refine And.intro (okAload_n dX9_write_29 rfl rfl) ?_
  refine And.intro (okGet (C := RX9) (T := TX9) (N := 22) dX9_write_30 rfl rfl (by decide) inX9 wm_3_147) ?_
  refine And.intro (okIload_n dX9_write_33 rfl rfl) ?_
  refine And.intro (okIast dX9_write_34 rfl) ?_
  refine And.intro (okAload_n dX9_write_35 rfl rfl) ?_
  refine And.intro (okDup dX9_write_36 rfl) ?_
  refine And.intro (okGet (C := RX9) (T := TX9) (N := 22) dX9_write_37 rfl rfl (by decide) inX9 wm_3_147) ?_
  refine And.intro (okIconst dX9_write_40 rfl (by first | rfl | decide)) ?_
  refine And.intro (okAdd dX9_write_41 rfl) ?_
  refine And.intro (okPut (C := RX9) (T := TX9) (N := 22) dX9_write_42 rfl rfl (by decide) inX9 tyX9_ok nmX9 rfl rfl wm_3_147) ?_
  refine And.intro (okAload_n dX9_write_45 rfl rfl) ?_
  refine And.intro (okGet (C := RX9) (T := TX9) (N := 22) dX9_write_46 rfl rfl (by decide) inX9 wm_3_147) ?_
  refine And.intro (okIret dX9_write_49 rfl) ?_
  exact trivial
def G_X9_write : pG := fun args w => match args with
  | [.ref 0, .int c] => unM w (fun m => pif (lOK m) (some (some (.int (wrtR m c)), mdl (wrtM m c))) none)
  | _ => none
set_option maxHeartbeats 400000 in
set_option maxRecDepth 100000 in
theorem run_X9_write (rg : pRg) (m : pLV) (c : Int32) (hc : lOK m) : ∃ fu, ex k_X9_write fu 0 [(0, .ref 0), (1, .int c)] [] (mdl m) rg = some (some (.int (wrtR m c)), mdl (wrtM m c), rg) := by
  refine ⟨60, ?_⟩
  conv => lhs; whnf
  refine pif_c (fun h0 => ?_) (fun h0 => ?_)
  · rw [show wrtR m c = _ from if_pos h0, show wrtM m c = _ from if_pos h0] <;> rfl
  · conv => lhs; whnf
    refine pif_c (fun h1 => ?_) (fun h1 => ?_)
    · rw [show wrtR m c = _ from (if_neg h0).trans (if_pos h1), show wrtM m c = _ from (if_neg h0).trans (if_pos h1)] <;> rfl
    · rw [show wrtR m c = _ from (if_neg h0).trans (if_neg h1), show wrtM m c = _ from (if_neg h0).trans (if_neg h1)]
      conv => lhs; whnf
      refine (pif_f (len_in hc.1 hc.2 h1)).trans ?_
      rfl
theorem ct_X9_write (l : Launch) : ∀ args0 w0 v0 w1 rg, G_X9_write args0 w0 = some (v0, w1) → pCT l yX9_write (pWs yX9_write cX9_write 2 ((some FieldType.int))) rm_X9_write args0 w0 rg (v0, w1, rg) := by
  intro args0 w0 v0 w1 rg h
  unfold G_X9_write at h
  split at h
  next c =>
    obtain ⟨m, hw, h2⟩ := unM_some h
    clear h
    subst hw
    by_cases hc : lOK m
    · have h2 := (pif_t hc).symm.trans h2
      cases h2
      exact met_of_exM (by decide) (ok_k_X9_write l) rfl (run_X9_write rg m c hc) (Nat.le_of_ble_eq_true rfl) rfl rfl
    · have h2 := (pif_f hc).symm.trans h2
      cases h2
  next => cases h
def F_X9_write : pF := faN G_X9_write
theorem ok_F_X9_write (l : Launch) : pFOK l yX9_write (pWs yX9_write cX9_write 2 ((some FieldType.int))) rm_X9_write F_X9_write := pFOK_fa (fun a b c d rg h => ct_X9_write l a b c d rg h)
theorem rc_F_X9_write : pRcv 9 F_X9_write := pRcv_fa (fun a b c d h => by
  unfold G_X9_write at h
  split at h
  next =>
    obtain ⟨m, rfl, h⟩ := unM_some h
    exact ⟨_, _, _, rfl, rfl⟩
  next => cases h)
theorem cl_X9_write (m : pLV) (c : Int32) (rg : pRg) (hc : lOK (NM m)) : F_X9_write [.ref 0, .int c] (mdl m) rg = some (some (.int (wrtR (NM m) c)), mdl (wrtM (NM m) c), rg) := by
  have h : G_X9_write [.ref 0, .int c] (mdl m) = some (some (.int (wrtR (NM m) c)), mdl (wrtM (NM m) c)) := pif_t hc
  unfold F_X9_write faN
  rw [h]
end
