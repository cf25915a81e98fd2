noncomputable section
theorem dX0_init_0 : decode cX0_init 0 = .ok (.aload_n 0, 1) := by decide +kernel
theorem dX0_init_1 : decode cX0_init 1 = .ok (.invokespecial 3, 3) := by decide +kernel
theorem dX0_init_4 : decode cX0_init 4 = .ok (.aload_n 0, 1) := by decide +kernel
theorem dX0_init_5 : decode cX0_init 5 = .ok (.iconst 0, 1) := by decide +kernel
theorem dX0_init_6 : decode cX0_init 6 = .ok (.putfield 9, 3) := by decide +kernel
theorem dX0_init_9 : decode cX0_init 9 = .ok (.aload_n 0, 1) := by decide +kernel
theorem dX0_init_10 : decode cX0_init 10 = .ok (.iconst 0, 1) := by decide +kernel
theorem dX0_init_11 : decode cX0_init 11 = .ok (.putfield 15, 3) := by decide +kernel
theorem dX0_init_14 : decode cX0_init 14 = .ok (.aload_n 0, 1) := by decide +kernel
theorem dX0_init_15 : decode cX0_init 15 = .ok (.iconst 0, 1) := by decide +kernel
theorem dX0_init_16 : decode cX0_init 16 = .ok (.putfield 18, 3) := by decide +kernel
theorem dX0_init_19 : decode cX0_init 19 = .ok (.aload_n 0, 1) := by decide +kernel
theorem dX0_init_20 : decode cX0_init 20 = .ok (.iconst 0, 1) := by decide +kernel
theorem dX0_init_21 : decode cX0_init 21 = .ok (.putfield 21, 3) := by decide +kernel
theorem dX0_init_24 : decode cX0_init 24 = .ok (.aload_n 0, 1) := by decide +kernel
theorem dX0_init_25 : decode cX0_init 25 = .ok (.iconst 0, 1) := by decide +kernel
theorem dX0_init_26 : decode cX0_init 26 = .ok (.putfield 24, 3) := by decide +kernel
theorem dX0_init_29 : decode cX0_init 29 = .ok (.aload_n 0, 1) := by decide +kernel
theorem dX0_init_30 : decode cX0_init 30 = .ok (.iconst 4, 1) := by decide +kernel
theorem dX0_init_31 : decode cX0_init 31 = .ok (.newarray .int, 2) := by decide +kernel
theorem dX0_init_33 : decode cX0_init 33 = .ok (.putfield 27, 3) := by decide +kernel
theorem dX0_init_36 : decode cX0_init 36 = .ok (.return_, 1) := by decide +kernel
def k_X0_init : List pEn := [oAload 0, oObjInit, oAload 0, oConst (0), oPut 0 0, oAload 0, oConst (0), oPut 0 1, oAload 0, oConst (0), oPut 0 2, oAload 0, oConst (0), oPut 0 3, oAload 0, oConst (0), oPut 0 4, oAload 0, oConst (4), oNewa 4 1, oPutFR 0 5, oVret]
def pc_X0_init (i : Nat) : Nat := ([0, 1, 4, 5, 6, 9, 10, 11, 14, 15, 16, 19, 20, 21, 24, 25, 26, 29, 30, 31, 33, 36] : List Nat).getD i 0
abbrev rm_X0_init : Room := { frames := 1, cells := 1, slots := 1000, locals := 21 }
theorem pl_X0_init : pPlain yX0_init 0 := by decide +kernel
set_option maxRecDepth 100000 in
set_option maxHeartbeats 4000000 in
theorem ok_k_X0_init (l : Launch) : ∀ (i : Nat) (en : pEn), k_X0_init[i]? = some en → EOKc l cX0_init yX0_init.cls 1 none rm_X0_init 2 pc_X0_init i en := by
  refine allOK_at ?_
  refine And.intro (EOK.c (okAload_n dX0_init_0 rfl rfl)) ?_
  refine And.intro (EOK.c (okObjInit dX0_init_1 rfl wm_1_54 wm_1_18 wm_1_19 (by decide) (by decide))) ?_
  refine And.intro (EOK.c (okAload_n dX0_init_4 rfl rfl)) ?_
  refine And.intro (EOK.c (okIconst dX0_init_5 rfl (by first | rfl | decide))) ?_
  refine And.intro (EOK.c (okPut (C := RX0) (T := TX0) (N := 6) dX0_init_6 rfl rfl (by decide) inX0 tyX0_ok nmX0 rfl rfl wm_1_55)) ?_
  refine And.intro (EOK.c (okAload_n dX0_init_9 rfl rfl)) ?_
  refine And.intro (EOK.c (okIconst dX0_init_10 rfl (by first | rfl | decide))) ?_
  refine And.intro (EOK.c (okPut (C := RX0) (T := TX0) (N := 6) dX0_init_11 rfl rfl (by decide) inX0 tyX0_ok nmX0 rfl rfl wm_1_58)) ?_
  refine And.intro (EOK.c (okAload_n dX0_init_14 rfl rfl)) ?_
  refine And.intro (EOK.c (okIconst dX0_init_15 rfl (by first | rfl | decide))) ?_
  refine And.intro (EOK.c (okPut (C := RX0) (T := TX0) (N := 6) dX0_init_16 rfl rfl (by decide) inX0 tyX0_ok nmX0 rfl rfl wm_1_60)) ?_
  refine And.intro (EOK.c (okAload_n dX0_init_19 rfl rfl)) ?_
  refine And.intro (EOK.c (okIconst dX0_init_20 rfl (by first | rfl | decide))) ?_
  refine And.intro (EOK.c (okPut (C := RX0) (T := TX0) (N := 6) dX0_init_21 rfl rfl (by decide) inX0 tyX0_ok nmX0 rfl rfl wm_1_63)) ?_
  refine And.intro (EOK.c (okAload_n dX0_init_24 rfl rfl)) ?_
  refine And.intro (EOK.c (okIconst dX0_init_25 rfl (by first | rfl | decide))) ?_
  refine And.intro (EOK.c (okPut (C := RX0) (T := TX0) (N := 6) dX0_init_26 rfl rfl (by decide) inX0 tyX0_ok nmX0 rfl rfl wm_1_65)) ?_
  refine And.intro (EOK.c (okAload_n dX0_init_29 rfl rfl)) ?_
  refine And.intro (EOK.c (okIconst dX0_init_30 rfl (by first | rfl | decide))) ?_
  refine And.intro (EOK.c (okNewa dX0_init_31 rfl wm_1_84 (by decide) (by decide))) ?_
  refine And.intro (okPutFR (C := RX0) (T := TX0) (N := 6) dX0_init_33 rfl rfl (by decide) inX0 tyX0_ok nmX0 rfl (fun _ => rfl) (fun _ => rfl) rfl rfl wm_1_68) ?_
  refine And.intro (EOK.c (okVret dX0_init_36 rfl)) ?_
  exact trivial
def w0_X0_init : pWd := [.inr (0, [.int 0, .int 0, .int 0, .int 0, .int 0, .null])]
def w1_X0_init  : pWd := [.inr (0, [.int 0, .int 0, .int 0, .int 0, .int 0, .ref 1]), .inl (0, 4, .inl z0)]
set_option maxHeartbeats 1000000 in
set_option maxRecDepth 100000 in
theorem run_X0_init (rg : pRg)  : ∃ fu, ex k_X0_init fu 0 [(0, .ref 0)] [] w0_X0_init rg = some (none, w1_X0_init , rg) := by
  refine ⟨3, ?_⟩
  rfl
def G_X0_init : pG := fun args w => match args, w with
  | [.ref 0], [.inr (c, [.int z0, .int z1, .int z2, .int z3, .int z4, .null])] => (match Nat.beq c 0 with
    | true => (match zeroB [z0, z1, z2, z3, z4] with
      | true => some (none, w1_X0_init )
      | false => none)
    | false => none)
  | _, _ => none
set_option maxRecDepth 100000 in
set_option maxHeartbeats 4000000 in
theorem ct_X0_init (l : Launch) : ∀ args0 w0 v0 w1 rg, G_X0_init args0 w0 = some (v0, w1) → pCT l yX0_init (pWs yX0_init cX0_init 1 none) rm_X0_init args0 w0 rg (v0, w1, rg) := by
  intro args0 w0 v0 w1 rg h
  unfold G_X0_init at h
  split at h
  next =>
    split at h
    next hb =>
      split at h
      next hz =>
        have hb := Nat.eq_of_beq_eq_true hb
        subst hb
        have hz := zeroB_eq hz
        simp only [List.forall_mem_cons] at hz
        obtain ⟨rfl, rfl, rfl, rfl, rfl, -⟩ := hz
        cases h
        exact met_of_exc (by decide) rfl (ok_k_X0_init l) rfl (run_X0_init rg ) (Nat.le_of_ble_eq_true rfl) rfl (Nat.le_of_ble_eq_true rfl) (Nat.le_of_ble_eq_true rfl) (Nat.le_of_ble_eq_true rfl) rfl rfl
      next => cases h
    next => cases h
  next => cases h
def F_X0_init : pF := frC G_X0_init
theorem ok_F_X0_init (l : Launch) : pFOK l yX0_init (pWs yX0_init cX0_init 1 none) rm_X0_init F_X0_init := pFOK_frC (fun a b c d h => ct_X0_init l a b c d rg00 h)
end
