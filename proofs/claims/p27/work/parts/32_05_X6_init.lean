noncomputable section
theorem dX6_init_0 : decode cX6_init 0 = .ok (.aload_n 0, 1) := by decide +kernel
theorem dX6_init_1 : decode cX6_init 1 = .ok (.invokespecial 3, 3) := by decide +kernel
theorem dX6_init_4 : decode cX6_init 4 = .ok (.aload_n 0, 1) := by decide +kernel
theorem dX6_init_5 : decode cX6_init 5 = .ok (.new 9, 3) := by decide +kernel
theorem dX6_init_8 : decode cX6_init 8 = .ok (.dup, 1) := by decide +kernel
theorem dX6_init_9 : decode cX6_init 9 = .ok (.invokespecial 11, 3) := by decide +kernel
theorem dX6_init_12 : decode cX6_init 12 = .ok (.putfield 12, 3) := by decide +kernel
theorem dX6_init_15 : decode cX6_init 15 = .ok (.aload_n 0, 1) := by decide +kernel
theorem dX6_init_16 : decode cX6_init 16 = .ok (.iconst 0, 1) := by decide +kernel
theorem dX6_init_17 : decode cX6_init 17 = .ok (.putfield 18, 3) := by decide +kernel
theorem dX6_init_20 : decode cX6_init 20 = .ok (.aload_n 0, 1) := by decide +kernel
theorem dX6_init_21 : decode cX6_init 21 = .ok (.iconst 0, 1) := by decide +kernel
theorem dX6_init_22 : decode cX6_init 22 = .ok (.putfield 22, 3) := by decide +kernel
theorem dX6_init_25 : decode cX6_init 25 = .ok (.aload_n 0, 1) := by decide +kernel
theorem dX6_init_26 : decode cX6_init 26 = .ok (.iconst 0, 1) := by decide +kernel
theorem dX6_init_27 : decode cX6_init 27 = .ok (.putfield 25, 3) := by decide +kernel
theorem dX6_init_30 : decode cX6_init 30 = .ok (.return_, 1) := by decide +kernel
def k_X6_init : List pEn := [oAload 0, oObjInit, oAload 0, oNew 7 [.null, .null, .null, .int 0] 1, oDup, oCallA 1 5 F_X7_init, oPutFR 6 0, oAload 0, oConst (0), oPut 6 1, oAload 0, oConst (0), oPut 6 2, oAload 0, oConst (0), oPut 6 3, oVret]
def pc_X6_init (i : Nat) : Nat := ([0, 1, 4, 5, 8, 9, 12, 15, 16, 17, 20, 21, 22, 25, 26, 27, 30] : List Nat).getD i 0
abbrev rm_X6_init : Room := { frames := 2, cells := 4, slots := 4000, locals := 41 }
theorem pl_X6_init : pPlain yX6_init 0 := by decide +kernel
set_option maxRecDepth 100000 in
set_option maxHeartbeats 4000000 in
theorem ok_k_X6_init (l : Launch) : ∀ (i : Nat) (en : pEn), k_X6_init[i]? = some en → EOKc l cX6_init yX6_init.cls 1 none rm_X6_init 5 pc_X6_init i en := by
  refine allOK_at ?_
  refine And.intro (EOK.c (okAload_n dX6_init_0 rfl rfl)) ?_
  refine And.intro (EOK.c (okObjInit dX6_init_1 rfl wm_2_13 wm_1_18 wm_1_19 (by decide) (by decide))) ?_
  refine And.intro (EOK.c (okAload_n dX6_init_4 rfl rfl)) ?_
  refine And.intro (EOK.c (okNew (C := RX7) (T := TX7) (N := 4) dX6_init_5 rfl rfl inX7 tyX7_ok wm_2_14 wm_1_104 wm_1_6 (by intro j hj; rcases (show j = 0 ∨ j = 1 ∨ j = 2 ∨ j = 3 by omega) with rfl | rfl | rfl | rfl <;> rfl) (fun _ => rfl) (by decide) (by decide))) ?_
  refine And.intro (EOK.c (okDup dX6_init_8 rfl)) ?_
  refine And.intro (EOK.c (okCallIN (y := yX7_init) (host := "BrokeLoop") (oCallA_is _ _ _) dX6_init_9 rfl (ok_F_X7_init l) (fun _ _ _ _ h => frC_args h) (by decide) wm_1_106 wm_1_6 wm_1_107 rfl pl_X7_init (by decide))) ?_
  refine And.intro (okPutFR (C := RX6) (T := TX6) (N := 4) dX6_init_12 rfl rfl (by decide) inX6 tyX6_ok nmX6 rfl (fun _ => rfl) (fun _ => rfl) rfl rfl wm_2_16) ?_
  refine And.intro (EOK.c (okAload_n dX6_init_15 rfl rfl)) ?_
  refine And.intro (EOK.c (okIconst dX6_init_16 rfl (by first | rfl | decide))) ?_
  refine And.intro (EOK.c (okPut (C := RX6) (T := TX6) (N := 4) dX6_init_17 rfl rfl (by decide) inX6 tyX6_ok nmX6 rfl rfl wm_2_18)) ?_
  refine And.intro (EOK.c (okAload_n dX6_init_20 rfl rfl)) ?_
  refine And.intro (EOK.c (okIconst dX6_init_21 rfl (by first | rfl | decide))) ?_
  refine And.intro (EOK.c (okPut (C := RX6) (T := TX6) (N := 4) dX6_init_22 rfl rfl (by decide) inX6 tyX6_ok nmX6 rfl rfl wm_2_20)) ?_
  refine And.intro (EOK.c (okAload_n dX6_init_25 rfl rfl)) ?_
  refine And.intro (EOK.c (okIconst dX6_init_26 rfl (by first | rfl | decide))) ?_
  refine And.intro (EOK.c (okPut (C := RX6) (T := TX6) (N := 4) dX6_init_27 rfl rfl (by decide) inX6 tyX6_ok nmX6 rfl rfl wm_2_22)) ?_
  refine And.intro (EOK.c (okVret dX6_init_30 rfl)) ?_
  exact trivial
def w0_X6_init : pWd := [.inr (6, [.null, .int 0, .int 0, .int 0])]
def w1_X6_init  : pWd := [.inr (6, [.ref 1, .int 0, .int 0, .int 0]), .inr (7, [.ref 2, .ref 3, .ref 4, .int 0]), .inl (0, 20, .inl z0), .inl (0, 20, .inl z0), .inl (0, 20, .inl z0)]
set_option maxHeartbeats 1000000 in
set_option maxRecDepth 100000 in
theorem run_X6_init (rg : pRg)  : ∃ fu, ex k_X6_init fu 0 [(0, .ref 0)] [] w0_X6_init rg = some (none, w1_X6_init , rg) := by
  refine ⟨3, ?_⟩
  rfl
def G_X6_init : pG := fun args w => match args, w with
  | [.ref 0], [.inr (c, [.null, .int z1, .int z2, .int z3])] => (match Nat.beq c 6 with
    | true => (match zeroB [z1, z2, z3] with
      | true => some (none, w1_X6_init )
      | false => none)
    | false => none)
  | _, _ => none
set_option maxRecDepth 100000 in
set_option maxHeartbeats 4000000 in
theorem ct_X6_init (l : Launch) : ∀ args0 w0 v0 w1 rg, G_X6_init args0 w0 = some (v0, w1) → pCT l yX6_init (pWs yX6_init cX6_init 1 none) rm_X6_init args0 w0 rg (v0, w1, rg) := by
  intro args0 w0 v0 w1 rg h
  unfold G_X6_init at h
  split at h
  next =>
    split at h
    next hb =>
      split at h
      next hz =>
        have hb := Nat.eq_of_beq_eq_true hb
        subst hb
        have hz := zeroB_eq hz
        simp only [List.forall_mem_cons] at hz
        obtain ⟨rfl, rfl, rfl, -⟩ := hz
        cases h
        exact met_of_exc (by decide) rfl (ok_k_X6_init l) rfl (run_X6_init rg ) (Nat.le_of_ble_eq_true rfl) rfl (Nat.le_of_ble_eq_true rfl) (Nat.le_of_ble_eq_true rfl) (Nat.le_of_ble_eq_true rfl) rfl rfl
      next => cases h
    next => cases h
  next => cases h
def F_X6_init : pF := frC G_X6_init
theorem ok_F_X6_init (l : Launch) : pFOK l yX6_init (pWs yX6_init cX6_init 1 none) rm_X6_init F_X6_init := pFOK_frC (fun a b c d h => ct_X6_init l a b c d rg00 h)
end
