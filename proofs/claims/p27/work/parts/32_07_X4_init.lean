noncomputable section
theorem dX4_init_0 : decode cX4_init 0 = .ok (.aload_n 0, 1) := by decide +kernel
theorem dX4_init_1 : decode cX4_init 1 = .ok (.invokespecial 1, 3) := by decide +kernel
theorem dX4_init_4 : decode cX4_init 4 = .ok (.aload_n 0, 1) := by decide +kernel
theorem dX4_init_5 : decode cX4_init 5 = .ok (.new 7, 3) := by decide +kernel
theorem dX4_init_8 : decode cX4_init 8 = .ok (.dup, 1) := by decide +kernel
theorem dX4_init_9 : decode cX4_init 9 = .ok (.invokespecial 9, 3) := by decide +kernel
theorem dX4_init_12 : decode cX4_init 12 = .ok (.putfield 10, 3) := by decide +kernel
theorem dX4_init_15 : decode cX4_init 15 = .ok (.aload_n 0, 1) := by decide +kernel
theorem dX4_init_16 : decode cX4_init 16 = .ok (.iconst 0, 1) := by decide +kernel
theorem dX4_init_17 : decode cX4_init 17 = .ok (.putfield 16, 3) := by decide +kernel
theorem dX4_init_20 : decode cX4_init 20 = .ok (.return_, 1) := by decide +kernel
def k_X4_init : List pEn := [oAload 0, oObjInit, oAload 0, oNew 5 [.int 0, .int 0, .int 0, .int 0, .int 0, .int 0, .int 0, .null, .null, .null, .null, .null, .null, .null, .null] 1, oDup, oCallA 1 15 F_X5_init, oPutFR 4 0, oAload 0, oConst (0), oPutB 4 1, oVret]
def pc_X4_init (i : Nat) : Nat := ([0, 1, 4, 5, 8, 9, 12, 15, 16, 17, 20] : List Nat).getD i 0
abbrev rm_X4_init : Room := { frames := 3, cells := 14, slots := 14000, locals := 62 }
theorem pl_X4_init : pPlain yX4_init 0 := by decide +kernel
set_option maxRecDepth 100000 in
set_option maxHeartbeats 4000000 in
theorem ok_k_X4_init (l : Launch) : ∀ (i : Nat) (en : pEn), k_X4_init[i]? = some en → EOKc l cX4_init yX4_init.cls 1 none rm_X4_init 15 pc_X4_init i en := by
  refine allOK_at ?_
  refine And.intro (EOK.c (okAload_n dX4_init_0 rfl rfl)) ?_
  refine And.intro (EOK.c (okObjInit dX4_init_1 rfl wm_1_236 wm_1_18 wm_1_19 (by decide) (by decide))) ?_
  refine And.intro (EOK.c (okAload_n dX4_init_4 rfl rfl)) ?_
  refine And.intro (EOK.c (okNew (C := RX5) (T := TX5) (N := 15) dX4_init_5 rfl rfl inX5 tyX5_ok wm_1_237 wm_1_21 wm_1_2 (by intro j hj; rcases (show j = 0 ∨ j = 1 ∨ j = 2 ∨ j = 3 ∨ j = 4 ∨ j = 5 ∨ j = 6 ∨ j = 7 ∨ j = 8 ∨ j = 9 ∨ j = 10 ∨ j = 11 ∨ j = 12 ∨ j = 13 ∨ j = 14 by omega) with rfl | rfl | rfl | rfl | rfl | rfl | rfl | rfl | rfl | rfl | rfl | rfl | rfl | rfl | rfl <;> rfl) (fun _ => rfl) (by decide) (by decide))) ?_
  refine And.intro (EOK.c (okDup dX4_init_8 rfl)) ?_
  refine And.intro (EOK.c (okCallI (y := yX5_init) (oCallA_is _ _ _) dX4_init_9 rfl (ok_F_X5_init l) (fun _ _ _ _ h => frC_args h) wm_1_238 wm_1_23 wm_1_2 wm_1_24 rfl pl_X5_init (by decide))) ?_
  refine And.intro (okPutFR (C := RX4) (T := TX4) (N := 2) dX4_init_12 rfl rfl (by decide) inX4 tyX4_ok nmX4 rfl (fun _ => rfl) (fun _ => rfl) rfl rfl wm_1_239) ?_
  refine And.intro (EOK.c (okAload_n dX4_init_15 rfl rfl)) ?_
  refine And.intro (EOK.c (okIconst dX4_init_16 rfl (by first | rfl | decide))) ?_
  refine And.intro (EOK.c (okPutB (C := RX4) (T := TX4) (N := 2) dX4_init_17 rfl rfl (by decide) inX4 tyX4_ok nmX4 rfl rfl wm_2_1)) ?_
  refine And.intro (EOK.c (okVret dX4_init_20 rfl)) ?_
  exact trivial
def w0_X4_init : pWd := [.inr (4, [.null, .int 0])]
def w1_X4_init  : pWd := .inr (4, [.ref 1, .int 0]) :: loopCells 1 iniV
set_option maxHeartbeats 1000000 in
set_option maxRecDepth 100000 in
theorem run_X4_init (rg : pRg)  : ∃ fu, ex k_X4_init fu 0 [(0, .ref 0)] [] w0_X4_init rg = some (none, w1_X4_init , rg) := by
  refine ⟨3, ?_⟩
  conv => lhs; whnf
  refine (pif_t (by decide)).trans ?_
  rfl
def G_X4_init : pG := fun args w => match args, w with
  | [.ref 0], [.inr (c, [.null, .int z1])] => (match Nat.beq c 4 with
    | true => (match zeroB [z1] with
      | true => some (none, w1_X4_init )
      | false => none)
    | false => none)
  | _, _ => none
set_option maxRecDepth 100000 in
set_option maxHeartbeats 4000000 in
theorem ct_X4_init (l : Launch) : ∀ args0 w0 v0 w1 rg, G_X4_init args0 w0 = some (v0, w1) → pCT l yX4_init (pWs yX4_init cX4_init 1 none) rm_X4_init args0 w0 rg (v0, w1, rg) := by
  intro args0 w0 v0 w1 rg h
  unfold G_X4_init at h
  split at h
  next =>
    split at h
    next hb =>
      split at h
      next hz =>
        have hb := Nat.eq_of_beq_eq_true hb
        subst hb
        have hz := zeroB_eq hz
        simp only [List.forall_mem_cons] at hz
        obtain ⟨rfl, -⟩ := hz
        cases h
        exact met_of_exc (by decide) rfl (ok_k_X4_init l) rfl (run_X4_init rg ) (Nat.le_of_ble_eq_true rfl) rfl (Nat.le_of_ble_eq_true rfl) (Nat.le_of_ble_eq_true rfl) (Nat.le_of_ble_eq_true rfl) rfl rfl
      next => cases h
    next => cases h
  next => cases h
def F_X4_init : pF := frC G_X4_init
theorem ok_F_X4_init (l : Launch) : pFOK l yX4_init (pWs yX4_init cX4_init 1 none) rm_X4_init F_X4_init := pFOK_frC (fun a b c d h => ct_X4_init l a b c d rg00 h)
end
