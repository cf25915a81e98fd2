noncomputable section
theorem dX7_init_0 : decode cX7_init 0 = .ok (.aload_n 0, 1) := by decide +kernel
theorem dX7_init_1 : decode cX7_init 1 = .ok (.invokespecial 3, 3) := by decide +kernel
theorem dX7_init_4 : decode cX7_init 4 = .ok (.aload_n 0, 1) := by decide +kernel
theorem dX7_init_5 : decode cX7_init 5 = .ok (.bipush 20, 2) := by decide +kernel
theorem dX7_init_7 : decode cX7_init 7 = .ok (.newarray .int, 2) := by decide +kernel
theorem dX7_init_9 : decode cX7_init 9 = .ok (.putfield 9, 3) := by decide +kernel
theorem dX7_init_12 : decode cX7_init 12 = .ok (.aload_n 0, 1) := by decide +kernel
theorem dX7_init_13 : decode cX7_init 13 = .ok (.bipush 20, 2) := by decide +kernel
theorem dX7_init_15 : decode cX7_init 15 = .ok (.newarray .int, 2) := by decide +kernel
theorem dX7_init_17 : decode cX7_init 17 = .ok (.putfield 15, 3) := by decide +kernel
theorem dX7_init_20 : decode cX7_init 20 = .ok (.aload_n 0, 1) := by decide +kernel
theorem dX7_init_21 : decode cX7_init 21 = .ok (.bipush 20, 2) := by decide +kernel
theorem dX7_init_23 : decode cX7_init 23 = .ok (.newarray .int, 2) := by decide +kernel
theorem dX7_init_25 : decode cX7_init 25 = .ok (.putfield 18, 3) := by decide +kernel
theorem dX7_init_28 : decode cX7_init 28 = .ok (.aload_n 0, 1) := by decide +kernel
theorem dX7_init_29 : decode cX7_init 29 = .ok (.iconst 0, 1) := by decide +kernel
theorem dX7_init_30 : decode cX7_init 30 = .ok (.putfield 21, 3) := by decide +kernel
theorem dX7_init_33 : decode cX7_init 33 = .ok (.return_, 1) := by decide +kernel
def k_X7_init : List pEn := [oAload 0, oObjInit, oAload 0, oConst (20), oNewa 20 1, oPutFR 7 0, oAload 0, oConst (20), oNewa 20 2, oPutFR 7 1, oAload 0, oConst (20), oNewa 20 3, oPutFR 7 2, oAload 0, oConst (0), oPut 7 3, oVret]
def pc_X7_init (i : Nat) : Nat := ([0, 1, 4, 5, 7, 9, 12, 13, 15, 17, 20, 21, 23, 25, 28, 29, 30, 33] : List Nat).getD i 0
abbrev rm_X7_init : Room := { frames := 1, cells := 3, slots := 3000, locals := 21 }
theorem pl_X7_init : pPlain yX7_init 0 := by decide +kernel
set_option maxRecDepth 100000 in
set_option maxHeartbeats 4000000 in
theorem ok_k_X7_init (l : Launch) : ∀ (i : Nat) (en : pEn), k_X7_init[i]? = some en → EOKc l cX7_init yX7_init.cls 1 none rm_X7_init 4 pc_X7_init i en := by
  refine allOK_at ?_
  refine And.intro (EOK.c (okAload_n dX7_init_0 rfl rfl)) ?_
  refine And.intro (EOK.c (okObjInit dX7_init_1 rfl wm_1_108 wm_1_18 wm_1_19 (by decide) (by decide))) ?_
  refine And.intro (EOK.c (okAload_n dX7_init_4 rfl rfl)) ?_
  refine And.intro (EOK.c (okBipush dX7_init_5 rfl (by first | rfl | decide))) ?_
  refine And.intro (EOK.c (okNewa dX7_init_7 rfl wm_1_84 (by decide) (by decide))) ?_
  refine And.intro (okPutFR (C := RX7) (T := TX7) (N := 4) dX7_init_9 rfl rfl (by decide) inX7 tyX7_ok nmX7 rfl (fun _ => rfl) (fun _ => rfl) rfl rfl wm_1_109) ?_
  refine And.intro (EOK.c (okAload_n dX7_init_12 rfl rfl)) ?_
  refine And.intro (EOK.c (okBipush dX7_init_13 rfl (by first | rfl | decide))) ?_
  refine And.intro (EOK.c (okNewa dX7_init_15 rfl wm_1_84 (by decide) (by decide))) ?_
  refine And.intro (okPutFR (C := RX7) (T := TX7) (N := 4) dX7_init_17 rfl rfl (by decide) inX7 tyX7_ok nmX7 rfl (fun _ => rfl) (fun _ => rfl) rfl rfl wm_1_112) ?_
  refine And.intro (EOK.c (okAload_n dX7_init_20 rfl rfl)) ?_
  refine And.intro (EOK.c (okBipush dX7_init_21 rfl (by first | rfl | decide))) ?_
  refine And.intro (EOK.c (okNewa dX7_init_23 rfl wm_1_84 (by decide) (by decide))) ?_
  refine And.intro (okPutFR (C := RX7) (T := TX7) (N := 4) dX7_init_25 rfl rfl (by decide) inX7 tyX7_ok nmX7 rfl (fun _ => rfl) (fun _ => rfl) rfl rfl wm_1_115) ?_
  refine And.intro (EOK.c (okAload_n dX7_init_28 rfl rfl)) ?_
  refine And.intro (EOK.c (okIconst dX7_init_29 rfl (by first | rfl | decide))) ?_
  refine And.intro (EOK.c (okPut (C := RX7) (T := TX7) (N := 4) dX7_init_30 rfl rfl (by decide) inX7 tyX7_ok nmX7 rfl rfl wm_1_118)) ?_
  refine And.intro (EOK.c (okVret dX7_init_33 rfl)) ?_
  exact trivial
def w0_X7_init : pWd := [.inr (7, [.null, .null, .null, .int 0])]
def w1_X7_init  : pWd := [.inr (7, [.ref 1, .ref 2, .ref 3, .int 0]), .inl (0, 20, .inl z0), .inl (0, 20, .inl z0), .inl (0, 20, .inl z0)]
set_option maxHeartbeats 1000000 in
set_option maxRecDepth 100000 in
theorem run_X7_init (rg : pRg)  : ∃ fu, ex k_X7_init fu 0 [(0, .ref 0)] [] w0_X7_init rg = some (none, w1_X7_init , rg) := by
  refine ⟨3, ?_⟩
  rfl
def G_X7_init : pG := fun args w => match args, w with
  | [.ref 0], [.inr (c, [.null, .null, .null, .int z3])] => (match Nat.beq c 7 with
    | true => (match zeroB [z3] with
      | true => some (none, w1_X7_init )
      | false => none)
    | false => none)
  | _, _ => none
set_option maxRecDepth 100000 in
set_option maxHeartbeats 4000000 in
theorem ct_X7_init (l : Launch) : ∀ args0 w0 v0 w1 rg, G_X7_init args0 w0 = some (v0, w1) → pCT l yX7_init (pWs yX7_init cX7_init 1 none) rm_X7_init args0 w0 rg (v0, w1, rg) := by
  intro args0 w0 v0 w1 rg h
  unfold G_X7_init at h
  split at h
  next =>
    split at h
    next hb =>
      split at h
      next hz =>
        have hb := Nat.eq_of_beq_eq_true hb
        subst hb
        have hz := zeroB_eq hz
        simp only [List.forall_mem_cons] at hz
        obtain ⟨rfl, -⟩ := hz
        cases h
        exact met_of_exc (by decide) rfl (ok_k_X7_init l) rfl (run_X7_init rg ) (Nat.le_of_ble_eq_true rfl) rfl (Nat.le_of_ble_eq_true rfl) (Nat.le_of_ble_eq_true rfl) (Nat.le_of_ble_eq_true rfl) rfl rfl
      next => cases h
    next => cases h
  next => cases h
def F_X7_init : pF := frC G_X7_init
theorem ok_F_X7_init (l : Launch) : pFOK l yX7_init (pWs yX7_init cX7_init 1 none) rm_X7_init F_X7_init := pFOK_frC (fun a b c d h => ct_X7_init l a b c d rg00 h)
end
