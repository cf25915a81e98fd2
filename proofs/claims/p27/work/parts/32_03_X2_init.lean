noncomputable section
theorem dX2_init_0 : decode cX2_init 0 = .ok (.aload_n 0, 1) := by decide +kernel
theorem dX2_init_1 : decode cX2_init 1 = .ok (.invokespecial 3, 3) := by decide +kernel
theorem dX2_init_4 : decode cX2_init 4 = .ok (.aload_n 0, 1) := by decide +kernel
theorem dX2_init_5 : decode cX2_init 5 = .ok (.iconst 0, 1) := by decide +kernel
theorem dX2_init_6 : decode cX2_init 6 = .ok (.putfield 9, 3) := by decide +kernel
theorem dX2_init_9 : decode cX2_init 9 = .ok (.aload_n 0, 1) := by decide +kernel
theorem dX2_init_10 : decode cX2_init 10 = .ok (.bipush 9, 2) := by decide +kernel
theorem dX2_init_12 : decode cX2_init 12 = .ok (.newarray .int, 2) := by decide +kernel
theorem dX2_init_14 : decode cX2_init 14 = .ok (.putfield 15, 3) := by decide +kernel
theorem dX2_init_17 : decode cX2_init 17 = .ok (.aload_n 0, 1) := by decide +kernel
theorem dX2_init_18 : decode cX2_init 18 = .ok (.iconst 0, 1) := by decide +kernel
theorem dX2_init_19 : decode cX2_init 19 = .ok (.putfield 19, 3) := by decide +kernel
theorem dX2_init_22 : decode cX2_init 22 = .ok (.return_, 1) := by decide +kernel
def k_X2_init : List pEn := [oAload 0, oObjInit, oAload 0, oConst (0), oPut 2 0, oAload 0, oConst (9), oNewa 9 1, oPutFR 2 1, oAload 0, oConst (0), oPut 2 2, oVret]
def pc_X2_init (i : Nat) : Nat := ([0, 1, 4, 5, 6, 9, 10, 12, 14, 17, 18, 19, 22] : List Nat).getD i 0
abbrev rm_X2_init : Room := { frames := 1, cells := 1, slots := 1000, locals := 21 }
theorem pl_X2_init : pPlain yX2_init 0 := by decide +kernel
set_option maxRecDepth 100000 in
set_option maxHeartbeats 4000000 in
theorem ok_k_X2_init (l : Launch) : ∀ (i : Nat) (en : pEn), k_X2_init[i]? = some en → EOKc l cX2_init yX2_init.cls 1 none rm_X2_init 2 pc_X2_init i en := by
  refine allOK_at ?_
  refine And.intro (EOK.c (okAload_n dX2_init_0 rfl rfl)) ?_
  refine And.intro (EOK.c (okObjInit dX2_init_1 rfl wm_1_90 wm_1_18 wm_1_19 (by decide) (by decide))) ?_
  refine And.intro (EOK.c (okAload_n dX2_init_4 rfl rfl)) ?_
  refine And.intro (EOK.c (okIconst dX2_init_5 rfl (by first | rfl | decide))) ?_
  refine And.intro (EOK.c (okPut (C := RX2) (T := TX2) (N := 3) dX2_init_6 rfl rfl (by decide) inX2 tyX2_ok nmX2 rfl rfl wm_1_91)) ?_
  refine And.intro (EOK.c (okAload_n dX2_init_9 rfl rfl)) ?_
  refine And.intro (EOK.c (okBipush dX2_init_10 rfl (by first | rfl | decide))) ?_
  refine And.intro (EOK.c (okNewa dX2_init_12 rfl wm_1_84 (by decide) (by decide))) ?_
  refine And.intro (okPutFR (C := RX2) (T := TX2) (N := 3) dX2_init_14 rfl rfl (by decide) inX2 tyX2_ok nmX2 rfl (fun _ => rfl) (fun _ => rfl) rfl rfl wm_1_94) ?_
  refine And.intro (EOK.c (okAload_n dX2_init_17 rfl rfl)) ?_
  refine And.intro (EOK.c (okIconst dX2_init_18 rfl (by first | rfl | decide))) ?_
  refine And.intro (EOK.c (okPut (C := RX2) (T := TX2) (N := 3) dX2_init_19 rfl rfl (by decide) inX2 tyX2_ok nmX2 rfl rfl wm_1_95)) ?_
  refine And.intro (EOK.c (okVret dX2_init_22 rfl)) ?_
  exact trivial
def w0_X2_init : pWd := [.inr (2, [.int 0, .null, .int 0])]
def w1_X2_init  : pWd := [.inr (2, [.int 0, .ref 1, .int 0]), .inl (0, 9, .inl z0)]
set_option maxHeartbeats 1000000 in
set_option maxRecDepth 100000 in
theorem run_X2_init (rg : pRg)  : ∃ fu, ex k_X2_init fu 0 [(0, .ref 0)] [] w0_X2_init rg = some (none, w1_X2_init , rg) := by
  refine ⟨3, ?_⟩
  rfl
def G_X2_init : pG := fun args w => match args, w with
  | [.ref 0], [.inr (c, [.int z0, .null, .int z2])] => (match Nat.beq c 2 with
    | true => (match zeroB [z0, z2] with
      | true => some (none, w1_X2_init )
      | false => none)
    | false => none)
  | _, _ => none
set_option maxRecDepth 100000 in
set_option maxHeartbeats 4000000 in
theorem ct_X2_init (l : Launch) : ∀ args0 w0 v0 w1 rg, G_X2_init args0 w0 = some (v0, w1) → pCT l yX2_init (pWs yX2_init cX2_init 1 none) rm_X2_init args0 w0 rg (v0, w1, rg) := by
  intro args0 w0 v0 w1 rg h
  unfold G_X2_init at h
  split at h
  next =>
    split at h
    next hb =>
      split at h
      next hz =>
        have hb := Nat.eq_of_beq_eq_true hb
        subst hb
        have hz := zeroB_eq hz
        simp only [List.forall_mem_cons] at hz
        obtain ⟨rfl, rfl, -⟩ := hz
        cases h
        exact met_of_exc (by decide) rfl (ok_k_X2_init l) rfl (run_X2_init rg ) (Nat.le_of_ble_eq_true rfl) rfl (Nat.le_of_ble_eq_true rfl) (Nat.le_of_ble_eq_true rfl) (Nat.le_of_ble_eq_true rfl) rfl rfl
      next => cases h
    next => cases h
  next => cases h
def F_X2_init : pF := frC G_X2_init
theorem ok_F_X2_init (l : Launch) : pFOK l yX2_init (pWs yX2_init cX2_init 1 none) rm_X2_init F_X2_init := pFOK_frC (fun a b c d h => ct_X2_init l a b c d rg00 h)
end
