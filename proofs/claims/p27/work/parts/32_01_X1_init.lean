noncomputable section
def zeroB : List Int32 → Bool
  | [] => true
  | x :: l => match decide (x = 0) with
    | true => zeroB l
    | false => false
theorem zeroB_eq : ∀ {l : List Int32}, zeroB l = true → ∀ x ∈ l, 0 = x
  | [], _, _, h => absurd h List.not_mem_nil
  | y :: l, h, x, hx => by
    unfold zeroB at h
    split at h
    next hd =>
      rcases List.mem_cons.mp hx with rfl | hx
      · exact (of_decide_eq_true hd).symm
      · exact zeroB_eq h x hx
    next => cases h
def z0 : Nat → Int32 := fun _ => 0
theorem dX1_init_0 : decode cX1_init 0 = .ok (.aload_n 0, 1) := by decide +kernel
theorem dX1_init_1 : decode cX1_init 1 = .ok (.invokespecial 1, 3) := by decide +kernel
theorem dX1_init_4 : decode cX1_init 4 = .ok (.aload_n 0, 1) := by decide +kernel
theorem dX1_init_5 : decode cX1_init 5 = .ok (.iconst 0, 1) := by decide +kernel
theorem dX1_init_6 : decode cX1_init 6 = .ok (.putfield 7, 3) := by decide +kernel
theorem dX1_init_9 : decode cX1_init 9 = .ok (.aload_n 0, 1) := by decide +kernel
theorem dX1_init_10 : decode cX1_init 10 = .ok (.iconst 0, 1) := by decide +kernel
theorem dX1_init_11 : decode cX1_init 11 = .ok (.putfield 13, 3) := by decide +kernel
theorem dX1_init_14 : decode cX1_init 14 = .ok (.aload_n 0, 1) := by decide +kernel
theorem dX1_init_15 : decode cX1_init 15 = .ok (.iconst 0, 1) := by decide +kernel
theorem dX1_init_16 : decode cX1_init 16 = .ok (.putfield 16, 3) := by decide +kernel
theorem dX1_init_19 : decode cX1_init 19 = .ok (.aload_n 0, 1) := by decide +kernel
theorem dX1_init_20 : decode cX1_init 20 = .ok (.iload_n 1, 1) := by decide +kernel
theorem dX1_init_21 : decode cX1_init 21 = .ok (.putfield 19, 3) := by decide +kernel
theorem dX1_init_24 : decode cX1_init 24 = .ok (.return_, 1) := by decide +kernel
def k_X1_init : List pEn := [oAload 0, oObjInit, oAload 0, oConst (0), oPut 1 1, oAload 0, oConst (0), oPut 1 2, oAload 0, oConst (0), oPut 1 3, oAload 0, oIload 1, oPutF 1 0, oVret]
def pc_X1_init (i : Nat) : Nat := ([0, 1, 4, 5, 6, 9, 10, 11, 14, 15, 16, 19, 20, 21, 24] : List Nat).getD i 0
abbrev rm_X1_init : Room := { frames := 1, cells := 0, slots := 0, locals := 21 }
theorem pl_X1_init : pPlain yX1_init 1 := by decide +kernel
set_option maxRecDepth 100000 in
set_option maxHeartbeats 4000000 in
theorem ok_k_X1_init (l : Launch) : ∀ (i : Nat) (en : pEn), k_X1_init[i]? = some en → EOKc l cX1_init yX1_init.cls 2 none rm_X1_init 1 pc_X1_init i en := by
  refine allOK_at ?_
  refine And.intro (EOK.c (okAload_n dX1_init_0 rfl rfl)) ?_
  refine And.intro (EOK.c (okObjInit dX1_init_1 rfl wm_1_31 wm_1_18 wm_1_19 (by decide) (by decide))) ?_
  refine And.intro (EOK.c (okAload_n dX1_init_4 rfl rfl)) ?_
  refine And.intro (EOK.c (okIconst dX1_init_5 rfl (by first | rfl | decide))) ?_
  refine And.intro (EOK.c (okPut (C := RX1) (T := TX1) (N := 4) dX1_init_6 rfl rfl (by decide) inX1 tyX1_ok nmX1 rfl rfl wm_1_33)) ?_
  refine And.intro (EOK.c (okAload_n dX1_init_9 rfl rfl)) ?_
  refine And.intro (EOK.c (okIconst dX1_init_10 rfl (by first | rfl | decide))) ?_
  refine And.intro (EOK.c (okPut (C := RX1) (T := TX1) (N := 4) dX1_init_11 rfl rfl (by decide) inX1 tyX1_ok nmX1 rfl rfl wm_1_36)) ?_
  refine And.intro (EOK.c (okAload_n dX1_init_14 rfl rfl)) ?_
  refine And.intro (EOK.c (okIconst dX1_init_15 rfl (by first | rfl | decide))) ?_
  refine And.intro (EOK.c (okPut (C := RX1) (T := TX1) (N := 4) dX1_init_16 rfl rfl (by decide) inX1 tyX1_ok nmX1 rfl rfl wm_1_38)) ?_
  refine And.intro (EOK.c (okAload_n dX1_init_19 rfl rfl)) ?_
  refine And.intro (EOK.c (okIload_n dX1_init_20 rfl rfl)) ?_
  refine And.intro (okPutF (C := RX1) (T := TX1) (N := 4) dX1_init_21 rfl rfl (by decide) inX1 tyX1_ok nmX1 rfl rfl rfl wm_1_32) ?_
  refine And.intro (EOK.c (okVret dX1_init_24 rfl)) ?_
  exact trivial
def w0_X1_init : pWd := [.inr (1, [.int 0, .int 0, .int 0, .int 0])]
def w1_X1_init (n : Int32) : pWd := [.inr (1, [.int n, .int 0, .int 0, .int 0])]
set_option maxHeartbeats 1000000 in
set_option maxRecDepth 100000 in
theorem run_X1_init (rg : pRg) (n : Int32) : ∃ fu, ex k_X1_init fu 0 [(0, .ref 0), (1, .int n)] [] w0_X1_init rg = some (none, w1_X1_init n, rg) := by
  refine ⟨3, ?_⟩
  rfl
def G_X1_init : pG := fun args w => match args, w with
  | [.ref 0, .int n], [.inr (c, [.int z0, .int z1, .int z2, .int z3])] => (match Nat.beq c 1 with
    | true => (match zeroB [z0, z1, z2, z3] with
      | true => some (none, w1_X1_init n)
      | false => none)
    | false => none)
  | _, _ => none
set_option maxRecDepth 100000 in
set_option maxHeartbeats 4000000 in
theorem ct_X1_init (l : Launch) : ∀ args0 w0 v0 w1 rg, G_X1_init args0 w0 = some (v0, w1) → pCT l yX1_init (pWs yX1_init cX1_init 2 none) rm_X1_init args0 w0 rg (v0, w1, rg) := by
  intro args0 w0 v0 w1 rg h
  unfold G_X1_init at h
  split at h
  next =>
    split at h
    next hb =>
      split at h
      next hz =>
        have hb := Nat.eq_of_beq_eq_true hb
        subst hb
        have hz := zeroB_eq hz
        simp only [List.forall_mem_cons] at hz
        obtain ⟨rfl, rfl, rfl, rfl, -⟩ := hz
        cases h
        exact met_of_exc (by decide) rfl (ok_k_X1_init l) rfl (run_X1_init rg _) (Nat.le_of_ble_eq_true rfl) rfl (Nat.le_of_ble_eq_true rfl) (Nat.le_of_ble_eq_true rfl) (Nat.le_of_ble_eq_true rfl) rfl rfl
      next => cases h
    next => cases h
  next => cases h
def F_X1_init : pF := frC G_X1_init
theorem ok_F_X1_init (l : Launch) : pFOK l yX1_init (pWs yX1_init cX1_init 2 none) rm_X1_init F_X1_init := pFOK_frC (fun a b c d h => ct_X1_init l a b c d rg00 h)
end
