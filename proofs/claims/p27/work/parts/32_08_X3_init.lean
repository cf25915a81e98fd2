noncomputable section
theorem dX3_init_0 : decode cX3_init 0 = .ok (.aload_n 0, 1) := by decide +kernel
theorem dX3_init_1 : decode cX3_init 1 = .ok (.invokespecial 3, 3) := by decide +kernel
theorem dX3_init_4 : decode cX3_init 4 = .ok (.aload_n 0, 1) := by decide +kernel
theorem dX3_init_5 : decode cX3_init 5 = .ok (.bipush 8, 2) := by decide +kernel
theorem dX3_init_7 : decode cX3_init 7 = .ok (.anewarray 9, 3) := by decide +kernel
theorem dX3_init_10 : decode cX3_init 10 = .ok (.putfield 11, 3) := by decide +kernel
theorem dX3_init_13 : decode cX3_init 13 = .ok (.aload_n 0, 1) := by decide +kernel
theorem dX3_init_14 : decode cX3_init 14 = .ok (.iconst 0, 1) := by decide +kernel
theorem dX3_init_15 : decode cX3_init 15 = .ok (.putfield 17, 3) := by decide +kernel
theorem dX3_init_18 : decode cX3_init 18 = .ok (.aload_n 0, 1) := by decide +kernel
theorem dX3_init_19 : decode cX3_init 19 = .ok (.iconst 0, 1) := by decide +kernel
theorem dX3_init_20 : decode cX3_init 20 = .ok (.putfield 21, 3) := by decide +kernel
theorem dX3_init_23 : decode cX3_init 23 = .ok (.iconst 0, 1) := by decide +kernel
theorem dX3_init_24 : decode cX3_init 24 = .ok (.istore_n 1, 1) := by decide +kernel
theorem dX3_init_25 : decode cX3_init 25 = .ok (.iload_n 1, 1) := by decide +kernel
theorem dX3_init_26 : decode cX3_init 26 = .ok (.aload_n 0, 1) := by decide +kernel
theorem dX3_init_27 : decode cX3_init 27 = .ok (.getfield 11, 3) := by decide +kernel
theorem dX3_init_30 : decode cX3_init 30 = .ok (.arraylength, 1) := by decide +kernel
theorem dX3_init_31 : decode cX3_init 31 = .ok (.if_icmp .ge 22, 3) := by decide +kernel
theorem dX3_init_34 : decode cX3_init 34 = .ok (.aload_n 0, 1) := by decide +kernel
theorem dX3_init_35 : decode cX3_init 35 = .ok (.getfield 11, 3) := by decide +kernel
theorem dX3_init_38 : decode cX3_init 38 = .ok (.iload_n 1, 1) := by decide +kernel
theorem dX3_init_39 : decode cX3_init 39 = .ok (.new 9, 3) := by decide +kernel
theorem dX3_init_42 : decode cX3_init 42 = .ok (.dup, 1) := by decide +kernel
theorem dX3_init_43 : decode cX3_init 43 = .ok (.invokespecial 24, 3) := by decide +kernel
theorem dX3_init_46 : decode cX3_init 46 = .ok (.aastore, 1) := by decide +kernel
theorem dX3_init_47 : decode cX3_init 47 = .ok (.iinc 1 1, 3) := by decide +kernel
theorem dX3_init_50 : decode cX3_init 50 = .ok (.goto (-25), 3) := by decide +kernel
theorem dX3_init_53 : decode cX3_init 53 = .ok (.return_, 1) := by decide +kernel
def k_X3_init : List pEn := [oAload 0, oObjInit, oAload 0, oConst (8), oAnewa 8 1, oPutFR 3 0, oAload 0, oConst (0), oPut 3 1, oAload 0, oConst (0), oPut 3 2, oConst (0), oIstore 1, oIload 1, oAload 0, oGet 3 0, oAlenR, oCge 28, oAload 0, oGet 3 0, oIload 1, oNewD 5 [.int 0, .int 0, .int 0, .int 0, .int 0, .int 0, .int 0, .null, .null, .null, .null, .null, .null, .null, .null] 114, oDup, oCallA 1 114 F_X5_init, oAast, oIinc 1 (1), oGoto 14, oVret]
def pc_X3_init (i : Nat) : Nat := ([0, 1, 4, 5, 7, 10, 13, 14, 15, 18, 19, 20, 23, 24, 25, 26, 27, 30, 31, 34, 35, 38, 39, 42, 43, 46, 47, 50, 53] : List Nat).getD i 0
abbrev rm_X3_init : Room := { frames := 3, cells := 113, slots := 113000, locals := 62 }
theorem pl_X3_init : pPlain yX3_init 0 := by decide +kernel
set_option maxRecDepth 100000 in
set_option maxHeartbeats 4000000 in
theorem ok_k_X3_init (l : Launch) : ∀ (i : Nat) (en : pEn), k_X3_init[i]? = some en → EOKc l cX3_init yX3_init.cls 2 none rm_X3_init 114 pc_X3_init i en := by
  refine allOK_at ?_
  refine And.intro (EOK.c (okAload_n dX3_init_0 rfl rfl)) ?_
  refine And.intro (EOK.c (okObjInit dX3_init_1 rfl wm_1_216 wm_1_18 wm_1_19 (by decide) (by decide))) ?_
  refine And.intro (EOK.c (okAload_n dX3_init_4 rfl rfl)) ?_
  refine And.intro (EOK.c (okBipush dX3_init_5 rfl (by first | rfl | decide))) ?_
  refine And.intro (EOK.c (okAnewa dX3_init_7 rfl wm_1_217 (by decide) (by decide))) ?_
  refine And.intro (okPutFR (C := RX3) (T := TX3) (N := 3) dX3_init_10 rfl rfl (by decide) inX3 tyX3_ok nmX3 rfl (fun _ => rfl) (fun _ => rfl) rfl rfl wm_1_220) ?_
  refine And.intro (EOK.c (okAload_n dX3_init_13 rfl rfl)) ?_
  refine And.intro (EOK.c (okIconst dX3_init_14 rfl (by first | rfl | decide))) ?_
  refine And.intro (EOK.c (okPut (C := RX3) (T := TX3) (N := 3) dX3_init_15 rfl rfl (by decide) inX3 tyX3_ok nmX3 rfl rfl wm_1_221)) ?_
  refine And.intro (EOK.c (okAload_n dX3_init_18 rfl rfl)) ?_
  refine And.intro (EOK.c (okIconst dX3_init_19 rfl (by first | rfl | decide))) ?_
  refine And.intro (EOK.c (okPut (C := RX3) (T := TX3) (N := 3) dX3_init_20 rfl rfl (by decide) inX3 tyX3_ok nmX3 rfl rfl wm_1_222)) ?_
  refine And.intro (EOK.c (okIconst dX3_init_23 rfl (by first | rfl | decide))) ?_
  refine And.intro (EOK.c (okIstore_n dX3_init_24 rfl rfl (by decide))) ?_
  refine And.intro (EOK.c (okIload_n dX3_init_25 rfl rfl)) ?_
  refine And.intro (EOK.c (okAload_n dX3_init_26 rfl rfl)) ?_
  refine And.intro (EOK.c (okGet (C := RX3) (T := TX3) (N := 3) dX3_init_27 rfl rfl (by decide) inX3 wm_1_220)) ?_
  refine And.intro (EOK.c (okAlenR dX3_init_30 rfl)) ?_
  refine And.intro (EOK.c (okCge dX3_init_31 rfl (by rfl))) ?_
  refine And.intro (EOK.c (okAload_n dX3_init_34 rfl rfl)) ?_
  refine And.intro (EOK.c (okGet (C := RX3) (T := TX3) (N := 3) dX3_init_35 rfl rfl (by decide) inX3 wm_1_220)) ?_
  refine And.intro (EOK.c (okIload_n dX3_init_38 rfl rfl)) ?_
  refine And.intro (EOK.c (okNewD (C := RX5) (T := TX5) (N := 15) dX3_init_39 rfl rfl inX5 tyX5_ok wm_1_217 wm_1_21 wm_1_2 (by intro j hj; rcases (show j = 0 ∨ j = 1 ∨ j = 2 ∨ j = 3 ∨ j = 4 ∨ j = 5 ∨ j = 6 ∨ j = 7 ∨ j = 8 ∨ j = 9 ∨ j = 10 ∨ j = 11 ∨ j = 12 ∨ j = 13 ∨ j = 14 by omega) with rfl | rfl | rfl | rfl | rfl | rfl | rfl | rfl | rfl | rfl | rfl | rfl | rfl | rfl | rfl <;> rfl) (fun _ => rfl) (by decide))) ?_
  refine And.intro (EOK.c (okDup dX3_init_42 rfl)) ?_
  refine And.intro (EOK.c (okCallI (y := yX5_init) (oCallA_is _ _ _) dX3_init_43 rfl (ok_F_X5_init l) (fun _ _ _ _ h => frC_args h) wm_1_219 wm_1_23 wm_1_2 wm_1_24 rfl pl_X5_init (by decide))) ?_
  refine And.intro (EOK.c (okAast dX3_init_46 rfl)) ?_
  refine And.intro (EOK.c (okIinc dX3_init_47 rfl (by first | rfl | decide) (by decide))) ?_
  refine And.intro (EOK.c (okGoto dX3_init_50 (by rfl))) ?_
  refine And.intro (EOK.c (okVret dX3_init_53 rfl)) ?_
  exact trivial
def hw0 : pWd := .inr (3, [.ref 1, .int 0, .int 0]) :: .inl (1, 8, .inr (.inr (.inr (.inr (fun _ => none))))) :: ([])
def hw1 : pWd := .inr (3, [.ref 1, .int 0, .int 0]) :: .inl (1, 8, .inr (.inr (.inr (.inr (va_up (fun _ => none) 0 (some 2)))))) :: (loopCells 2 iniV ++ [])
def hw2 : pWd := .inr (3, [.ref 1, .int 0, .int 0]) :: .inl (1, 8, .inr (.inr (.inr (.inr (va_up (va_up (fun _ => none) 0 (some 2)) 1 (some 16)))))) :: (loopCells 2 iniV ++ loopCells 16 iniV ++ [])
def hw3 : pWd := .inr (3, [.ref 1, .int 0, .int 0]) :: .inl (1, 8, .inr (.inr (.inr (.inr (va_up (va_up (va_up (fun _ => none) 0 (some 2)) 1 (some 16)) 2 (some 30)))))) :: (loopCells 2 iniV ++ loopCells 16 iniV ++ loopCells 30 iniV ++ [])
def hw4 : pWd := .inr (3, [.ref 1, .int 0, .int 0]) :: .inl (1, 8, .inr (.inr (.inr (.inr (va_up (va_up (va_up (va_up (fun _ => none) 0 (some 2)) 1 (some 16)) 2 (some 30)) 3 (some 44)))))) :: (loopCells 2 iniV ++ loopCells 16 iniV ++ loopCells 30 iniV ++ loopCells 44 iniV ++ [])
def hw5 : pWd := .inr (3, [.ref 1, .int 0, .int 0]) :: .inl (1, 8, .inr (.inr (.inr (.inr (va_up (va_up (va_up (va_up (va_up (fun _ => none) 0 (some 2)) 1 (some 16)) 2 (some 30)) 3 (some 44)) 4 (some 58)))))) :: (loopCells 2 iniV ++ loopCells 16 iniV ++ loopCells 30 iniV ++ loopCells 44 iniV ++ loopCells 58 iniV ++ [])
def hw6 : pWd := .inr (3, [.ref 1, .int 0, .int 0]) :: .inl (1, 8, .inr (.inr (.inr (.inr (va_up (va_up (va_up (va_up (va_up (va_up (fun _ => none) 0 (some 2)) 1 (some 16)) 2 (some 30)) 3 (some 44)) 4 (some 58)) 5 (some 72)))))) :: (loopCells 2 iniV ++ loopCells 16 iniV ++ loopCells 30 iniV ++ loopCells 44 iniV ++ loopCells 58 iniV ++ loopCells 72 iniV ++ [])
def hw7 : pWd := .inr (3, [.ref 1, .int 0, .int 0]) :: .inl (1, 8, .inr (.inr (.inr (.inr (va_up (va_up (va_up (va_up (va_up (va_up (va_up (fun _ => none) 0 (some 2)) 1 (some 16)) 2 (some 30)) 3 (some 44)) 4 (some 58)) 5 (some 72)) 6 (some 86)))))) :: (loopCells 2 iniV ++ loopCells 16 iniV ++ loopCells 30 iniV ++ loopCells 44 iniV ++ loopCells 58 iniV ++ loopCells 72 iniV ++ loopCells 86 iniV ++ [])
def hw8 : pWd := .inr (3, [.ref 1, .int 0, .int 0]) :: .inl (1, 8, .inr (.inr (.inr (.inr (va_up (va_up (va_up (va_up (va_up (va_up (va_up (va_up (fun _ => none) 0 (some 2)) 1 (some 16)) 2 (some 30)) 3 (some 44)) 4 (some 58)) 5 (some 72)) 6 (some 86)) 7 (some 100)))))) :: (loopCells 2 iniV ++ loopCells 16 iniV ++ loopCells 30 iniV ++ loopCells 44 iniV ++ loopCells 58 iniV ++ loopCells 72 iniV ++ loopCells 86 iniV ++ loopCells 100 iniV ++ [])
set_option maxHeartbeats 1000000 in
set_option maxRecDepth 100000 in
theorem lp_hi8 (rg : pRg) : ∃ fu, ex k_X3_init fu 14 [(1, .int 8), (0, .ref 0)] [] hw8 rg = some (none, hw8, rg) := by
  refine ⟨3, ?_⟩
  conv => lhs; whnf
  refine (pif_t (by decide)).trans ?_
  rfl
set_option maxHeartbeats 1000000 in
set_option maxRecDepth 100000 in
theorem lp_hi7 (rg : pRg) : ∃ fu, ex k_X3_init fu 14 [(1, .int 7), (0, .ref 0)] [] hw7 rg = some (none, hw8, rg) := by
  obtain ⟨m, hm⟩ := lp_hi8 rg
  refine ⟨m + 1, ?_⟩
  conv => lhs; whnf
  refine (pif_f (by decide)).trans ?_
  conv => lhs; whnf
  refine (pif_f (by decide)).trans ?_
  exact hm
set_option maxHeartbeats 1000000 in
set_option maxRecDepth 100000 in
theorem lp_hi6 (rg : pRg) : ∃ fu, ex k_X3_init fu 14 [(1, .int 6), (0, .ref 0)] [] hw6 rg = some (none, hw8, rg) := by
  obtain ⟨m, hm⟩ := lp_hi7 rg
  refine ⟨m + 1, ?_⟩
  conv => lhs; whnf
  refine (pif_f (by decide)).trans ?_
  conv => lhs; whnf
  refine (pif_f (by decide)).trans ?_
  exact hm
set_option maxHeartbeats 1000000 in
set_option maxRecDepth 100000 in
theorem lp_hi5 (rg : pRg) : ∃ fu, ex k_X3_init fu 14 [(1, .int 5), (0, .ref 0)] [] hw5 rg = some (none, hw8, rg) := by
  obtain ⟨m, hm⟩ := lp_hi6 rg
  refine ⟨m + 1, ?_⟩
  conv => lhs; whnf
  refine (pif_f (by decide)).trans ?_
  conv => lhs; whnf
  refine (pif_f (by decide)).trans ?_
  exact hm
set_option maxHeartbeats 1000000 in
set_option maxRecDepth 100000 in
theorem lp_hi4 (rg : pRg) : ∃ fu, ex k_X3_init fu 14 [(1, .int 4), (0, .ref 0)] [] hw4 rg = some (none, hw8, rg) := by
  obtain ⟨m, hm⟩ := lp_hi5 rg
  refine ⟨m + 1, ?_⟩
  conv => lhs; whnf
  refine (pif_f (by decide)).trans ?_
  conv => lhs; whnf
  refine (pif_f (by decide)).trans ?_
  exact hm
set_option maxHeartbeats 1000000 in
set_option maxRecDepth 100000 in
theorem lp_hi3 (rg : pRg) : ∃ fu, ex k_X3_init fu 14 [(1, .int 3), (0, .ref 0)] [] hw3 rg = some (none, hw8, rg) := by
  obtain ⟨m, hm⟩ := lp_hi4 rg
  refine ⟨m + 1, ?_⟩
  conv => lhs; whnf
  refine (pif_f (by decide)).trans ?_
  conv => lhs; whnf
  refine (pif_f (by decide)).trans ?_
  exact hm
set_option maxHeartbeats 1000000 in
set_option maxRecDepth 100000 in
theorem lp_hi2 (rg : pRg) : ∃ fu, ex k_X3_init fu 14 [(1, .int 2), (0, .ref 0)] [] hw2 rg = some (none, hw8, rg) := by
  obtain ⟨m, hm⟩ := lp_hi3 rg
  refine ⟨m + 1, ?_⟩
  conv => lhs; whnf
  refine (pif_f (by decide)).trans ?_
  conv => lhs; whnf
  refine (pif_f (by decide)).trans ?_
  exact hm
set_option maxHeartbeats 1000000 in
set_option maxRecDepth 100000 in
theorem lp_hi1 (rg : pRg) : ∃ fu, ex k_X3_init fu 14 [(1, .int 1), (0, .ref 0)] [] hw1 rg = some (none, hw8, rg) := by
  obtain ⟨m, hm⟩ := lp_hi2 rg
  refine ⟨m + 1, ?_⟩
  conv => lhs; whnf
  refine (pif_f (by decide)).trans ?_
  conv => lhs; whnf
  refine (pif_f (by decide)).trans ?_
  exact hm
set_option maxHeartbeats 1000000 in
set_option maxRecDepth 100000 in
theorem lp_hi0 (rg : pRg) : ∃ fu, ex k_X3_init fu 14 [(1, .int 0), (0, .ref 0)] [] hw0 rg = some (none, hw8, rg) := by
  obtain ⟨m, hm⟩ := lp_hi1 rg
  refine ⟨m + 1, ?_⟩
  conv => lhs; whnf
  refine (pif_f (by decide)).trans ?_
  conv => lhs; whnf
  refine (pif_f (by decide)).trans ?_
  exact hm

def w0_X3_init : pWd := [.inr (3, [.null, .int 0, .int 0])]
def w1_X3_init  : pWd := hw8
set_option maxHeartbeats 1000000 in
set_option maxRecDepth 100000 in
theorem run_X3_init (rg : pRg)  : ∃ fu, ex k_X3_init fu 0 [(0, .ref 0)] [] w0_X3_init rg = some (none, w1_X3_init , rg) := by
  exact ex_at (lp_hi0 rg) (fun _ => rfl)
def G_X3_init : pG := fun args w => match args, w with
  | [.ref 0], [.inr (c, [.null, .int z1, .int z2])] => (match Nat.beq c 3 with
    | true => (match zeroB [z1, z2] with
      | true => some (none, w1_X3_init )
      | false => none)
    | false => none)
  | _, _ => none
set_option maxRecDepth 100000 in
set_option maxHeartbeats 4000000 in
theorem ct_X3_init (l : Launch) : ∀ args0 w0 v0 w1 rg, G_X3_init args0 w0 = some (v0, w1) → pCT l yX3_init (pWs yX3_init cX3_init 2 none) rm_X3_init args0 w0 rg (v0, w1, rg) := by
  intro args0 w0 v0 w1 rg h
  unfold G_X3_init at h
  split at h
  next =>
    split at h
    next hb =>
      split at h
      next hz =>
        have hb := Nat.eq_of_beq_eq_true hb
        subst hb
        have hz := zeroB_eq hz
        simp only [List.forall_mem_cons] at hz
        obtain ⟨rfl, rfl, -⟩ := hz
        cases h
        exact met_of_exc (by decide) rfl (ok_k_X3_init l) rfl (run_X3_init rg ) (Nat.le_of_ble_eq_true rfl) rfl (Nat.le_of_ble_eq_true rfl) (Nat.le_of_ble_eq_true rfl) (Nat.le_of_ble_eq_true rfl) rfl rfl
      next => cases h
    next => cases h
  next => cases h
def F_X3_init : pF := frC G_X3_init
theorem ok_F_X3_init (l : Launch) : pFOK l yX3_init (pWs yX3_init cX3_init 2 none) rm_X3_init F_X3_init := pFOK_frC (fun a b c d h => ct_X3_init l a b c d rg00 h)
end
