noncomputable section
def hsF : Nat → Option Nat := fun i => ((va_up (va_up (va_up (va_up (va_up (va_up (va_up (va_up (fun _ => none) 0 (some 2)) 1 (some 16)) 2 (some 30)) 3 (some 44)) 4 (some 58)) 5 (some 72)) 6 (some 86)) 7 (some 100)) i).map (shQ 29)
theorem dX8_init_0 : decode cX8_init 0 = .ok (.aload_n 0, 1) := by decide +kernel
theorem dX8_init_1 : decode cX8_init 1 = .ok (.invokespecial 1, 3) := by decide +kernel
theorem dX8_init_4 : decode cX8_init 4 = .ok (.aload_n 0, 1) := by decide +kernel
theorem dX8_init_5 : decode cX8_init 5 = .ok (.new 7, 3) := by decide +kernel
theorem dX8_init_8 : decode cX8_init 8 = .ok (.dup, 1) := by decide +kernel
theorem dX8_init_9 : decode cX8_init 9 = .ok (.invokespecial 9, 3) := by decide +kernel
theorem dX8_init_12 : decode cX8_init 12 = .ok (.putfield 10, 3) := by decide +kernel
theorem dX8_init_15 : decode cX8_init 15 = .ok (.aload_n 0, 1) := by decide +kernel
theorem dX8_init_16 : decode cX8_init 16 = .ok (.new 7, 3) := by decide +kernel
theorem dX8_init_19 : decode cX8_init 19 = .ok (.dup, 1) := by decide +kernel
theorem dX8_init_20 : decode cX8_init 20 = .ok (.invokespecial 9, 3) := by decide +kernel
theorem dX8_init_23 : decode cX8_init 23 = .ok (.putfield 16, 3) := by decide +kernel
theorem dX8_init_26 : decode cX8_init 26 = .ok (.aload_n 0, 1) := by decide +kernel
theorem dX8_init_27 : decode cX8_init 27 = .ok (.new 19, 3) := by decide +kernel
theorem dX8_init_30 : decode cX8_init 30 = .ok (.dup, 1) := by decide +kernel
theorem dX8_init_31 : decode cX8_init 31 = .ok (.invokespecial 21, 3) := by decide +kernel
theorem dX8_init_34 : decode cX8_init 34 = .ok (.putfield 22, 3) := by decide +kernel
theorem dX8_init_37 : decode cX8_init 37 = .ok (.aload_n 0, 1) := by decide +kernel
theorem dX8_init_38 : decode cX8_init 38 = .ok (.new 26, 3) := by decide +kernel
theorem dX8_init_41 : decode cX8_init 41 = .ok (.dup, 1) := by decide +kernel
theorem dX8_init_42 : decode cX8_init 42 = .ok (.invokespecial 28, 3) := by decide +kernel
theorem dX8_init_45 : decode cX8_init 45 = .ok (.putfield 29, 3) := by decide +kernel
theorem dX8_init_48 : decode cX8_init 48 = .ok (.aload_n 0, 1) := by decide +kernel
theorem dX8_init_49 : decode cX8_init 49 = .ok (.new 26, 3) := by decide +kernel
theorem dX8_init_52 : decode cX8_init 52 = .ok (.dup, 1) := by decide +kernel
theorem dX8_init_53 : decode cX8_init 53 = .ok (.invokespecial 28, 3) := by decide +kernel
theorem dX8_init_56 : decode cX8_init 56 = .ok (.putfield 33, 3) := by decide +kernel
theorem dX8_init_59 : decode cX8_init 59 = .ok (.aload_n 0, 1) := by decide +kernel
theorem dX8_init_60 : decode cX8_init 60 = .ok (.bipush 120, 2) := by decide +kernel
theorem dX8_init_62 : decode cX8_init 62 = .ok (.newarray .int, 2) := by decide +kernel
theorem dX8_init_64 : decode cX8_init 64 = .ok (.putfield 36, 3) := by decide +kernel
theorem dX8_init_67 : decode cX8_init 67 = .ok (.aload_n 0, 1) := by decide +kernel
theorem dX8_init_68 : decode cX8_init 68 = .ok (.iconst 0, 1) := by decide +kernel
theorem dX8_init_69 : decode cX8_init 69 = .ok (.putfield 40, 3) := by decide +kernel
theorem dX8_init_72 : decode cX8_init 72 = .ok (.aload_n 0, 1) := by decide +kernel
theorem dX8_init_73 : decode cX8_init 73 = .ok (.new 44, 3) := by decide +kernel
theorem dX8_init_76 : decode cX8_init 76 = .ok (.dup, 1) := by decide +kernel
theorem dX8_init_77 : decode cX8_init 77 = .ok (.invokespecial 46, 3) := by decide +kernel
theorem dX8_init_80 : decode cX8_init 80 = .ok (.putfield 47, 3) := by decide +kernel
theorem dX8_init_83 : decode cX8_init 83 = .ok (.aload_n 0, 1) := by decide +kernel
theorem dX8_init_84 : decode cX8_init 84 = .ok (.iconst 0, 1) := by decide +kernel
theorem dX8_init_85 : decode cX8_init 85 = .ok (.putfield 51, 3) := by decide +kernel
theorem dX8_init_88 : decode cX8_init 88 = .ok (.aload_n 0, 1) := by decide +kernel
theorem dX8_init_89 : decode cX8_init 89 = .ok (.iconst 0, 1) := by decide +kernel
theorem dX8_init_90 : decode cX8_init 90 = .ok (.putfield 54, 3) := by decide +kernel
theorem dX8_init_93 : decode cX8_init 93 = .ok (.return_, 1) := by decide +kernel
def k_X8_init : List pEn := [oAload 0, oObjInit, oAload 0, oNew 5 [.int 0, .int 0, .int 0, .int 0, .int 0, .int 0, .int 0, .null, .null, .null, .null, .null, .null, .null, .null] 1, oDup, oCallA 1 179 F_X5_init, oPutFR 8 0, oAload 0, oNew 5 [.int 0, .int 0, .int 0, .int 0, .int 0, .int 0, .int 0, .null, .null, .null, .null, .null, .null, .null, .null] 15, oDup, oCallA 1 179 F_X5_init, oPutFR 8 1, oAload 0, oNew 3 [.null, .int 0, .int 0] 29, oDup, oCallA 1 179 F_X3_init, oPutFR 8 2, oAload 0, oNew 4 [.null, .int 0] 143, oDup, oCallA 1 179 F_X4_init, oPutFR 8 3, oAload 0, oNew 4 [.null, .int 0] 158, oDup, oCallA 1 179 F_X4_init, oPutFR 8 4, oAload 0, oConst (120), oNewa 120 173, oPutFR 8 5, oAload 0, oConst (0), oPut 8 6, oAload 0, oNew 6 [.null, .int 0, .int 0, .int 0] 174, oDup, oCallA 1 179 F_X6_init, oPutFR 8 7, oAload 0, oConst (0), oPut 8 8, oAload 0, oConst (0), oPut 8 9, oVret]
def pc_X8_init (i : Nat) : Nat := ([0, 1, 4, 5, 8, 9, 12, 15, 16, 19, 20, 23, 26, 27, 30, 31, 34, 37, 38, 41, 42, 45, 48, 49, 52, 53, 56, 59, 60, 62, 64, 67, 68, 69, 72, 73, 76, 77, 80, 83, 84, 85, 88, 89, 90, 93] : List Nat).getD i 0
abbrev rm_X8_init : Room := { frames := 4, cells := 178, slots := 178000, locals := 83 }
theorem pl_X8_init : pPlain yX8_init 0 := by decide +kernel
set_option maxRecDepth 100000 in
set_option maxHeartbeats 4000000 in
theorem ok_k_X8_init (l : Launch) : ∀ (i : Nat) (en : pEn), k_X8_init[i]? = some en → EOKc l cX8_init yX8_init.cls 1 none rm_X8_init 179 pc_X8_init i en := by
  refine allOK_at ?_
  refine And.intro (EOK.c (okAload_n dX8_init_0 rfl rfl)) ?_
  refine And.intro (EOK.c (okObjInit dX8_init_1 rfl wm_1_17 wm_1_18 wm_1_19 (by decide) (by decide))) ?_
  refine And.intro (EOK.c (okAload_n dX8_init_4 rfl rfl)) ?_
  refine And.intro (EOK.c (okNew (C := RX5) (T := TX5) (N := 15) dX8_init_5 rfl rfl inX5 tyX5_ok wm_1_20 wm_1_21 wm_1_2 (by intro j hj; rcases (show j = 0 ∨ j = 1 ∨ j = 2 ∨ j = 3 ∨ j = 4 ∨ j = 5 ∨ j = 6 ∨ j = 7 ∨ j = 8 ∨ j = 9 ∨ j = 10 ∨ j = 11 ∨ j = 12 ∨ j = 13 ∨ j = 14 by omega) with rfl | rfl | rfl | rfl | rfl | rfl | rfl | rfl | rfl | rfl | rfl | rfl | rfl | rfl | rfl <;> rfl) (fun _ => rfl) (by decide) (by decide))) ?_
  refine And.intro (EOK.c (okDup dX8_init_8 rfl)) ?_
  refine And.intro (EOK.c (okCallI (y := yX5_init) (oCallA_is _ _ _) dX8_init_9 rfl (ok_F_X5_init l) (fun _ _ _ _ h => frC_args h) wm_1_22 wm_1_23 wm_1_2 wm_1_24 rfl pl_X5_init (by decide))) ?_
  refine And.intro (okPutFR (C := RX8) (T := TX8) (N := 10) dX8_init_12 rfl rfl (by decide) inX8 tyX8_ok nmX8 rfl (fun _ => rfl) (fun _ => rfl) rfl rfl wm_2_32) ?_
  refine And.intro (EOK.c (okAload_n dX8_init_15 rfl rfl)) ?_
  refine And.intro (EOK.c (okNew (C := RX5) (T := TX5) (N := 15) dX8_init_16 rfl rfl inX5 tyX5_ok wm_1_20 wm_1_21 wm_1_2 (by intro j hj; rcases (show j = 0 ∨ j = 1 ∨ j = 2 ∨ j = 3 ∨ j = 4 ∨ j = 5 ∨ j = 6 ∨ j = 7 ∨ j = 8 ∨ j = 9 ∨ j = 10 ∨ j = 11 ∨ j = 12 ∨ j = 13 ∨ j = 14 by omega) with rfl | rfl | rfl | rfl | rfl | rfl | rfl | rfl | rfl | rfl | rfl | rfl | rfl | rfl | rfl <;> rfl) (fun _ => rfl) (by decide) (by decide))) ?_
  refine And.intro (EOK.c (okDup dX8_init_19 rfl)) ?_
  refine And.intro (EOK.c (okCallI (y := yX5_init) (oCallA_is _ _ _) dX8_init_20 rfl (ok_F_X5_init l) (fun _ _ _ _ h => frC_args h) wm_1_22 wm_1_23 wm_1_2 wm_1_24 rfl pl_X5_init (by decide))) ?_
  refine And.intro (okPutFR (C := RX8) (T := TX8) (N := 10) dX8_init_23 rfl rfl (by decide) inX8 tyX8_ok nmX8 rfl (fun _ => rfl) (fun _ => rfl) rfl rfl wm_2_33) ?_
  refine And.intro (EOK.c (okAload_n dX8_init_26 rfl rfl)) ?_
  refine And.intro (EOK.c (okNew (C := RX3) (T := TX3) (N := 3) dX8_init_27 rfl rfl inX3 tyX3_ok wm_1_211 wm_1_212 wm_1_7 (by intro j hj; rcases (show j = 0 ∨ j = 1 ∨ j = 2 by omega) with rfl | rfl | rfl <;> rfl) (fun _ => rfl) (by decide) (by decide))) ?_
  refine And.intro (EOK.c (okDup dX8_init_30 rfl)) ?_
  refine And.intro (EOK.c (okCallI (y := yX3_init) (oCallA_is _ _ _) dX8_init_31 rfl (ok_F_X3_init l) (fun _ _ _ _ h => frC_args h) wm_1_213 wm_1_214 wm_1_7 wm_1_215 rfl pl_X3_init (by decide))) ?_
  refine And.intro (okPutFR (C := RX8) (T := TX8) (N := 10) dX8_init_34 rfl rfl (by decide) inX8 tyX8_ok nmX8 rfl (fun _ => rfl) (fun _ => rfl) rfl rfl wm_2_34) ?_
  refine And.intro (EOK.c (okAload_n dX8_init_37 rfl rfl)) ?_
  refine And.intro (EOK.c (okNew (C := RX4) (T := TX4) (N := 2) dX8_init_38 rfl rfl inX4 tyX4_ok wm_1_231 wm_1_232 wm_1_8 (by intro j hj; rcases (show j = 0 ∨ j = 1 by omega) with rfl | rfl <;> rfl) (fun _ => rfl) (by decide) (by decide))) ?_
  refine And.intro (EOK.c (okDup dX8_init_41 rfl)) ?_
  refine And.intro (EOK.c (okCallIN (y := yX4_init) (host := "BrokeLoop") (oCallA_is _ _ _) dX8_init_42 rfl (ok_F_X4_init l) (fun _ _ _ _ h => frC_args h) (by decide) wm_1_234 wm_1_8 wm_1_235 rfl pl_X4_init (by decide))) ?_
  refine And.intro (okPutFR (C := RX8) (T := TX8) (N := 10) dX8_init_45 rfl rfl (by decide) inX8 tyX8_ok nmX8 rfl (fun _ => rfl) (fun _ => rfl) rfl rfl wm_2_35) ?_
  refine And.intro (EOK.c (okAload_n dX8_init_48 rfl rfl)) ?_
  refine And.intro (EOK.c (okNew (C := RX4) (T := TX4) (N := 2) dX8_init_49 rfl rfl inX4 tyX4_ok wm_1_231 wm_1_232 wm_1_8 (by intro j hj; rcases (show j = 0 ∨ j = 1 by omega) with rfl | rfl <;> rfl) (fun _ => rfl) (by decide) (by decide))) ?_
  refine And.intro (EOK.c (okDup dX8_init_52 rfl)) ?_
  refine And.intro (EOK.c (okCallIN (y := yX4_init) (host := "BrokeLoop") (oCallA_is _ _ _) dX8_init_53 rfl (ok_F_X4_init l) (fun _ _ _ _ h => frC_args h) (by decide) wm_1_234 wm_1_8 wm_1_235 rfl pl_X4_init (by decide))) ?_
  refine And.intro (okPutFR (C := RX8) (T := TX8) (N := 10) dX8_init_56 rfl rfl (by decide) inX8 tyX8_ok nmX8 rfl (fun _ => rfl) (fun _ => rfl) rfl rfl wm_2_36) ?_
  refine And.intro (EOK.c (okAload_n dX8_init_59 rfl rfl)) ?_
  refine And.intro (EOK.c (okBipush dX8_init_60 rfl (by first | rfl | decide))) ?_
  refine And.intro (EOK.c (okNewa dX8_init_62 rfl wm_1_84 (by decide) (by decide))) ?_
  refine And.intro (okPutFR (C := RX8) (T := TX8) (N := 10) dX8_init_64 rfl rfl (by decide) inX8 tyX8_ok nmX8 rfl (fun _ => rfl) (fun _ => rfl) rfl rfl wm_2_37) ?_
  refine And.intro (EOK.c (okAload_n dX8_init_67 rfl rfl)) ?_
  refine And.intro (EOK.c (okIconst dX8_init_68 rfl (by first | rfl | decide))) ?_
  refine And.intro (EOK.c (okPut (C := RX8) (T := TX8) (N := 10) dX8_init_69 rfl rfl (by decide) inX8 tyX8_ok nmX8 rfl rfl wm_2_38)) ?_
  refine And.intro (EOK.c (okAload_n dX8_init_72 rfl rfl)) ?_
  refine And.intro (EOK.c (okNew (C := RX6) (T := TX6) (N := 4) dX8_init_73 rfl rfl inX6 tyX6_ok wm_2_8 wm_2_9 wm_1_9 (by intro j hj; rcases (show j = 0 ∨ j = 1 ∨ j = 2 ∨ j = 3 by omega) with rfl | rfl | rfl | rfl <;> rfl) (fun _ => rfl) (by decide) (by decide))) ?_
  refine And.intro (EOK.c (okDup dX8_init_76 rfl)) ?_
  refine And.intro (EOK.c (okCallIN (y := yX6_init) (host := "BrokeLoop") (oCallA_is _ _ _) dX8_init_77 rfl (ok_F_X6_init l) (fun _ _ _ _ h => frC_args h) (by decide) wm_2_11 wm_1_9 wm_2_12 rfl pl_X6_init (by decide))) ?_
  refine And.intro (okPutFR (C := RX8) (T := TX8) (N := 10) dX8_init_80 rfl rfl (by decide) inX8 tyX8_ok nmX8 rfl (fun _ => rfl) (fun _ => rfl) rfl rfl wm_2_39) ?_
  refine And.intro (EOK.c (okAload_n dX8_init_83 rfl rfl)) ?_
  refine And.intro (EOK.c (okIconst dX8_init_84 rfl (by first | rfl | decide))) ?_
  refine And.intro (EOK.c (okPut (C := RX8) (T := TX8) (N := 10) dX8_init_85 rfl rfl (by decide) inX8 tyX8_ok nmX8 rfl rfl wm_2_40)) ?_
  refine And.intro (EOK.c (okAload_n dX8_init_88 rfl rfl)) ?_
  refine And.intro (EOK.c (okIconst dX8_init_89 rfl (by first | rfl | decide))) ?_
  refine And.intro (EOK.c (okPut (C := RX8) (T := TX8) (N := 10) dX8_init_90 rfl rfl (by decide) inX8 tyX8_ok nmX8 rfl rfl wm_2_41)) ?_
  refine And.intro (EOK.c (okVret dX8_init_93 rfl)) ?_
  exact trivial
def w0_X8_init : pWd := [.inr (8, [.null, .null, .null, .null, .null, .null, .int 0, .null, .int 0, .int 0])]
def w1_X8_init  : pWd := .inr (8, [.ref 1, .ref 15, .ref 29, .ref 143, .ref 158, .ref 173, .int 0, .ref 174, .int 0, .int 0]) :: (loopCells 1 iniV ++ (loopCells 15 iniV ++ ([.inr (3, [.ref 30, .int 0, .int 0]), .inl (1, 8, .inr (.inr (.inr (.inr hsF))))] ++ (loopCells 31 iniV ++ (loopCells 45 iniV ++ (loopCells 59 iniV ++ (loopCells 73 iniV ++ (loopCells 87 iniV ++ (loopCells 101 iniV ++ (loopCells 115 iniV ++ (loopCells 129 iniV ++ ([.inr (4, [.ref 144, .int 0])] ++ (loopCells 144 iniV ++ ([.inr (4, [.ref 159, .int 0])] ++ (loopCells 159 iniV ++ ([.inl (0, 120, .inl z0), .inr (6, [.ref 175, .int 0, .int 0, .int 0]), .inr (7, [.ref 176, .ref 177, .ref 178, .int 0]), .inl (0, 20, .inl z0), .inl (0, 20, .inl z0), .inl (0, 20, .inl z0)]))))))))))))))))
set_option maxHeartbeats 1000000 in
set_option maxRecDepth 100000 in
theorem run_X8_init (rg : pRg)  : ∃ fu, ex k_X8_init fu 0 [(0, .ref 0)] [] w0_X8_init rg = some (none, w1_X8_init , rg) := by
  refine ⟨3, ?_⟩
  rfl
def G_X8_init : pG := fun args w => match args, w with
  | [.ref 0], [.inr (c, [.null, .null, .null, .null, .null, .null, .int z6, .null, .int z8, .int z9])] => (match Nat.beq c 8 with
    | true => (match zeroB [z6, z8, z9] with
      | true => some (none, w1_X8_init )
      | false => none)
    | false => none)
  | _, _ => none
set_option maxRecDepth 100000 in
set_option maxHeartbeats 4000000 in
theorem ct_X8_init (l : Launch) : ∀ args0 w0 v0 w1 rg, G_X8_init args0 w0 = some (v0, w1) → pCT l yX8_init (pWs yX8_init cX8_init 1 none) rm_X8_init args0 w0 rg (v0, w1, rg) := by
  intro args0 w0 v0 w1 rg h
  unfold G_X8_init at h
  split at h
  next =>
    split at h
    next hb =>
      split at h
      next hz =>
        have hb := Nat.eq_of_beq_eq_true hb
        subst hb
        have hz := zeroB_eq hz
        simp only [List.forall_mem_cons] at hz
        obtain ⟨rfl, rfl, rfl, -⟩ := hz
        cases h
        exact met_of_exc (by decide) rfl (ok_k_X8_init l) rfl (run_X8_init rg ) (Nat.le_of_ble_eq_true rfl) rfl (Nat.le_of_ble_eq_true rfl) (Nat.le_of_ble_eq_true rfl) (Nat.le_of_ble_eq_true rfl) rfl rfl
      next => cases h
    next => cases h
  next => cases h
def F_X8_init : pF := frC G_X8_init
theorem ok_F_X8_init (l : Launch) : pFOK l yX8_init (pWs yX8_init cX8_init 1 none) rm_X8_init F_X8_init := pFOK_frC (fun a b c d h => ct_X8_init l a b c d rg00 h)
end
