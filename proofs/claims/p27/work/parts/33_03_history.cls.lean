noncomputable section
theorem dX3_remember_0 : decode cX3_remember 0 = .ok (.aload_n 0, 1) := by decide +kernel
theorem dX3_remember_1 : decode cX3_remember 1 = .ok (.aload_n 0, 1) := by decide +kernel
theorem dX3_remember_2 : decode cX3_remember 2 = .ok (.getfield 17, 3) := by decide +kernel
theorem dX3_remember_5 : decode cX3_remember 5 = .ok (.ifCond .lt 17, 3) := by decide +kernel
theorem dX3_remember_8 : decode cX3_remember 8 = .ok (.aload_n 0, 1) := by decide +kernel
theorem dX3_remember_9 : decode cX3_remember 9 = .ok (.getfield 17, 3) := by decide +kernel
theorem dX3_remember_12 : decode cX3_remember 12 = .ok (.aload_n 0, 1) := by decide +kernel
theorem dX3_remember_13 : decode cX3_remember 13 = .ok (.getfield 11, 3) := by decide +kernel
theorem dX3_remember_16 : decode cX3_remember 16 = .ok (.arraylength, 1) := by decide +kernel
theorem dX3_remember_17 : decode cX3_remember 17 = .ok (.iconst 1, 1) := by decide +kernel
theorem dX3_remember_18 : decode cX3_remember 18 = .ok (.isub, 1) := by decide +kernel
theorem dX3_remember_19 : decode cX3_remember 19 = .ok (.if_icmp .lt 7, 3) := by decide +kernel
theorem dX3_remember_22 : decode cX3_remember 22 = .ok (.iconst 0, 1) := by decide +kernel
theorem dX3_remember_23 : decode cX3_remember 23 = .ok (.goto 9, 3) := by decide +kernel
theorem dX3_remember_26 : decode cX3_remember 26 = .ok (.aload_n 0, 1) := by decide +kernel
theorem dX3_remember_27 : decode cX3_remember 27 = .ok (.getfield 17, 3) := by decide +kernel
theorem dX3_remember_30 : decode cX3_remember 30 = .ok (.iconst 1, 1) := by decide +kernel
theorem dX3_remember_31 : decode cX3_remember 31 = .ok (.iadd, 1) := by decide +kernel
theorem dX3_remember_32 : decode cX3_remember 32 = .ok (.putfield 17, 3) := by decide +kernel
theorem dX3_remember_35 : decode cX3_remember 35 = .ok (.aload_n 0, 1) := by decide +kernel
theorem dX3_remember_36 : decode cX3_remember 36 = .ok (.getfield 11, 3) := by decide +kernel
theorem dX3_remember_39 : decode cX3_remember 39 = .ok (.aload_n 0, 1) := by decide +kernel
theorem dX3_remember_40 : decode cX3_remember 40 = .ok (.getfield 17, 3) := by decide +kernel
theorem dX3_remember_43 : decode cX3_remember 43 = .ok (.aaload, 1) := by decide +kernel
theorem dX3_remember_44 : decode cX3_remember 44 = .ok (.astore_n 2, 1) := by decide +kernel
theorem dX3_remember_45 : decode cX3_remember 45 = .ok (.aload_n 2, 1) := by decide +kernel
theorem dX3_remember_46 : decode cX3_remember 46 = .ok (.ifnull 26, 3) := by decide +kernel
theorem dX3_remember_49 : decode cX3_remember 49 = .ok (.aload_n 2, 1) := by decide +kernel
theorem dX3_remember_50 : decode cX3_remember 50 = .ok (.aload_n 1, 1) := by decide +kernel
theorem dX3_remember_51 : decode cX3_remember 51 = .ok (.invokevirtual 25, 3) := by decide +kernel
theorem dX3_remember_54 : decode cX3_remember 54 = .ok (.aload_n 0, 1) := by decide +kernel
theorem dX3_remember_55 : decode cX3_remember 55 = .ok (.aload_n 0, 1) := by decide +kernel
theorem dX3_remember_56 : decode cX3_remember 56 = .ok (.getfield 21, 3) := by decide +kernel
theorem dX3_remember_59 : decode cX3_remember 59 = .ok (.iconst 1, 1) := by decide +kernel
theorem dX3_remember_60 : decode cX3_remember 60 = .ok (.iadd, 1) := by decide +kernel
theorem dX3_remember_61 : decode cX3_remember 61 = .ok (.aload_n 0, 1) := by decide +kernel
theorem dX3_remember_62 : decode cX3_remember 62 = .ok (.getfield 11, 3) := by decide +kernel
theorem dX3_remember_65 : decode cX3_remember 65 = .ok (.arraylength, 1) := by decide +kernel
theorem dX3_remember_66 : decode cX3_remember 66 = .ok (.invokestatic 29, 3) := by decide +kernel
theorem dX3_remember_69 : decode cX3_remember 69 = .ok (.putfield 21, 3) := by decide +kernel
theorem dX3_remember_72 : decode cX3_remember 72 = .ok (.return_, 1) := by decide +kernel
def k_X3_remember : List pEn := [oAload 0, oAload 0, oGet 3 1, oIflt 12, oAload 0, oGet 3 1, oAload 0, oGet 3 0, oAlenR, oConst (1), oSub, oClt 14, oConst (0), oGoto 18, oAload 0, oGet 3 1, oConst (1), oAdd, oPut 3 1, oAload 0, oGet 3 0, oAload 0, oGet 3 1, oAald, oAstore 2, oAload 2, oNonnull, oAload 2, oAload 1, oCallZ 2 F_cpRT, oAload 0, oAload 0, oGet 3 2, oConst (1), oAdd, oAload 0, oGet 3 0, oAlenR, oMin, oPut 3 2, oVret]
def pc_X3_remember (i : Nat) : Nat := ([0, 1, 2, 5, 8, 9, 12, 13, 16, 17, 18, 19, 22, 23, 26, 27, 30, 31, 32, 35, 36, 39, 40, 43, 44, 45, 46, 49, 50, 51, 54, 55, 56, 59, 60, 61, 62, 65, 66, 69, 72] : List Nat).getD i 0
abbrev rm_X3_remember : Room := { frames := 3, cells := 0, slots := 0, locals := 64 }
theorem pl_X3_remember : pPlain yX3_remember 1 := by decide +kernel
set_option maxRecDepth 100000 in
set_option maxHeartbeats 4000000 in
theorem ok_k_X3_remember (l : Launch) : ∀ (i : Nat) (en : pEn), k_X3_remember[i]? = some en → EOK l cX3_remember yX3_remember.cls 3 (none) rm_X3_remember 0 pc_X3_remember i en := by
  refine allOK_at ?_
  refine And.intro (okAload_n dX3_remember_0 rfl rfl) ?_
  refine And.intro (okAload_n dX3_remember_1 rfl rfl) ?_
  refine And.intro (okGet (C := RX3) (T := TX3) (N := 3) dX3_remember_2 rfl rfl (by decide) inX3 wm_1_221) ?_
  refine And.intro (okIflt dX3_remember_5 rfl (by rfl)) ?_
  refine And.intro (okAload_n dX3_remember_8 rfl rfl) ?_
  refine And.intro (okGet (C := RX3) (T := TX3) (N := 3) dX3_remember_9 rfl rfl (by decide) inX3 wm_1_221) ?_
  refine And.intro (okAload_n dX3_remember_12 rfl rfl) ?_
  refine And.intro (okGet (C := RX3) (T := TX3) (N := 3) dX3_remember_13 rfl rfl (by decide) inX3 wm_1_220) ?_
  refine And.intro (okAlenR dX3_remember_16 rfl) ?_
  refine And.intro (okIconst dX3_remember_17 rfl (by first | rfl | decide)) ?_
  refine And.intro (okSub dX3_remember_18 rfl) ?_
  refine And.intro (okClt dX3_remember_19 rfl (by rfl)) ?_
  refine And.intro (okIconst dX3_remember_22 rfl (by first | rfl | decide)) ?_
  refine And.intro (okGoto dX3_remember_23 (by rfl)) ?_
  refine And.intro (okAload_n dX3_remember_26 rfl rfl) ?_
  refine And.intro (okGet (C := RX3) (T := TX3) (N := 3) dX3_remember_27 rfl rfl (by decide) inX3 wm_1_221) ?_
  refine And.intro (okIconst dX3_remember_30 rfl (by first | rfl | decide)) ?_
  refine And.intro (okAdd dX3_remember_31 rfl) ?_
  refine And.intro (okPut (C := RX3) (T := TX3) (N := 3) dX3_remember_32 rfl rfl (by decide) inX3 tyX3_ok nmX3 rfl rfl wm_1_221) ?_
  refine And.intro (okAload_n dX3_remember_35 rfl rfl) ?_
  refine And.intro (okGet (C := RX3) (T := TX3) (N := 3) dX3_remember_36 rfl rfl (by decide) inX3 wm_1_220) ?_
  refine And.intro (okAload_n dX3_remember_39 rfl rfl) ?_
  refine And.intro (okGet (C := RX3) (T := TX3) (N := 3) dX3_remember_40 rfl rfl (by decide) inX3 wm_1_221) ?_
  refine And.intro (okAald dX3_remember_43 rfl) ?_
  refine And.intro (okAstore_n dX3_remember_44 rfl rfl (by decide)) ?_
  refine And.intro (okAload_n dX3_remember_45 rfl rfl) ?_
  refine And.intro (okNonnull dX3_remember_46 rfl) ?_
  refine And.intro (okAload_n dX3_remember_49 rfl rfl) ?_
  refine And.intro (okAload_n dX3_remember_50 rfl rfl) ?_
  refine And.intro (okCallV (y := yX5_copyFrom) (T := TX5) (oCallZ_is _ _ _) dX3_remember_51 rfl (ok_F_cpRT l) rc_F_cpRT rfl wm_2_71 wm_2_72 wm_2_73 wm_1_2 wm_2_74 pl_X5_copyFrom (by decide)) ?_
  refine And.intro (okAload_n dX3_remember_54 rfl rfl) ?_
  refine And.intro (okAload_n dX3_remember_55 rfl rfl) ?_
  refine And.intro (okGet (C := RX3) (T := TX3) (N := 3) dX3_remember_56 rfl rfl (by decide) inX3 wm_1_222) ?_
  refine And.intro (okIconst dX3_remember_59 rfl (by first | rfl | decide)) ?_
  refine And.intro (okAdd dX3_remember_60 rfl) ?_
  refine And.intro (okAload_n dX3_remember_61 rfl rfl) ?_
  refine And.intro (okGet (C := RX3) (T := TX3) (N := 3) dX3_remember_62 rfl rfl (by decide) inX3 wm_1_220) ?_
  refine And.intro (okAlenR dX3_remember_65 rfl) ?_
  refine And.intro (okMin dX3_remember_66 rfl wm_2_94 wm_2_95 wm_1_11 wm_2_96 (by decide) (by decide)) ?_
  refine And.intro (okPut (C := RX3) (T := TX3) (N := 3) dX3_remember_69 rfl rfl (by decide) inX3 tyX3_ok nmX3 rfl rfl wm_1_222) ?_
  refine And.intro (okVret dX3_remember_72 rfl) ?_
  exact trivial
def nwI (n : Int32) : Int32 := if n < 0 then 0 else if n < 7 then n + 1 else 0
theorem nwI_b (n : Int32) : ∃ k : Nat, nwI n = nI k ∧ k < 8 := by
  unfold nwI
  split
  · exact ⟨0, rfl, by omega⟩
  · rename_i h0
    split
    · rename_i h7
      have e := nI_ofN (Int32.not_lt.mp h0)
      have h1 := Int32.lt_iff_toInt_lt.mp h7
      have h2 : (7 : Int32).toInt = 7 := by decide
      have h3 : n.toNatClampNeg = n.toInt.toNat := rfl
      refine ⟨n.toNatClampNeg + 1, ?_, by omega⟩
      rw [← nI_1, ← e]
    · exact ⟨0, rfl, by omega⟩
def xRem (x : pLV) : pLV := vS (vS x 3 (nwI (x 0 3))) 4 (mnI (x 0 4 + 1) 8)
def hRem (x v : pLV) (h : Nat → pLV) : Nat → pLV := updR h (nwI (x 0 3)).toNatClampNeg (cpyV (h (nwI (x 0 3)).toNatClampNeg) v)
set_option maxHeartbeats 400000 in
set_option maxRecDepth 100000 in
theorem lp_h (rg : pRg) (f : Nat → Option Nat) (x v u : pLV) (hb : bOK f rg) (n : Int32) (k : Nat) (hn : n = nI k) (hk : k < 8) : ex k_X3_remember 1 18 [(0, .ref 29), (1, .ref 1)] [.int n, .ref 29] (cw f x v u) rg = some (none, cw f (vS (vS x 3 n) 4 (mnI (x 0 4 + 1) 8)) v u, (rg.1, updR rg.2 n.toNatClampNeg (cpyV (rg.2 n.toNatClampNeg) v))) := by
  have e : n.toNatClampNeg = k := by rw [hn]; exact nI_clamp (by omega)
  conv => lhs; whnf
  refine (pif_f (by rw [hn]; exact nI_in (c := k) (N := 8) (by omega) (by omega))).trans ?_
  rw [e, hb.1 k hk]
  conv => lhs; whnf
  refine (callK_v (cl_cpRT f (vS x 3 n) v u rg k (by rw [hb.2]; omega)) (by rfl)).trans ?_
  rfl
def F_X3_remember : pF := fun args w rg => match args with
  | [.ref 29, .ref 1] => unB w (fun f x v u => pif (bOK f rg) (some (none, cw f (xRem x) (v) (u), (rg.1, hRem x v rg.2))) none)
  | _ => none
set_option maxHeartbeats 400000 in
set_option maxRecDepth 100000 in
theorem run_X3_remember (rg : pRg) (f : Nat → Option Nat) (x v u : pLV)  (hc : bOK f rg) : ∃ fu, ex k_X3_remember fu 0 [(0, .ref 29), (1, .ref 1)] [] (cw f x v u) rg = some (none, cw f (xRem x) (v) (u), (rg.1, hRem x v rg.2)) := by
  obtain ⟨k, hk, hk8⟩ := nwI_b (x 0 3)
  have hf := lp_h rg f x v u hc (nwI (x 0 3)) k hk hk8
  unfold xRem hRem
  by_cases h1 : x 0 3 < 0
  · refine ⟨3, ?_⟩
    rw [show nwI (x 0 3) = 0 from if_pos h1] at hf ⊢
    conv at hf => lhs; whnf
    conv => lhs; whnf
    refine (pif_t h1).trans ?_
    conv => lhs; whnf
    exact hf
  · by_cases h2 : x 0 3 < 7
    · refine ⟨3, ?_⟩
      rw [show nwI (x 0 3) = x 0 3 + 1 from (if_neg h1).trans (if_pos h2)] at hf ⊢
      conv at hf => lhs; whnf
      conv => lhs; whnf
      refine (pif_f h1).trans ?_
      conv => lhs; whnf
      refine (pif_t h2).trans ?_
      conv => lhs; whnf
      exact hf
    · refine ⟨3, ?_⟩
      rw [show nwI (x 0 3) = 0 from (if_neg h1).trans (if_neg h2)] at hf ⊢
      conv at hf => lhs; whnf
      conv => lhs; whnf
      refine (pif_f h1).trans ?_
      conv => lhs; whnf
      refine (pif_f h2).trans ?_
      conv => lhs; whnf
      exact hf
theorem ok_F_X3_remember (l : Launch) : pFOK l yX3_remember (pWs yX3_remember cX3_remember 3 (none)) rm_X3_remember F_X3_remember := by
  refine pFOK_all fun args w rg v0 w' rg' h => ?_
  unfold F_X3_remember at h
  split at h
  next  =>
    obtain ⟨f, x, v, u, hw, h2⟩ := unB_some h
    clear h
    subst hw
    by_cases hc : bOK f rg
    · have h2 := (pif_t hc).symm.trans h2
      cases h2
      exact met_of_ex (by decide) (ok_k_X3_remember l) rfl (run_X3_remember rg f x v u  hc) (Nat.le_of_ble_eq_true rfl) rfl (Nat.le_of_ble_eq_true rfl) (Nat.le_of_ble_eq_true rfl) (Nat.zero_le _) rfl rfl
    · have h2 := (pif_f hc).symm.trans h2
      cases h2
  next => cases h
theorem rc_F_X3_remember : pRcv 3 F_X3_remember := by
  intro as w rg o h
  obtain ⟨v0, w', rg'⟩ := o
  unfold F_X3_remember at h
  split at h
  next =>
    obtain ⟨f, x, v, u, rfl, -⟩ := unB_some h
    exact ⟨_, _, _, rfl, cellOf_get rfl⟩
  next => cases h
theorem cl_X3_remember (f : Nat → Option Nat) (x v u : pLV)  (rg : pRg) (hc : bOK f rg) : F_X3_remember [.ref 29, .ref 1] (cw f x v u) rg = some (none, cw f (xRem (NX x)) ((NL v)) ((NL u)), (rg.1, hRem (NX x) (NL v) rg.2)) := pif_t hc
theorem dX3_restore_0 : decode cX3_restore 0 = .ok (.aload_n 0, 1) := by decide +kernel
theorem dX3_restore_1 : decode cX3_restore 1 = .ok (.getfield 21, 3) := by decide +kernel
theorem dX3_restore_4 : decode cX3_restore 4 = .ok (.ifCond .le 22, 3) := by decide +kernel
theorem dX3_restore_7 : decode cX3_restore 7 = .ok (.aload_n 0, 1) := by decide +kernel
theorem dX3_restore_8 : decode cX3_restore 8 = .ok (.getfield 17, 3) := by decide +kernel
theorem dX3_restore_11 : decode cX3_restore 11 = .ok (.ifCond .lt 15, 3) := by decide +kernel
theorem dX3_restore_14 : decode cX3_restore 14 = .ok (.aload_n 0, 1) := by decide +kernel
theorem dX3_restore_15 : decode cX3_restore 15 = .ok (.getfield 17, 3) := by decide +kernel
theorem dX3_restore_18 : decode cX3_restore 18 = .ok (.aload_n 0, 1) := by decide +kernel
theorem dX3_restore_19 : decode cX3_restore 19 = .ok (.getfield 11, 3) := by decide +kernel
theorem dX3_restore_22 : decode cX3_restore 22 = .ok (.arraylength, 1) := by decide +kernel
theorem dX3_restore_23 : decode cX3_restore 23 = .ok (.if_icmp .lt 4, 3) := by decide +kernel
theorem dX3_restore_26 : decode cX3_restore 26 = .ok (.return_, 1) := by decide +kernel
theorem dX3_restore_27 : decode cX3_restore 27 = .ok (.aload_n 0, 1) := by decide +kernel
theorem dX3_restore_28 : decode cX3_restore 28 = .ok (.getfield 11, 3) := by decide +kernel
theorem dX3_restore_31 : decode cX3_restore 31 = .ok (.aload_n 0, 1) := by decide +kernel
theorem dX3_restore_32 : decode cX3_restore 32 = .ok (.getfield 17, 3) := by decide +kernel
theorem dX3_restore_35 : decode cX3_restore 35 = .ok (.aaload, 1) := by decide +kernel
theorem dX3_restore_36 : decode cX3_restore 36 = .ok (.astore_n 2, 1) := by decide +kernel
theorem dX3_restore_37 : decode cX3_restore 37 = .ok (.aload_n 2, 1) := by decide +kernel
theorem dX3_restore_38 : decode cX3_restore 38 = .ok (.ifnull 8, 3) := by decide +kernel
theorem dX3_restore_41 : decode cX3_restore 41 = .ok (.aload_n 1, 1) := by decide +kernel
theorem dX3_restore_42 : decode cX3_restore 42 = .ok (.aload_n 2, 1) := by decide +kernel
theorem dX3_restore_43 : decode cX3_restore 43 = .ok (.invokevirtual 25, 3) := by decide +kernel
theorem dX3_restore_46 : decode cX3_restore 46 = .ok (.aload_n 0, 1) := by decide +kernel
theorem dX3_restore_47 : decode cX3_restore 47 = .ok (.aload_n 0, 1) := by decide +kernel
theorem dX3_restore_48 : decode cX3_restore 48 = .ok (.getfield 17, 3) := by decide +kernel
theorem dX3_restore_51 : decode cX3_restore 51 = .ok (.ifCond .ne 13, 3) := by decide +kernel
theorem dX3_restore_54 : decode cX3_restore 54 = .ok (.aload_n 0, 1) := by decide +kernel
theorem dX3_restore_55 : decode cX3_restore 55 = .ok (.getfield 11, 3) := by decide +kernel
theorem dX3_restore_58 : decode cX3_restore 58 = .ok (.arraylength, 1) := by decide +kernel
theorem dX3_restore_59 : decode cX3_restore 59 = .ok (.iconst 1, 1) := by decide +kernel
theorem dX3_restore_60 : decode cX3_restore 60 = .ok (.isub, 1) := by decide +kernel
theorem dX3_restore_61 : decode cX3_restore 61 = .ok (.goto 9, 3) := by decide +kernel
theorem dX3_restore_64 : decode cX3_restore 64 = .ok (.aload_n 0, 1) := by decide +kernel
theorem dX3_restore_65 : decode cX3_restore 65 = .ok (.getfield 17, 3) := by decide +kernel
theorem dX3_restore_68 : decode cX3_restore 68 = .ok (.iconst 1, 1) := by decide +kernel
theorem dX3_restore_69 : decode cX3_restore 69 = .ok (.isub, 1) := by decide +kernel
theorem dX3_restore_70 : decode cX3_restore 70 = .ok (.putfield 17, 3) := by decide +kernel
theorem dX3_restore_73 : decode cX3_restore 73 = .ok (.aload_n 0, 1) := by decide +kernel
theorem dX3_restore_74 : decode cX3_restore 74 = .ok (.dup, 1) := by decide +kernel
theorem dX3_restore_75 : decode cX3_restore 75 = .ok (.getfield 21, 3) := by decide +kernel
theorem dX3_restore_78 : decode cX3_restore 78 = .ok (.iconst 1, 1) := by decide +kernel
theorem dX3_restore_79 : decode cX3_restore 79 = .ok (.isub, 1) := by decide +kernel
theorem dX3_restore_80 : decode cX3_restore 80 = .ok (.putfield 21, 3) := by decide +kernel
theorem dX3_restore_83 : decode cX3_restore 83 = .ok (.return_, 1) := by decide +kernel
def k_X3_restore : List pEn := [oAload 0, oGet 3 2, oIfle 12, oAload 0, oGet 3 1, oIflt 12, oAload 0, oGet 3 1, oAload 0, oGet 3 0, oAlenR, oClt 13, oVret, oAload 0, oGet 3 0, oAload 0, oGet 3 1, oAald, oAstore 2, oAload 2, oNonnull, oAload 1, oAload 2, oCallZ 2 F_cpLR, oAload 0, oAload 0, oGet 3 1, oIfne 34, oAload 0, oGet 3 0, oAlenR, oConst (1), oSub, oGoto 38, oAload 0, oGet 3 1, oConst (1), oSub, oPut 3 1, oAload 0, oDup, oGet 3 2, oConst (1), oSub, oPut 3 2, oVret]
def pc_X3_restore (i : Nat) : Nat := ([0, 1, 4, 7, 8, 11, 14, 15, 18, 19, 22, 23, 26, 27, 28, 31, 32, 35, 36, 37, 38, 41, 42, 43, 46, 47, 48, 51, 54, 55, 58, 59, 60, 61, 64, 65, 68, 69, 70, 73, 74, 75, 78, 79, 80, 83] : List Nat).getD i 0
abbrev rm_X3_restore : Room := { frames := 3, cells := 0, slots := 0, locals := 64 }
theorem pl_X3_restore : pPlain yX3_restore 1 := by decide +kernel
set_option maxRecDepth 100000 in
set_option maxHeartbeats 4000000 in
theorem ok_k_X3_restore (l : Launch) : ∀ (i : Nat) (en : pEn), k_X3_restore[i]? = some en → EOK l cX3_restore yX3_restore.cls 3 (none) rm_X3_restore 0 pc_X3_restore i en := by
  refine allOK_at ?_
  refine And.intro (okAload_n dX3_restore_0 rfl rfl) ?_
  refine And.intro (okGet (C := RX3) (T := TX3) (N := 3) dX3_restore_1 rfl rfl (by decide) inX3 wm_1_222) ?_
  refine And.intro (okIfle dX3_restore_4 rfl (by rfl)) ?_
  refine And.intro (okAload_n dX3_restore_7 rfl rfl) ?_
  refine And.intro (okGet (C := RX3) (T := TX3) (N := 3) dX3_restore_8 rfl rfl (by decide) inX3 wm_1_221) ?_
  refine And.intro (okIflt dX3_restore_11 rfl (by rfl)) ?_
  refine And.intro (okAload_n dX3_restore_14 rfl rfl) ?_
  refine And.intro (okGet (C := RX3) (T := TX3) (N := 3) dX3_restore_15 rfl rfl (by decide) inX3 wm_1_221) ?_
  refine And.intro (okAload_n dX3_restore_18 rfl rfl) ?_
  refine And.intro (okGet (C := RX3) (T := TX3) (N := 3) dX3_restore_19 rfl rfl (by decide) inX3 wm_1_220) ?_
  refine And.intro (okAlenR dX3_restore_22 rfl) ?_
  refine And.intro (okClt dX3_restore_23 rfl (by rfl)) ?_
  refine And.intro (okVret dX3_restore_26 rfl) ?_
  refine And.intro (okAload_n dX3_restore_27 rfl rfl) ?_
  refine And.intro (okGet (C := RX3) (T := TX3) (N := 3) dX3_restore_28 rfl rfl (by decide) inX3 wm_1_220) ?_
  refine And.intro (okAload_n dX3_restore_31 rfl rfl) ?_
  refine And.intro (okGet (C := RX3) (T := TX3) (N := 3) dX3_restore_32 rfl rfl (by decide) inX3 wm_1_221) ?_
  refine And.intro (okAald dX3_restore_35 rfl) ?_
  refine And.intro (okAstore_n dX3_restore_36 rfl rfl (by decide)) ?_
  refine And.intro (okAload_n dX3_restore_37 rfl rfl) ?_
  refine And.intro (okNonnull dX3_restore_38 rfl) ?_
  refine And.intro (okAload_n dX3_restore_41 rfl rfl) ?_
  refine And.intro (okAload_n dX3_restore_42 rfl rfl) ?_
  refine And.intro (okCallV (y := yX5_copyFrom) (T := TX5) (oCallZ_is _ _ _) dX3_restore_43 rfl (ok_F_cpLR l) rc_F_cpLR rfl wm_2_71 wm_2_72 wm_2_73 wm_1_2 wm_2_74 pl_X5_copyFrom (by decide)) ?_
  refine And.intro (okAload_n dX3_restore_46 rfl rfl) ?_
  refine And.intro (okAload_n dX3_restore_47 rfl rfl) ?_
  refine And.intro (okGet (C := RX3) (T := TX3) (N := 3) dX3_restore_48 rfl rfl (by decide) inX3 wm_1_221) ?_
  refine And.intro (okIfne dX3_restore_51 rfl (by rfl)) ?_
  refine And.intro (okAload_n dX3_restore_54 rfl rfl) ?_
  refine And.intro (okGet (C := RX3) (T := TX3) (N := 3) dX3_restore_55 rfl rfl (by decide) inX3 wm_1_220) ?_
  refine And.intro (okAlenR dX3_restore_58 rfl) ?_
  refine And.intro (okIconst dX3_restore_59 rfl (by first | rfl | decide)) ?_
  refine And.intro (okSub dX3_restore_60 rfl) ?_
  refine And.intro (okGoto dX3_restore_61 (by rfl)) ?_
  refine And.intro (okAload_n dX3_restore_64 rfl rfl) ?_
  refine And.intro (okGet (C := RX3) (T := TX3) (N := 3) dX3_restore_65 rfl rfl (by decide) inX3 wm_1_221) ?_
  refine And.intro (okIconst dX3_restore_68 rfl (by first | rfl | decide)) ?_
  refine And.intro (okSub dX3_restore_69 rfl) ?_
  refine And.intro (okPut (C := RX3) (T := TX3) (N := 3) dX3_restore_70 rfl rfl (by decide) inX3 tyX3_ok nmX3 rfl rfl wm_1_221) ?_
  refine And.intro (okAload_n dX3_restore_73 rfl rfl) ?_
  refine And.intro (okDup dX3_restore_74 rfl) ?_
  refine And.intro (okGet (C := RX3) (T := TX3) (N := 3) dX3_restore_75 rfl rfl (by decide) inX3 wm_1_222) ?_
  refine And.intro (okIconst dX3_restore_78 rfl (by first | rfl | decide)) ?_
  refine And.intro (okSub dX3_restore_79 rfl) ?_
  refine And.intro (okPut (C := RX3) (T := TX3) (N := 3) dX3_restore_80 rfl rfl (by decide) inX3 tyX3_ok nmX3 rfl rfl wm_1_222) ?_
  refine And.intro (okVret dX3_restore_83 rfl) ?_
  exact trivial
def prI (n : Int32) : Int32 := if n = 0 then 7 else n - 1
def xRes (x : pLV) : pLV := vS (vS x 3 (prI (x 0 3))) 4 (x 0 4 - 1)
def F_X3_restore : pF := fun args w rg => match args with
  | [.ref 29, .ref 1] => unB w (fun f x v u => pif (bOK f rg ∧ (0 < x 0 4 ∧ 0 ≤ x 0 3 ∧ x 0 3 ≤ 7)) (some (none, cw f (xRes x) (cpyV v (rg.2 (x 0 3).toNatClampNeg)) (u), rg)) none)
  | _ => none
set_option maxHeartbeats 400000 in
set_option maxRecDepth 100000 in
theorem run_X3_restore (rg : pRg) (f : Nat → Option Nat) (x v u : pLV)  (hc : bOK f rg ∧ (0 < x 0 4 ∧ 0 ≤ x 0 3 ∧ x 0 3 ≤ 7)) : ∃ fu, ex k_X3_restore fu 0 [(0, .ref 29), (1, .ref 1)] [] (cw f x v u) rg = some (none, cw f (xRes x) (cpyV v (rg.2 (x 0 3).toNatClampNeg)) (u), rg) := by
  refine ⟨60, ?_⟩
  obtain ⟨hb, h4, h30, h37⟩ := hc
  have e := nI_ofN h30
  have hk := clamp_b 7 (n := 7) rfl h37
  have hf := hb.1 (x 0 3).toNatClampNeg (by omega)
  have hr : (x 0 3).toNatClampNeg < rg.1 := by rw [hb.2]; omega
  unfold xRes
  conv => lhs; whnf
  refine (pif_f (Int32.not_le.mpr h4)).trans ?_
  conv => lhs; whnf
  refine (pif_f (Int32.not_lt.mpr h30)).trans ?_
  conv => lhs; whnf
  refine (pif_t (show x 0 3 < 8 from Int32.lt_iff_toInt_lt.mpr (by have := Int32.le_iff_toInt_le.mp h37; have h7 : (7 : Int32).toInt = 7 := (by decide); have h8 : (8 : Int32).toInt = 8 := (by decide); omega))).trans ?_
  conv => lhs; whnf
  refine (pif_f (by rw [e]; exact nI_in (c := (x 0 3).toNatClampNeg) (N := 8) (by omega) (by omega))).trans ?_
  rw [hf]
  conv => lhs; whnf
  refine (callK_v (cl_cpLR f x v u rg (x 0 3).toNatClampNeg hr) (by rfl)).trans ?_
  generalize cpyV v (rg.2 (x 0 3).toNatClampNeg) = v2
  revert v2; refine id ?_; intro v2
  conv => lhs; whnf
  refine pif_c (fun h => ?_) (fun h => ?_)
  · rw [show prI (x 0 3) = _ from if_pos h]
    rfl
  · rw [show prI (x 0 3) = _ from if_neg h]
    rfl
theorem ok_F_X3_restore (l : Launch) : pFOK l yX3_restore (pWs yX3_restore cX3_restore 3 (none)) rm_X3_restore F_X3_restore := by
  refine pFOK_all fun args w rg v0 w' rg' h => ?_
  unfold F_X3_restore at h
  split at h
  next  =>
    obtain ⟨f, x, v, u, hw, h2⟩ := unB_some h
    clear h
    subst hw
    by_cases hc : bOK f rg ∧ (0 < x 0 4 ∧ 0 ≤ x 0 3 ∧ x 0 3 ≤ 7)
    · have h2 := (pif_t hc).symm.trans h2
      cases h2
      exact met_of_ex (by decide) (ok_k_X3_restore l) rfl (run_X3_restore rg f x v u  hc) (Nat.le_of_ble_eq_true rfl) rfl (Nat.le_of_ble_eq_true rfl) (Nat.le_of_ble_eq_true rfl) (Nat.zero_le _) rfl rfl
    · have h2 := (pif_f hc).symm.trans h2
      cases h2
  next => cases h
theorem rc_F_X3_restore : pRcv 3 F_X3_restore := by
  intro as w rg o h
  obtain ⟨v0, w', rg'⟩ := o
  unfold F_X3_restore at h
  split at h
  next =>
    obtain ⟨f, x, v, u, rfl, -⟩ := unB_some h
    exact ⟨_, _, _, rfl, cellOf_get rfl⟩
  next => cases h
theorem cl_X3_restore (f : Nat → Option Nat) (x v u : pLV)  (rg : pRg) (hc : bOK f rg ∧ (0 < (NX x) 0 4 ∧ 0 ≤ (NX x) 0 3 ∧ (NX x) 0 3 ≤ 7)) : F_X3_restore [.ref 29, .ref 1] (cw f x v u) rg = some (none, cw f (xRes (NX x)) (cpyV (NL v) (rg.2 ((NX x) 0 3).toNatClampNeg)) ((NL u)), rg) := pif_t hc
end
