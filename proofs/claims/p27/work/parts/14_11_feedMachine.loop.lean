noncomputable section
def mcT (v : pLV) : Int32 := mnI (v 1 2) (v 0 16 + v 0 17)
def mcF (v : pLV) : Int32 := tkR (v 0 16) (v 0 17) (mcT v)
def mcU (v : pLV) : pLV := vS (vS v 16 (v 0 16 - mcF v)) 17 (tkG (v 0 16) (v 0 17) (mcT v))
def mchV (v : pLV) : pLV := pourV 3 (NL (mcU v)) (mcF v) (mcT v - mcF v + v 0 27 * mcT v / 1000)
theorem dX5_feedMachine_0 : decode cX5_feedMachine 0 = .ok (.aload_n 0, 1) := by decide +kernel
theorem dX5_feedMachine_1 : decode cX5_feedMachine 1 = .ok (.getfield 45, 3) := by decide +kernel
theorem dX5_feedMachine_4 : decode cX5_feedMachine 4 = .ok (.aload_n 0, 1) := by decide +kernel
theorem dX5_feedMachine_5 : decode cX5_feedMachine 5 = .ok (.getfield 72, 3) := by decide +kernel
theorem dX5_feedMachine_8 : decode cX5_feedMachine 8 = .ok (.iconst 2, 1) := by decide +kernel
theorem dX5_feedMachine_9 : decode cX5_feedMachine 9 = .ok (.iaload, 1) := by decide +kernel
theorem dX5_feedMachine_10 : decode cX5_feedMachine 10 = .ok (.invokevirtual 189, 3) := by decide +kernel
theorem dX5_feedMachine_13 : decode cX5_feedMachine 13 = .ok (.istore_n 1, 1) := by decide +kernel
theorem dX5_feedMachine_14 : decode cX5_feedMachine 14 = .ok (.aload_n 0, 1) := by decide +kernel
theorem dX5_feedMachine_15 : decode cX5_feedMachine 15 = .ok (.getfield 45, 3) := by decide +kernel
theorem dX5_feedMachine_18 : decode cX5_feedMachine 18 = .ok (.iload_n 1, 1) := by decide +kernel
theorem dX5_feedMachine_19 : decode cX5_feedMachine 19 = .ok (.invokevirtual 193, 3) := by decide +kernel
theorem dX5_feedMachine_22 : decode cX5_feedMachine 22 = .ok (.istore_n 2, 1) := by decide +kernel
theorem dX5_feedMachine_23 : decode cX5_feedMachine 23 = .ok (.aload_n 0, 1) := by decide +kernel
theorem dX5_feedMachine_24 : decode cX5_feedMachine 24 = .ok (.getfield 61, 3) := by decide +kernel
theorem dX5_feedMachine_27 : decode cX5_feedMachine 27 = .ok (.getfield 200, 3) := by decide +kernel
theorem dX5_feedMachine_30 : decode cX5_feedMachine 30 = .ok (.iload_n 1, 1) := by decide +kernel
theorem dX5_feedMachine_31 : decode cX5_feedMachine 31 = .ok (.imul, 1) := by decide +kernel
theorem dX5_feedMachine_32 : decode cX5_feedMachine 32 = .ok (.sipush 1000, 3) := by decide +kernel
theorem dX5_feedMachine_35 : decode cX5_feedMachine 35 = .ok (.idiv, 1) := by decide +kernel
theorem dX5_feedMachine_36 : decode cX5_feedMachine 36 = .ok (.istore_n 3, 1) := by decide +kernel
theorem dX5_feedMachine_37 : decode cX5_feedMachine 37 = .ok (.aload_n 0, 1) := by decide +kernel
theorem dX5_feedMachine_38 : decode cX5_feedMachine 38 = .ok (.aload_n 0, 1) := by decide +kernel
theorem dX5_feedMachine_39 : decode cX5_feedMachine 39 = .ok (.getfield 48, 3) := by decide +kernel
theorem dX5_feedMachine_42 : decode cX5_feedMachine 42 = .ok (.iload_n 2, 1) := by decide +kernel
theorem dX5_feedMachine_43 : decode cX5_feedMachine 43 = .ok (.iload_n 1, 1) := by decide +kernel
theorem dX5_feedMachine_44 : decode cX5_feedMachine 44 = .ok (.iload_n 2, 1) := by decide +kernel
theorem dX5_feedMachine_45 : decode cX5_feedMachine 45 = .ok (.isub, 1) := by decide +kernel
theorem dX5_feedMachine_46 : decode cX5_feedMachine 46 = .ok (.iload_n 3, 1) := by decide +kernel
theorem dX5_feedMachine_47 : decode cX5_feedMachine 47 = .ok (.iadd, 1) := by decide +kernel
theorem dX5_feedMachine_48 : decode cX5_feedMachine 48 = .ok (.invokevirtual 136, 3) := by decide +kernel
theorem dX5_feedMachine_51 : decode cX5_feedMachine 51 = .ok (.pop, 1) := by decide +kernel
theorem dX5_feedMachine_52 : decode cX5_feedMachine 52 = .ok (.return_, 1) := by decide +kernel
def k_X5_feedMachine : List pEn := [oAload 0, oGet 5 9, oAload 0, oGet 5 14, oConst (2), oIaldN 2, oCall 2 F_X1_there, oIstore 1, oAload 0, oGet 5 9, oIload 1, oCall 2 F_X1_takeOut, oIstore 2, oAload 0, oGet 5 12, oGet 2 0, oIload 1, oMul, oConst (1000), oDivL, oIstore 3, oAload 0, oAload 0, oGet 5 10, oIload 2, oIload 1, oIload 2, oSub, oIload 3, oAdd, oCallZ 4 F_X5_pour, oPop, oVret]
def pc_X5_feedMachine (i : Nat) : Nat := ([0, 1, 4, 5, 8, 9, 10, 13, 14, 15, 18, 19, 22, 23, 24, 27, 30, 31, 32, 35, 36, 37, 38, 39, 42, 43, 44, 45, 46, 47, 48, 51, 52] : List Nat).getD i 0
abbrev rm_X5_feedMachine : Room := { frames := 3, cells := 0, slots := 0, locals := 70 }
theorem pl_X5_feedMachine : pPlain yX5_feedMachine 0 := by decide +kernel
set_option maxRecDepth 100000 in
set_option maxHeartbeats 4000000 in
theorem ok_k_X5_feedMachine (l : Launch) : ∀ (i : Nat) (en : pEn), k_X5_feedMachine[i]? = some en → EOK l cX5_feedMachine yX5_feedMachine.cls 4 (none) rm_X5_feedMachine 0 pc_X5_feedMachine i en := by
  refine allOK_at ?_
  refine And.intro (okAload_n dX5_feedMachine_0 rfl rfl) ?_
  refine And.intro (okGet (C := RX5) (T := TX5) (N := 15) dX5_feedMachine_1 rfl rfl (by decide) inX5 wm_1_169) ?_
  refine And.intro (okAload_n dX5_feedMachine_4 rfl rfl) ?_
  refine And.intro (okGet (C := RX5) (T := TX5) (N := 15) dX5_feedMachine_5 rfl rfl (by decide) inX5 wm_1_178) ?_
  refine And.intro (okIconst dX5_feedMachine_8 rfl (by first | rfl | decide)) ?_
  refine And.intro (okIaldN dX5_feedMachine_9 rfl) ?_
  refine And.intro (okCallV (y := yX1_there) (T := TX1) (oCall_is _ _ _) dX5_feedMachine_10 rfl (ok_F_X1_there l) rc_F_X1_there rfl wm_3_1 wm_2_151 wm_2_152 wm_1_3 wm_2_153 pl_X1_there (by decide)) ?_
  refine And.intro (okIstore_n dX5_feedMachine_13 rfl rfl (by decide)) ?_
  refine And.intro (okAload_n dX5_feedMachine_14 rfl rfl) ?_
  refine And.intro (okGet (C := RX5) (T := TX5) (N := 15) dX5_feedMachine_15 rfl rfl (by decide) inX5 wm_1_169) ?_
  refine And.intro (okIload_n dX5_feedMachine_18 rfl rfl) ?_
  refine And.intro (okCallV (y := yX1_takeOut) (T := TX1) (oCall_is _ _ _) dX5_feedMachine_19 rfl (ok_F_X1_takeOut l) rc_F_X1_takeOut rfl wm_3_2 wm_2_143 wm_2_144 wm_1_3 wm_2_145 pl_X1_takeOut (by decide)) ?_
  refine And.intro (okIstore_n dX5_feedMachine_22 rfl rfl (by decide)) ?_
  refine And.intro (okAload_n dX5_feedMachine_23 rfl rfl) ?_
  refine And.intro (okGet (C := RX5) (T := TX5) (N := 15) dX5_feedMachine_24 rfl rfl (by decide) inX5 wm_1_174) ?_
  refine And.intro (okGet (C := RX2) (T := TX2) (N := 3) dX5_feedMachine_27 rfl rfl (by decide) inX2 wm_1_93) ?_
  refine And.intro (okIload_n dX5_feedMachine_30 rfl rfl) ?_
  refine And.intro (okMul dX5_feedMachine_31 rfl) ?_
  refine And.intro (okSipush dX5_feedMachine_32 rfl (by first | rfl | decide)) ?_
  refine And.intro (okDivL dX5_feedMachine_35 rfl) ?_
  refine And.intro (okIstore_n dX5_feedMachine_36 rfl rfl (by decide)) ?_
  refine And.intro (okAload_n dX5_feedMachine_37 rfl rfl) ?_
  refine And.intro (okAload_n dX5_feedMachine_38 rfl rfl) ?_
  refine And.intro (okGet (C := RX5) (T := TX5) (N := 15) dX5_feedMachine_39 rfl rfl (by decide) inX5 wm_1_170) ?_
  refine And.intro (okIload_n dX5_feedMachine_42 rfl rfl) ?_
  refine And.intro (okIload_n dX5_feedMachine_43 rfl rfl) ?_
  refine And.intro (okIload_n dX5_feedMachine_44 rfl rfl) ?_
  refine And.intro (okSub dX5_feedMachine_45 rfl) ?_
  refine And.intro (okIload_n dX5_feedMachine_46 rfl rfl) ?_
  refine And.intro (okAdd dX5_feedMachine_47 rfl) ?_
  refine And.intro (okCallV (y := yX5_pour) (T := TX5) (oCallZ_is _ _ _) dX5_feedMachine_48 rfl (ok_F_X5_pour l) rc_F_X5_pour rfl wm_2_231 wm_2_135 wm_2_136 wm_1_2 wm_2_137 pl_X5_pour (by decide)) ?_
  refine And.intro (okPop dX5_feedMachine_51 rfl) ?_
  refine And.intro (okVret dX5_feedMachine_52 rfl) ?_
  exact trivial
def G_X5_feedMachine : pG := fun args w => match args with
  | [.ref 0] => unL 0 w (fun v => some (none, loopCells 0 (mchV v)))
  | _ => none
set_option maxHeartbeats 400000 in
set_option maxRecDepth 100000 in
theorem run_X5_feedMachine (rg : pRg) (v : pLV)  : ∃ fu, ex k_X5_feedMachine fu 0 [(0, .ref 0)] [] (loopCells 0 v) rg = some (none, loopCells 0 (mchV v), rg) := by
  refine ⟨60, ?_⟩
  conv => lhs; whnf
  refine (callK_r (cl_X5_pour3 (mcU v) (mcF v) (mcT v - mcF v + v 0 27 * mcT v / 1000) rg) rfl).trans ?_
  rfl
theorem ct_X5_feedMachine (l : Launch) : ∀ args0 w0 v0 w1 rg, G_X5_feedMachine args0 w0 = some (v0, w1) → pCT l yX5_feedMachine (pWs yX5_feedMachine cX5_feedMachine 4 (none)) rm_X5_feedMachine args0 w0 rg (v0, w1, rg) := by
  intro args0 w0 v0 w1 rg h
  unfold G_X5_feedMachine at h
  split at h
  next  =>
    obtain ⟨v, hw, h2⟩ := unL_some h
    clear h
    subst hw
    cases h2
    exact met_of_exL (by decide) (ok_k_X5_feedMachine l) rfl (run_X5_feedMachine rg v ) (Nat.le_of_ble_eq_true rfl) rfl rfl
  next => cases h
def F_X5_feedMachine : pF := fz (faN G_X5_feedMachine)
theorem ok_F_X5_feedMachine (l : Launch) : pFOK l yX5_feedMachine (pWs yX5_feedMachine cX5_feedMachine 4 (none)) rm_X5_feedMachine F_X5_feedMachine := pFOK_fz (pFOK_fa (fun a b c d rg h => ct_X5_feedMachine l a b c d rg h))
theorem rc_F_X5_feedMachine : pRcv 5 F_X5_feedMachine := pRcv_fz (pRcv_fa (fun a b c d h => by
  unfold G_X5_feedMachine at h
  split at h
  next =>
    obtain ⟨v, rfl, h⟩ := unL_some h
    exact ⟨_, _, _, rfl, rfl⟩
  next => cases h))
theorem cl_X5_feedMachine (v : pLV)  (rg : pRg) : F_X5_feedMachine [.ref 0] (loopCells 0 v) rg = some (none, loopCells 0 (mchV (NL v)), rg) := (fz_eq _ _ _ _).trans rfl
end
