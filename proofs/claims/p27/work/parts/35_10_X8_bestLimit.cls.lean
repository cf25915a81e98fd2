noncomputable section
theorem dX8_bestLimit_0 : decode cX8_bestLimit 0 = .ok (.iload_n 1, 1) := by decide +kernel
theorem dX8_bestLimit_1 : decode cX8_bestLimit 1 = .ok (.iconst 1, 1) := by decide +kernel
theorem dX8_bestLimit_2 : decode cX8_bestLimit 2 = .ok (.if_icmp .lt 9, 3) := by decide +kernel
theorem dX8_bestLimit_5 : decode cX8_bestLimit 5 = .ok (.iload_n 1, 1) := by decide +kernel
theorem dX8_bestLimit_6 : decode cX8_bestLimit 6 = .ok (.bipush 100, 2) := by decide +kernel
theorem dX8_bestLimit_8 : decode cX8_bestLimit 8 = .ok (.if_icmp .le 5, 3) := by decide +kernel
theorem dX8_bestLimit_11 : decode cX8_bestLimit 11 = .ok (.iconst (-1), 1) := by decide +kernel
theorem dX8_bestLimit_12 : decode cX8_bestLimit 12 = .ok (.ireturn, 1) := by decide +kernel
theorem dX8_bestLimit_13 : decode cX8_bestLimit 13 = .ok (.iconst 0, 1) := by decide +kernel
theorem dX8_bestLimit_14 : decode cX8_bestLimit 14 = .ok (.istore_n 2, 1) := by decide +kernel
theorem dX8_bestLimit_15 : decode cX8_bestLimit 15 = .ok (.iconst (-1), 1) := by decide +kernel
theorem dX8_bestLimit_16 : decode cX8_bestLimit 16 = .ok (.istore_n 3, 1) := by decide +kernel
theorem dX8_bestLimit_17 : decode cX8_bestLimit 17 = .ok (.iconst 0, 1) := by decide +kernel
theorem dX8_bestLimit_18 : decode cX8_bestLimit 18 = .ok (.istore 4, 2) := by decide +kernel
theorem dX8_bestLimit_20 : decode cX8_bestLimit 20 = .ok (.iload 4, 2) := by decide +kernel
theorem dX8_bestLimit_22 : decode cX8_bestLimit 22 = .ok (.sipush 1000, 3) := by decide +kernel
theorem dX8_bestLimit_25 : decode cX8_bestLimit 25 = .ok (.if_icmp .gt 53, 3) := by decide +kernel
theorem dX8_bestLimit_28 : decode cX8_bestLimit 28 = .ok (.aload_n 0, 1) := by decide +kernel
theorem dX8_bestLimit_29 : decode cX8_bestLimit 29 = .ok (.getfield 16, 3) := by decide +kernel
theorem dX8_bestLimit_32 : decode cX8_bestLimit 32 = .ok (.aload_n 0, 1) := by decide +kernel
theorem dX8_bestLimit_33 : decode cX8_bestLimit 33 = .ok (.getfield 10, 3) := by decide +kernel
theorem dX8_bestLimit_36 : decode cX8_bestLimit 36 = .ok (.invokevirtual 222, 3) := by decide +kernel
theorem dX8_bestLimit_39 : decode cX8_bestLimit 39 = .ok (.aload_n 0, 1) := by decide +kernel
theorem dX8_bestLimit_40 : decode cX8_bestLimit 40 = .ok (.getfield 16, 3) := by decide +kernel
theorem dX8_bestLimit_43 : decode cX8_bestLimit 43 = .ok (.getfield 73, 3) := by decide +kernel
theorem dX8_bestLimit_46 : decode cX8_bestLimit 46 = .ok (.iconst 3, 1) := by decide +kernel
theorem dX8_bestLimit_47 : decode cX8_bestLimit 47 = .ok (.iload 4, 2) := by decide +kernel
theorem dX8_bestLimit_49 : decode cX8_bestLimit 49 = .ok (.iastore, 1) := by decide +kernel
theorem dX8_bestLimit_50 : decode cX8_bestLimit 50 = .ok (.aload_n 0, 1) := by decide +kernel
theorem dX8_bestLimit_51 : decode cX8_bestLimit 51 = .ok (.getfield 16, 3) := by decide +kernel
theorem dX8_bestLimit_54 : decode cX8_bestLimit 54 = .ok (.iload_n 1, 1) := by decide +kernel
theorem dX8_bestLimit_55 : decode cX8_bestLimit 55 = .ok (.invokevirtual 145, 3) := by decide +kernel
theorem dX8_bestLimit_58 : decode cX8_bestLimit 58 = .ok (.istore 5, 2) := by decide +kernel
theorem dX8_bestLimit_60 : decode cX8_bestLimit 60 = .ok (.iload 5, 2) := by decide +kernel
theorem dX8_bestLimit_62 : decode cX8_bestLimit 62 = .ok (.iload_n 3, 1) := by decide +kernel
theorem dX8_bestLimit_63 : decode cX8_bestLimit 63 = .ok (.if_icmp .le 9, 3) := by decide +kernel
theorem dX8_bestLimit_66 : decode cX8_bestLimit 66 = .ok (.iload 5, 2) := by decide +kernel
theorem dX8_bestLimit_68 : decode cX8_bestLimit 68 = .ok (.istore_n 3, 1) := by decide +kernel
theorem dX8_bestLimit_69 : decode cX8_bestLimit 69 = .ok (.iload 4, 2) := by decide +kernel
theorem dX8_bestLimit_71 : decode cX8_bestLimit 71 = .ok (.istore_n 2, 1) := by decide +kernel
theorem dX8_bestLimit_72 : decode cX8_bestLimit 72 = .ok (.iinc 4 50, 3) := by decide +kernel
theorem dX8_bestLimit_75 : decode cX8_bestLimit 75 = .ok (.goto (-55), 3) := by decide +kernel
theorem dX8_bestLimit_78 : decode cX8_bestLimit 78 = .ok (.iload_n 2, 1) := by decide +kernel
theorem dX8_bestLimit_79 : decode cX8_bestLimit 79 = .ok (.ireturn, 1) := by decide +kernel
def k_X8_bestLimit : List pEn := [oIload 1, oConst (1), oClt 6, oIload 1, oConst (100), oCle 8, oConst (-1), oIret, oConst (0), oIstore 2, oConst (-1), oIstore 3, oConst (0), oIstore 4, oIload 4, oConst (1000), oCgt 42, oAload 0, oGet 8 1, oAload 0, oGet 8 0, oCallZ 2 F_cpTL, oAload 0, oGet 8 1, oGet 5 14, oConst (3), oIload 4, oIastN 3, oAload 0, oGet 8 1, oIload 1, oCallZ 2 Fb_X5_doTicks, oIstore 5, oIload 5, oIload 3, oCle 40, oIload 5, oIstore 3, oIload 4, oIstore 2, oIinc 4 (50), oGoto 14, oIload 2, oIret]
def pc_X8_bestLimit (i : Nat) : Nat := ([0, 1, 2, 5, 6, 8, 11, 12, 13, 14, 15, 16, 17, 18, 20, 22, 25, 28, 29, 32, 33, 36, 39, 40, 43, 46, 47, 49, 50, 51, 54, 55, 58, 60, 62, 63, 66, 68, 69, 71, 72, 75, 78, 79] : List Nat).getD i 0
abbrev rm_X8_bestLimit : Room := { frames := 6, cells := 0, slots := 0, locals := 139 }
theorem pl_X8_bestLimit : pPlain yX8_bestLimit 1 := by decide +kernel
set_option maxRecDepth 100000 in
set_option maxHeartbeats 4000000 in
theorem ok_k_X8_bestLimit (l : Launch) : ∀ (i : Nat) (en : pEn), k_X8_bestLimit[i]? = some en → EOK l cX8_bestLimit yX8_bestLimit.cls 6 ((some FieldType.int)) rm_X8_bestLimit 0 pc_X8_bestLimit i en := by
  refine allOK_at ?_
  refine And.intro (okIload_n dX8_bestLimit_0 rfl rfl) ?_
  refine And.intro (okIconst dX8_bestLimit_1 rfl (by first | rfl | decide)) ?_
  refine And.intro (okClt dX8_bestLimit_2 rfl (by rfl)) ?_
  refine And.intro (okIload_n dX8_bestLimit_5 rfl rfl) ?_
  refine And.intro (okBipush dX8_bestLimit_6 rfl (by first | rfl | decide)) ?_
  refine And.intro (okCle dX8_bestLimit_8 rfl (by rfl)) ?_
  refine And.intro (okIconst dX8_bestLimit_11 rfl (by first | rfl | decide)) ?_
  refine And.intro (okIret dX8_bestLimit_12 rfl) ?_
  refine And.intro (okIconst dX8_bestLimit_13 rfl (by first | rfl | decide)) ?_
  refine And.intro (okIstore_n dX8_bestLimit_14 rfl rfl (by decide)) ?_
  refine And.intro (okIconst dX8_bestLimit_15 rfl (by first | rfl | decide)) ?_
  refine And.intro (okIstore_n dX8_bestLimit_16 rfl rfl (by decide)) ?_
  refine And.intro (okIconst dX8_bestLimit_17 rfl (by first | rfl | decide)) ?_
  refine And.intro (okIstore dX8_bestLimit_18 rfl (by decide)) ?_
  refine And.intro (okIload dX8_bestLimit_20 rfl) ?_
  refine And.intro (okSipush dX8_bestLimit_22 rfl (by first | rfl | decide)) ?_
  refine And.intro (okCgt dX8_bestLimit_25 rfl (by rfl)) ?_
  refine And.intro (okAload_n dX8_bestLimit_28 rfl rfl) ?_
  refine And.intro (okGet (C := RX8) (T := TX8) (N := 10) dX8_bestLimit_29 rfl rfl (by decide) inX8 wm_2_33) ?_
  refine And.intro (okAload_n dX8_bestLimit_32 rfl rfl) ?_
  refine And.intro (okGet (C := RX8) (T := TX8) (N := 10) dX8_bestLimit_33 rfl rfl (by decide) inX8 wm_2_32) ?_
  refine And.intro (okCallV (y := yX5_copyFrom) (T := TX5) (oCallZ_is _ _ _) dX8_bestLimit_36 rfl (ok_F_cpTL l) rc_F_cpTL rfl wm_3_109 wm_2_72 wm_2_73 wm_1_2 wm_2_74 pl_X5_copyFrom (by decide)) ?_
  refine And.intro (okAload_n dX8_bestLimit_39 rfl rfl) ?_
  refine And.intro (okGet (C := RX8) (T := TX8) (N := 10) dX8_bestLimit_40 rfl rfl (by decide) inX8 wm_2_33) ?_
  refine And.intro (okGet (C := RX5) (T := TX5) (N := 15) dX8_bestLimit_43 rfl rfl (by decide) inX5 wm_1_179) ?_
  refine And.intro (okIconst dX8_bestLimit_46 rfl (by first | rfl | decide)) ?_
  refine And.intro (okIload dX8_bestLimit_47 rfl) ?_
  refine And.intro (okIastN dX8_bestLimit_49 rfl) ?_
  refine And.intro (okAload_n dX8_bestLimit_50 rfl rfl) ?_
  refine And.intro (okGet (C := RX8) (T := TX8) (N := 10) dX8_bestLimit_51 rfl rfl (by decide) inX8 wm_2_33) ?_
  refine And.intro (okIload_n dX8_bestLimit_54 rfl rfl) ?_
  refine And.intro (okCallV (y := yX5_doTicks) (T := TX5) (oCallZ_is _ _ _) dX8_bestLimit_55 rfl (ok_Fb_X5_doTicks l) rc_Fb_X5_doTicks rfl wm_2_209 wm_2_210 wm_2_211 wm_1_2 wm_2_212 pl_X5_doTicks (by decide)) ?_
  refine And.intro (okIstore dX8_bestLimit_58 rfl (by decide)) ?_
  refine And.intro (okIload dX8_bestLimit_60 rfl) ?_
  refine And.intro (okIload_n dX8_bestLimit_62 rfl rfl) ?_
  refine And.intro (okCle dX8_bestLimit_63 rfl (by rfl)) ?_
  refine And.intro (okIload dX8_bestLimit_66 rfl) ?_
  refine And.intro (okIstore_n dX8_bestLimit_68 rfl rfl (by decide)) ?_
  refine And.intro (okIload dX8_bestLimit_69 rfl) ?_
  refine And.intro (okIstore_n dX8_bestLimit_71 rfl rfl (by decide)) ?_
  refine And.intro (okIinc dX8_bestLimit_72 rfl (by first | rfl | decide) (by decide)) ?_
  refine And.intro (okGoto dX8_bestLimit_75 (by rfl)) ?_
  refine And.intro (okIload_n dX8_bestLimit_78 rfl rfl) ?_
  refine And.intro (okIret dX8_bestLimit_79 rfl) ?_
  exact trivial
def lmV (u : pLV) (l : Int32) : pLV := vA u 1 (upd (u 1) 3 l)
def btU (n : Nat) (v u : pLV) : Nat → pLV
  | 0 => u
  | j + 1 => tickI n (NL (lmV (cpyV (btU n v u j) v) (nI (50 * j))))
def btP (n : Nat) (v u : pLV) (j : Nat) : Int32 := sumP (tickI n (NL (lmV (cpyV (btU n v u j) v) (nI (50 * j)))) 2) 4 - sumP (v 2) 4
def btM (n : Nat) (v u : pLV) : Nat → Int32
  | 0 => -1
  | j + 1 => if btP n v u j ≤ btM n v u j then btM n v u j else btP n v u j
def btB (n : Nat) (v u : pLV) : Nat → Int32
  | 0 => 0
  | j + 1 => if btP n v u j ≤ btM n v u j then btB n v u j else nI (50 * j)
set_option maxHeartbeats 1000000 in
theorem lp_bbl (rg : pRg) (f : Nat → Option Nat) (x v u : pLV) (n : Int32) (N : Nat) (hN : n.toNatClampNeg = N) : ∀ (d j : Nat), j + d = 21 → ∀ ls0, (ls0 = [(4, .int (nI (50 * j))), (3, .int (btM N v u j)), (2, .int (btB N v u j)), (0, .ref 0), (1, .int n)] ∨ (∃ z, ls0 = [(4, .int (nI (50 * j))), (5, .int z), (3, .int (btM N v u j)), (2, .int (btB N v u j)), (0, .ref 0), (1, .int n)]) ∨ (∃ z, ls0 = [(4, .int (nI (50 * j))), (2, .int (btB N v u j)), (3, .int (btM N v u j)), (5, .int z), (0, .ref 0), (1, .int n)]) ∨ ∃ z, ls0 = [(4, .int (nI (50 * j))), (5, .int z), (2, .int (btB N v u j)), (3, .int (btM N v u j)), (0, .ref 0), (1, .int n)]) → ∃ fu, ex k_X8_bestLimit fu 14 ls0 [] (cw f x v (btU N v u j)) rg = some (some (.int (btB N v u 21)), cw f x v (btU N v u 21), rg) := by
  intro d
  induction d with
  | zero =>
    intro j hj ls0 hl
    obtain rfl : j = 21 := by omega
    rcases hl with rfl | ⟨z, rfl⟩ | ⟨z, rfl⟩ | ⟨z, rfl⟩
    · refine ⟨5, ?_⟩
      conv => lhs; whnf
      refine (pif_t (by decide)).trans ?_
      rfl
    · refine ⟨5, ?_⟩
      conv => lhs; whnf
      refine (pif_t (by decide)).trans ?_
      rfl
    · refine ⟨5, ?_⟩
      conv => lhs; whnf
      refine (pif_t (by decide)).trans ?_
      rfl
    · refine ⟨5, ?_⟩
      conv => lhs; whnf
      refine (pif_t (by decide)).trans ?_
      rfl
  | succ d ih =>
    intro j hj ls0 hl
    have e50 : nI (50 * (j + 1)) = nI (50 * j) + 50 := (nI_plus (50 * j) 50).symm
    subst hN
    by_cases h : btP n.toNatClampNeg v u j ≤ btM n.toNatClampNeg v u j
    · obtain ⟨fu, hn⟩ := ih (j + 1) (by omega) _ (Or.inr (Or.inl ⟨btP n.toNatClampNeg v u j, rfl⟩))
      obtain ⟨fu', hn'⟩ := ih (j + 1) (by omega) _ (Or.inr (Or.inr (Or.inr ⟨btP n.toNatClampNeg v u j, rfl⟩)))
      rw [show btM n.toNatClampNeg v u (j + 1) = _ from if_pos h, show btB n.toNatClampNeg v u (j + 1) = _ from if_pos h, e50] at hn hn'
      rcases hl with rfl | ⟨z, rfl⟩ | ⟨z, rfl⟩ | ⟨z, rfl⟩
      · refine ⟨fu + 2, ?_⟩
        conv => lhs; whnf
        refine (pif_f (nI_nlt (a := 1000) (b := 50 * j) (by omega) (by omega))).trans ?_
        conv => lhs; whnf
        refine (callK_v (cl_cpTL f x v (btU n.toNatClampNeg v u j) rg) (by rfl)).trans ?_
        conv => lhs; whnf
        refine (callK_r (cc15_doTicks f x v (lmV (cpyV (btU n.toNatClampNeg v u j) v) (nI (50 * j))) n rg) (by rfl)).trans ?_
        conv => lhs; whnf
        refine (pif_t h).trans ?_
        conv => lhs; whnf
        exact hn
      · refine ⟨fu + 2, ?_⟩
        conv => lhs; whnf
        refine (pif_f (nI_nlt (a := 1000) (b := 50 * j) (by omega) (by omega))).trans ?_
        conv => lhs; whnf
        refine (callK_v (cl_cpTL f x v (btU n.toNatClampNeg v u j) rg) (by rfl)).trans ?_
        conv => lhs; whnf
        refine (callK_r (cc15_doTicks f x v (lmV (cpyV (btU n.toNatClampNeg v u j) v) (nI (50 * j))) n rg) (by rfl)).trans ?_
        conv => lhs; whnf
        refine (pif_t h).trans ?_
        conv => lhs; whnf
        exact hn
      · refine ⟨fu' + 2, ?_⟩
        conv => lhs; whnf
        refine (pif_f (nI_nlt (a := 1000) (b := 50 * j) (by omega) (by omega))).trans ?_
        conv => lhs; whnf
        refine (callK_v (cl_cpTL f x v (btU n.toNatClampNeg v u j) rg) (by rfl)).trans ?_
        conv => lhs; whnf
        refine (callK_r (cc15_doTicks f x v (lmV (cpyV (btU n.toNatClampNeg v u j) v) (nI (50 * j))) n rg) (by rfl)).trans ?_
        conv => lhs; whnf
        refine (pif_t h).trans ?_
        conv => lhs; whnf
        exact hn'
      · refine ⟨fu' + 2, ?_⟩
        conv => lhs; whnf
        refine (pif_f (nI_nlt (a := 1000) (b := 50 * j) (by omega) (by omega))).trans ?_
        conv => lhs; whnf
        refine (callK_v (cl_cpTL f x v (btU n.toNatClampNeg v u j) rg) (by rfl)).trans ?_
        conv => lhs; whnf
        refine (callK_r (cc15_doTicks f x v (lmV (cpyV (btU n.toNatClampNeg v u j) v) (nI (50 * j))) n rg) (by rfl)).trans ?_
        conv => lhs; whnf
        refine (pif_t h).trans ?_
        conv => lhs; whnf
        exact hn'
    · obtain ⟨fu, hn⟩ := ih (j + 1) (by omega) _ (Or.inr (Or.inr (Or.inl ⟨btP n.toNatClampNeg v u j, rfl⟩)))
      rw [show btM n.toNatClampNeg v u (j + 1) = _ from if_neg h, show btB n.toNatClampNeg v u (j + 1) = _ from if_neg h, e50] at hn
      refine ⟨fu + 1, ?_⟩
      rcases hl with rfl | ⟨z, rfl⟩ | ⟨z, rfl⟩ | ⟨z, rfl⟩
      · conv => lhs; whnf
        refine (pif_f (nI_nlt (a := 1000) (b := 50 * j) (by omega) (by omega))).trans ?_
        conv => lhs; whnf
        refine (callK_v (cl_cpTL f x v (btU n.toNatClampNeg v u j) rg) (by rfl)).trans ?_
        conv => lhs; whnf
        refine (callK_r (cc15_doTicks f x v (lmV (cpyV (btU n.toNatClampNeg v u j) v) (nI (50 * j))) n rg) (by rfl)).trans ?_
        conv => lhs; whnf
        refine (pif_f h).trans ?_
        conv => lhs; whnf
        exact hn
      · conv => lhs; whnf
        refine (pif_f (nI_nlt (a := 1000) (b := 50 * j) (by omega) (by omega))).trans ?_
        conv => lhs; whnf
        refine (callK_v (cl_cpTL f x v (btU n.toNatClampNeg v u j) rg) (by rfl)).trans ?_
        conv => lhs; whnf
        refine (callK_r (cc15_doTicks f x v (lmV (cpyV (btU n.toNatClampNeg v u j) v) (nI (50 * j))) n rg) (by rfl)).trans ?_
        conv => lhs; whnf
        refine (pif_f h).trans ?_
        conv => lhs; whnf
        exact hn
      · conv => lhs; whnf
        refine (pif_f (nI_nlt (a := 1000) (b := 50 * j) (by omega) (by omega))).trans ?_
        conv => lhs; whnf
        refine (callK_v (cl_cpTL f x v (btU n.toNatClampNeg v u j) rg) (by rfl)).trans ?_
        conv => lhs; whnf
        refine (callK_r (cc15_doTicks f x v (lmV (cpyV (btU n.toNatClampNeg v u j) v) (nI (50 * j))) n rg) (by rfl)).trans ?_
        conv => lhs; whnf
        refine (pif_f h).trans ?_
        conv => lhs; whnf
        exact hn
      · conv => lhs; whnf
        refine (pif_f (nI_nlt (a := 1000) (b := 50 * j) (by omega) (by omega))).trans ?_
        conv => lhs; whnf
        refine (callK_v (cl_cpTL f x v (btU n.toNatClampNeg v u j) rg) (by rfl)).trans ?_
        conv => lhs; whnf
        refine (callK_r (cc15_doTicks f x v (lmV (cpyV (btU n.toNatClampNeg v u j) v) (nI (50 * j))) n rg) (by rfl)).trans ?_
        conv => lhs; whnf
        refine (pif_f h).trans ?_
        conv => lhs; whnf
        exact hn
def cbestLimit_B (x v : pLV) (n : Int32) : Int32 := if n < 1 then -1 else if 100 < n then -1 else 0
def cbestLimit_R (x v u : pLV) (h : Nat → pLV) (n : Int32) : Int32 := if cbestLimit_B x v n = 0 then btB n.toNatClampNeg v u 21 else cbestLimit_B x v n
def cbestLimit_U (x v u : pLV) (h : Nat → pLV) (n : Int32) : pLV := if cbestLimit_B x v n = 0 then btU n.toNatClampNeg v u 21 else u
def F_X8_bestLimit : pF := fun args w rg => match args with
  | [.ref 0, .int n] => unB w (fun f x v u => pif (bOK f rg) (some (some (.int (cbestLimit_R x v u rg.2 n)), cw f (x) (v) (cbestLimit_U x v u rg.2 n), rg)) none)
  | _ => none
set_option maxHeartbeats 400000 in
set_option maxRecDepth 100000 in
theorem run_X8_bestLimit (rg : pRg) (f : Nat → Option Nat) (x v u : pLV) (n : Int32) (hc : bOK f rg) : ∃ fu, ex k_X8_bestLimit fu 0 [(0, .ref 0), (1, .int n)] [] (cw f x v u) rg = some (some (.int (cbestLimit_R x v u rg.2 n)), cw f (x) (v) (cbestLimit_U x v u rg.2 n), rg) := by
  obtain ⟨fu, hf⟩ := lp_bbl rg f x v u n _ rfl 21 0 (by omega) _ (Or.inl rfl)
  obtain ⟨f1, rfl⟩ := ex_pos hf
  refine ⟨f1 + 2, ?_⟩
  conv => lhs; whnf
  refine pif_c (fun p0 => ?_) (fun n0 => ?_)
  · have hB : cbestLimit_B x v n = -1 := if_pos p0
    have hN : ¬ cbestLimit_B x v n = 0 := by rw [hB]; decide
    rw [show cbestLimit_R x v u rg.2 n = -1 from (if_neg hN).trans hB, show cbestLimit_U x v u rg.2 n = _ from if_neg hN]
    rfl
  · conv => lhs; whnf
    refine pif_c (fun q1 => ?_) (fun q1 => ?_)
    · have n1 := Int32.not_lt.mpr q1
      have hB : cbestLimit_B x v n = 0 := (if_neg n0).trans ((if_neg n1).trans (rfl))
      rw [show cbestLimit_R x v u rg.2 n = _ from if_pos hB, show cbestLimit_U x v u rg.2 n = _ from if_pos hB]
      conv at hf => lhs; whnf
      conv => lhs; whnf
      exact hf
    · have p1 := Int32.not_le.mp q1
      have hB : cbestLimit_B x v n = -1 := (if_neg n0).trans (if_pos p1)
      have hN : ¬ cbestLimit_B x v n = 0 := by rw [hB]; decide
      rw [show cbestLimit_R x v u rg.2 n = -1 from (if_neg hN).trans hB, show cbestLimit_U x v u rg.2 n = _ from if_neg hN]
      rfl
theorem ok_F_X8_bestLimit (l : Launch) : pFOK l yX8_bestLimit (pWs yX8_bestLimit cX8_bestLimit 6 ((some FieldType.int))) rm_X8_bestLimit F_X8_bestLimit := by
  refine pFOK_all fun args w rg v0 w' rg' h => ?_
  unfold F_X8_bestLimit at h
  split at h
  next n =>
    obtain ⟨f, x, v, u, hw, h2⟩ := unB_some h
    clear h
    subst hw
    by_cases hc : bOK f rg
    · have h2 := (pif_t hc).symm.trans h2
      cases h2
      exact met_of_ex (by decide) (ok_k_X8_bestLimit l) rfl (run_X8_bestLimit rg f x v u n hc) (Nat.le_of_ble_eq_true rfl) rfl (Nat.le_of_ble_eq_true rfl) (Nat.le_of_ble_eq_true rfl) (Nat.zero_le _) rfl rfl
    · have h2 := (pif_f hc).symm.trans h2
      cases h2
  next => cases h
theorem rc_F_X8_bestLimit : pRcv 8 F_X8_bestLimit := by
  intro as w rg o h
  obtain ⟨v0, w', rg'⟩ := o
  unfold F_X8_bestLimit at h
  split at h
  next =>
    obtain ⟨f, x, v, u, rfl, -⟩ := unB_some h
    exact ⟨_, _, _, rfl, cellOf_get rfl⟩
  next => cases h
theorem cl_X8_bestLimit (f : Nat → Option Nat) (x v u : pLV) (n : Int32) (rg : pRg) (hc : bOK f rg) : F_X8_bestLimit [.ref 0, .int n] (cw f x v u) rg = some (some (.int (cbestLimit_R (NX x) (NL v) (NL u) rg.2 n)), cw f ((NX x)) ((NL v)) (cbestLimit_U (NX x) (NL v) (NL u) rg.2 n), rg) := pif_t hc
end
