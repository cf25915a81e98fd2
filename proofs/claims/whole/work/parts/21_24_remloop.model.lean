noncomputable section
def cpS (k : Nat) (f : Nat → Int32) : Nat → Int32 := fun j => if j < k then f (j + 110) else f j
theorem cpS_0 (f : Nat → Int32) : cpS 0 f = f := by funext j; simp [cpS]
theorem cpS_a (k : Nat) (f : Nat → Int32) : cpS k f (k + 110) = f (k + 110) := by
  unfold cpS
  rw [if_neg (by omega)]
theorem cpS_s (k : Nat) (f : Nat → Int32) : upd (cpS k f) k (cpS k f (k + 110)) = cpS (k + 1) f := by
  rw [cpS_a]
  funext j
  by_cases hj : j = k
  · subst hj
    unfold upd cpS
    rw [if_pos rfl, if_pos (by omega)]
  · have : (j < k) = (j < k + 1) := by rw [eq_iff_iff]; omega
    unfold upd cpS
    rw [if_neg hj]
    simp only [this]
def cpR (k b : Nat) (f g : Nat → Int32) : Nat → Int32 := fun j => if b ≤ j ∧ j < b + k then f (j - b) else g j
theorem cpR_0 (b : Nat) (f g : Nat → Int32) : cpR 0 b f g = g := by
  funext j
  unfold cpR
  rw [if_neg (by omega)]
theorem cpR_s (k b : Nat) (f g : Nat → Int32) : upd (cpR k b f g) (b + k) (f k) = cpR (k + 1) b f g := by
  funext j
  by_cases hj : j = b + k
  · subst hj
    unfold upd cpR
    rw [if_pos rfl, if_pos (by omega)]
    congr 1
    omega
  · have : (b ≤ j ∧ j < b + k) = (b ≤ j ∧ j < b + (k + 1)) := by rw [eq_iff_iff]; omega
    unfold upd cpR
    rw [if_neg hj]
    simp only [this]
theorem nI_ofN {x : Int32} (h : 0 ≤ x) : x = nI x.toNatClampNeg := by
  have e1 := Int32.le_iff_toInt_le.mp h
  rw [Int32.toInt_zero] at e1
  have e3 : x.toNatClampNeg = x.toInt.toNat := rfl
  have e2 : x.toInt < 2 ^ 31 := Int32.toInt_lt x
  refine Int32.toInt_inj.mp ?_
  rw [nI_toInt (by omega)]
  omega
theorem clamp_b {x : Int32} (y : Int32) {n : Nat} (hy : y.toInt = n) (h : x ≤ y) : x.toNatClampNeg ≤ n := by
  have e1 := Int32.le_iff_toInt_le.mp h
  have e3 : x.toNatClampNeg = x.toInt.toNat := rfl
  omega
theorem nI_pk (p k : Nat) : (110 : Int32) * nI p + nI k = nI (110 * p + k) := by
  rw [← nI_plus, ← nI_tim]; rfl
theorem nI_k110 (k : Nat) : nI k + 110 = nI (k + 110) := nI_plus k 110
/-- where the past is written: behind its p states -/
def psM (k : Nat) (x : pLV) : pLV := vA x 2 (cpR k (110 * (x 0 2).toNatClampNeg) (x 1) (x 2))
def rm2 (x : pLV) : pLV := vS (psM 110 x) 2 (x 0 2 + 1)
def rm1 (m : pLV) : pLV := vS (vA m 2 (cpS 770 (m 2))) 2 (m 0 2 - 1)
def rememM (m : pLV) : pLV := if m 0 2 = 8 then rm2 (rm1 m) else rm2 m
def pOK (m : pLV) : Prop := 0 ≤ m 0 2 ∧ m 0 2 ≤ 8
theorem dX9_remember_0 : decode cX9_remember 0 = .ok (.aload_n 0, 1) := by decide +kernel
theorem dX9_remember_1 : decode cX9_remember 1 = .ok (.getfield 38, 3) := by decide +kernel
theorem dX9_remember_4 : decode cX9_remember 4 = .ok (.bipush 8, 2) := by decide +kernel
theorem dX9_remember_6 : decode cX9_remember 6 = .ok (.if_icmp .ne 43, 3) := by decide +kernel
theorem dX9_remember_9 : decode cX9_remember 9 = .ok (.iconst 0, 1) := by decide +kernel
theorem dX9_remember_10 : decode cX9_remember 10 = .ok (.istore_n 1, 1) := by decide +kernel
theorem dX9_remember_11 : decode cX9_remember 11 = .ok (.iload_n 1, 1) := by decide +kernel
theorem dX9_remember_12 : decode cX9_remember 12 = .ok (.sipush 770, 3) := by decide +kernel
theorem dX9_remember_15 : decode cX9_remember 15 = .ok (.if_icmp .ge 24, 3) := by decide +kernel
theorem dX9_remember_18 : decode cX9_remember 18 = .ok (.aload_n 0, 1) := by decide +kernel
theorem dX9_remember_19 : decode cX9_remember 19 = .ok (.getfield 13, 3) := by decide +kernel
theorem dX9_remember_22 : decode cX9_remember 22 = .ok (.iload_n 1, 1) := by decide +kernel
theorem dX9_remember_23 : decode cX9_remember 23 = .ok (.aload_n 0, 1) := by decide +kernel
theorem dX9_remember_24 : decode cX9_remember 24 = .ok (.getfield 13, 3) := by decide +kernel
theorem dX9_remember_27 : decode cX9_remember 27 = .ok (.iload_n 1, 1) := by decide +kernel
theorem dX9_remember_28 : decode cX9_remember 28 = .ok (.bipush 110, 2) := by decide +kernel
theorem dX9_remember_30 : decode cX9_remember 30 = .ok (.iadd, 1) := by decide +kernel
theorem dX9_remember_31 : decode cX9_remember 31 = .ok (.iaload, 1) := by decide +kernel
theorem dX9_remember_32 : decode cX9_remember 32 = .ok (.iastore, 1) := by decide +kernel
theorem dX9_remember_33 : decode cX9_remember 33 = .ok (.iinc 1 1, 3) := by decide +kernel
theorem dX9_remember_36 : decode cX9_remember 36 = .ok (.goto (-25), 3) := by decide +kernel
theorem dX9_remember_39 : decode cX9_remember 39 = .ok (.aload_n 0, 1) := by decide +kernel
theorem dX9_remember_40 : decode cX9_remember 40 = .ok (.dup, 1) := by decide +kernel
theorem dX9_remember_41 : decode cX9_remember 41 = .ok (.getfield 38, 3) := by decide +kernel
theorem dX9_remember_44 : decode cX9_remember 44 = .ok (.iconst 1, 1) := by decide +kernel
theorem dX9_remember_45 : decode cX9_remember 45 = .ok (.isub, 1) := by decide +kernel
theorem dX9_remember_46 : decode cX9_remember 46 = .ok (.putfield 38, 3) := by decide +kernel
theorem dX9_remember_49 : decode cX9_remember 49 = .ok (.iconst 0, 1) := by decide +kernel
theorem dX9_remember_50 : decode cX9_remember 50 = .ok (.istore_n 1, 1) := by decide +kernel
theorem dX9_remember_51 : decode cX9_remember 51 = .ok (.iload_n 1, 1) := by decide +kernel
theorem dX9_remember_52 : decode cX9_remember 52 = .ok (.bipush 110, 2) := by decide +kernel
theorem dX9_remember_54 : decode cX9_remember 54 = .ok (.if_icmp .ge 29, 3) := by decide +kernel
theorem dX9_remember_57 : decode cX9_remember 57 = .ok (.aload_n 0, 1) := by decide +kernel
theorem dX9_remember_58 : decode cX9_remember 58 = .ok (.getfield 13, 3) := by decide +kernel
theorem dX9_remember_61 : decode cX9_remember 61 = .ok (.bipush 110, 2) := by decide +kernel
theorem dX9_remember_63 : decode cX9_remember 63 = .ok (.aload_n 0, 1) := by decide +kernel
theorem dX9_remember_64 : decode cX9_remember 64 = .ok (.getfield 38, 3) := by decide +kernel
theorem dX9_remember_67 : decode cX9_remember 67 = .ok (.imul, 1) := by decide +kernel
theorem dX9_remember_68 : decode cX9_remember 68 = .ok (.iload_n 1, 1) := by decide +kernel
theorem dX9_remember_69 : decode cX9_remember 69 = .ok (.iadd, 1) := by decide +kernel
theorem dX9_remember_70 : decode cX9_remember 70 = .ok (.aload_n 0, 1) := by decide +kernel
theorem dX9_remember_71 : decode cX9_remember 71 = .ok (.getfield 7, 3) := by decide +kernel
theorem dX9_remember_74 : decode cX9_remember 74 = .ok (.iload_n 1, 1) := by decide +kernel
theorem dX9_remember_75 : decode cX9_remember 75 = .ok (.iaload, 1) := by decide +kernel
theorem dX9_remember_76 : decode cX9_remember 76 = .ok (.iastore, 1) := by decide +kernel
theorem dX9_remember_77 : decode cX9_remember 77 = .ok (.iinc 1 1, 3) := by decide +kernel
theorem dX9_remember_80 : decode cX9_remember 80 = .ok (.goto (-29), 3) := by decide +kernel
theorem dX9_remember_83 : decode cX9_remember 83 = .ok (.aload_n 0, 1) := by decide +kernel
theorem dX9_remember_84 : decode cX9_remember 84 = .ok (.dup, 1) := by decide +kernel
theorem dX9_remember_85 : decode cX9_remember 85 = .ok (.getfield 38, 3) := by decide +kernel
theorem dX9_remember_88 : decode cX9_remember 88 = .ok (.iconst 1, 1) := by decide +kernel
theorem dX9_remember_89 : decode cX9_remember 89 = .ok (.iadd, 1) := by decide +kernel
theorem dX9_remember_90 : decode cX9_remember 90 = .ok (.putfield 38, 3) := by decide +kernel
theorem dX9_remember_93 : decode cX9_remember 93 = .ok (.return_, 1) := by decide +kernel
def k_X9_remember : List pEn := [oAload 0, oGet 9 2, oConst (8), oCne 27, oConst (0), oIstore 1, oIload 1, oConst (770), oCge 21, oAload 0, oGet 9 1, oIload 1, oAload 0, oGet 9 1, oIload 1, oConst (110), oAdd, oIald, oIast, oIinc 1 (1), oGoto 6, oAload 0, oDup, oGet 9 2, oConst (1), oSub, oPut 9 2, oConst (0), oIstore 1, oIload 1, oConst (110), oCge 47, oAload 0, oGet 9 1, oConst (110), oAload 0, oGet 9 2, oMul, oIload 1, oAdd, oAload 0, oGet 9 0, oIload 1, oIald, oIast, oIinc 1 (1), oGoto 29, oAload 0, oDup, oGet 9 2, oConst (1), oAdd, oPut 9 2, oVret]
def pc_X9_remember (i : Nat) : Nat := ([0, 1, 4, 6, 9, 10, 11, 12, 15, 18, 19, 22, 23, 24, 27, 28, 30, 31, 32, 33, 36, 39, 40, 41, 44, 45, 46, 49, 50, 51, 52, 54, 57, 58, 61, 63, 64, 67, 68, 69, 70, 71, 74, 75, 76, 77, 80, 83, 84, 85, 88, 89, 90, 93] : List Nat).getD i 0
abbrev rm_X9_remember : Room := { frames := 0, cells := 0, slots := 0, locals := 0 }
theorem pl_X9_remember : pPlain yX9_remember 0 := by decide +kernel
set_option maxRecDepth 100000 in
set_option maxHeartbeats 4000000 in
theorem ok_k_X9_remember (l : Launch) : ∀ (i : Nat) (en : pEn), k_X9_remember[i]? = some en → EOK l cX9_remember yX9_remember.cls 2 (none) rm_X9_remember 0 pc_X9_remember i en := by
  refine allOK_at ?_
  refine And.intro (okAload_n dX9_remember_0 rfl rfl) ?_
  refine And.intro (okGet (C := RX9) (T := TX9) (N := 22) dX9_remember_1 rfl rfl (by decide) inX9 wm_3_143) ?_
  refine And.intro (okBipush dX9_remember_4 rfl (by first | rfl | decide)) ?_
  refine And.intro (okCne dX9_remember_6 rfl (by rfl)) ?_
  refine And.intro (okIconst dX9_remember_9 rfl (by first | rfl | decide)) ?_
  refine And.intro (okIstore_n dX9_remember_10 rfl rfl (by decide)) ?_
  refine And.intro (okIload_n dX9_remember_11 rfl rfl) ?_
  refine And.intro (okSipush dX9_remember_12 rfl (by first | rfl | decide)) ?_
  refine And.intro (okCge dX9_remember_15 rfl (by rfl)) ?_
  refine And.intro (okAload_n dX9_remember_18 rfl rfl) ?_
  refine And.intro (okGet (C := RX9) (T := TX9) (N := 22) dX9_remember_19 rfl rfl (by decide) inX9 wm_3_142) ?_
  refine And.intro (okIload_n dX9_remember_22 rfl rfl) ?_
  refine And.intro (okAload_n dX9_remember_23 rfl rfl) ?_
  refine And.intro (okGet (C := RX9) (T := TX9) (N := 22) dX9_remember_24 rfl rfl (by decide) inX9 wm_3_142) ?_
  refine And.intro (okIload_n dX9_remember_27 rfl rfl) ?_
  refine And.intro (okBipush dX9_remember_28 rfl (by first | rfl | decide)) ?_
  refine And.intro (okAdd dX9_remember_30 rfl) ?_
  refine And.intro (okIald dX9_remember_31 rfl) ?_
  refine And.intro (okIast dX9_remember_32 rfl) ?_
  refine And.intro (okIinc dX9_remember_33 rfl (by first | rfl | decide) (by decide)) ?_
  refine And.intro (okGoto dX9_remember_36 (by rfl)) ?_
  refine And.intro (okAload_n dX9_remember_39 rfl rfl) ?_
  refine And.intro (okDup dX9_remember_40 rfl) ?_
  refine And.intro (okGet (C := RX9) (T := TX9) (N := 22) dX9_remember_41 rfl rfl (by decide) inX9 wm_3_143) ?_
  refine And.intro (okIconst dX9_remember_44 rfl (by first | rfl | decide)) ?_
  refine And.intro (okSub dX9_remember_45 rfl) ?_
  refine And.intro (okPut (C := RX9) (T := TX9) (N := 22) dX9_remember_46 rfl rfl (by decide) inX9 tyX9_ok nmX9 rfl rfl wm_3_143) ?_
  refine And.intro (okIconst dX9_remember_49 rfl (by first | rfl | decide)) ?_
  refine And.intro (okIstore_n dX9_remember_50 rfl rfl (by decide)) ?_
  refine And.intro (okIload_n dX9_remember_51 rfl rfl) ?_
  refine And.intro (okBipush dX9_remember_52 rfl (by first | rfl | decide)) ?_
  refine And.intro (okCge dX9_remember_54 rfl (by rfl)) ?_
  refine And.intro (okAload_n dX9_remember_57 rfl rfl) ?_
  refine And.intro (okGet (C := RX9) (T := TX9) (N := 22) dX9_remember_58 rfl rfl (by decide) inX9 wm_3_142) ?_
  refine And.intro (okBipush dX9_remember_61 rfl (by first | rfl | decide)) ?_
  refine And.intro (okAload_n dX9_remember_63 rfl rfl) ?_
  refine And.intro (okGet (C := RX9) (T := TX9) (N := 22) dX9_remember_64 rfl rfl (by decide) inX9 wm_3_143) ?_
  refine And.intro (okMul dX9_remember_67 rfl) ?_
  refine And.intro (okIload_n dX9_remember_68 rfl rfl) ?_
  refine And.intro (okAdd dX9_remember_69 rfl) ?_
  refine And.intro (okAload_n dX9_remember_70 rfl rfl) ?_
  refine And.intro (okGet (C := RX9) (T := TX9) (N := 22) dX9_remember_71 rfl rfl (by decide) inX9 wm_3_141) ?_
  refine And.intro (okIload_n dX9_remember_74 rfl rfl) ?_
  refine And.intro (okIald dX9_remember_75 rfl) ?_
  refine And.intro (okIast dX9_remember_76 rfl) ?_
  refine And.intro (okIinc dX9_remember_77 rfl (by first | rfl | decide) (by decide)) ?_
  refine And.intro (okGoto dX9_remember_80 (by rfl)) ?_
  refine And.intro (okAload_n dX9_remember_83 rfl rfl) ?_
  refine And.intro (okDup dX9_remember_84 rfl) ?_
  refine And.intro (okGet (C := RX9) (T := TX9) (N := 22) dX9_remember_85 rfl rfl (by decide) inX9 wm_3_143) ?_
  refine And.intro (okIconst dX9_remember_88 rfl (by first | rfl | decide)) ?_
  refine And.intro (okAdd dX9_remember_89 rfl) ?_
  refine And.intro (okPut (C := RX9) (T := TX9) (N := 22) dX9_remember_90 rfl rfl (by decide) inX9 tyX9_ok nmX9 rfl rfl wm_3_143) ?_
  refine And.intro (okVret dX9_remember_93 rfl) ?_
  exact trivial
theorem past_in {x : Int32} (p k : Nat) (hp : x = nI p) (h : p ≤ 7) (hk : k < 110) : ¬ (110 * x + nI k < 0 ∨ 880 ≤ (110 * x + nI k).toNatClampNeg) := by
  rw [hp, nI_pk]
  exact nI_in (by omega) (by omega)
theorem past_cl {x : Int32} (k : Nat) (h0 : 0 ≤ x) (h : x.toNatClampNeg ≤ 7) (hk : k < 110) : (110 * x + nI k).toNatClampNeg = 110 * x.toNatClampNeg + k := by
  have e := nI_ofN h0
  rw [show (110 * x + nI k) = nI (110 * x.toNatClampNeg + k) from by rw [← nI_pk, ← e]]
  exact nI_clamp (by omega)
set_option maxHeartbeats 400000 in
theorem lp_rem2 (rg : pRg) (x : pLV) (h0 : 0 ≤ x 0 2) (h7 : (x 0 2).toNatClampNeg ≤ 7) : ∀ (d k : Nat), 0 ≤ k → k + d = 110 → ∃ fu, ex k_X9_remember fu 29 [(1, .int (nI k)), (0, .ref 0)] [] (mdl (psM k x)) rg = some (none, mdl (rm2 x), rg) := by
  intro d
  induction d with
  | zero =>
    intro k hk0 hk
    obtain rfl : k = 110 := by omega
    refine ⟨5, ?_⟩
    conv => lhs; whnf
    refine (pif_t (by decide)).trans ?_
    rfl
  | succ d ih =>
    intro k hk0 hk
    obtain ⟨m0, hm⟩ := ih (k + 1) (by omega) (by omega)
    refine ⟨m0 + 1, ?_⟩
    conv => lhs; whnf
    refine (pif_f (nI_ge (a := k) (b := 110) (by omega) (by omega))).trans ?_
    conv => lhs; whnf
    refine (pif_f (nI_in (c := k) (N := 110) (by omega) (by omega))).trans ?_
    conv => lhs; whnf
    refine (pif_f (past_in (x 0 2).toNatClampNeg k (nI_ofN h0) h7 (by omega))).trans ?_
    conv => lhs; whnf
    rw [nI_clamp (by omega : k < 2 ^ 31), nI_1]
    unfold psM at hm
    rw [← cpR_s, ← past_cl k h0 h7 (by omega)] at hm
    exact hm
set_option maxHeartbeats 400000 in
theorem lp_rem1 (rg : pRg) (m : pLV) (h8 : m 0 2 = 8) : ∀ (d k : Nat), 0 ≤ k → k + d = 770 → ∃ fu, ex k_X9_remember fu 6 [(1, .int (nI k)), (0, .ref 0)] [] (mdl (vA m 2 (cpS k (m 2)))) rg = some (none, mdl (rm2 (rm1 m)), rg) := by
  intro d
  induction d with
  | zero =>
    intro k hk0 hk
    obtain rfl : k = 770 := by omega
    have e7 : m 0 2 - 1 = 7 := by rw [h8]; decide
    obtain ⟨fu, hf⟩ := lp_rem2 rg (rm1 m) (show 0 ≤ m 0 2 - 1 by rw [e7]; decide) (show (m 0 2 - 1).toNatClampNeg ≤ 7 by rw [e7]; decide) 110 0 (by omega) (by omega)
    have hp : psM 0 (rm1 m) = vA (rm1 m) 2 (rm1 m 2) := congrArg (vA (rm1 m) 2) (cpR_0 _ _ _)
    rw [hp] at hf
    obtain ⟨f1, rfl⟩ := ex_pos hf
    refine ⟨f1 + 2, ?_⟩
    conv => lhs; whnf
    refine (pif_t (by decide)).trans ?_
    conv at hf => lhs; whnf
    conv => lhs; whnf
    exact hf
  | succ d ih =>
    intro k hk0 hk
    obtain ⟨m0, hm⟩ := ih (k + 1) (by omega) (by omega)
    refine ⟨m0 + 1, ?_⟩
    conv => lhs; whnf
    refine (pif_f (nI_ge (a := k) (b := 770) (by omega) (by omega))).trans ?_
    conv => lhs; whnf
    rw [nI_k110]
    refine (pif_f (nI_in (c := k + 110) (N := 880) (by omega) (by omega))).trans ?_
    conv => lhs; whnf
    refine (pif_f (nI_in (c := k) (N := 880) (by omega) (by omega))).trans ?_
    conv => lhs; whnf
    rw [nI_clamp (by omega : k < 2 ^ 31), nI_clamp (by omega : k + 110 < 2 ^ 31), nI_1]
    rw [← cpS_s] at hm
    exact hm
def G_X9_remember : pG := fun args w => match args with
  | [.ref 0] => unM w (fun m => pif (pOK m) (some (none, mdl (rememM m))) none)
  | _ => none
set_option maxHeartbeats 400000 in
set_option maxRecDepth 100000 in
theorem run_X9_remember (rg : pRg) (m : pLV)  (hc : pOK m) : ∃ fu, ex k_X9_remember fu 0 [(0, .ref 0)] [] (mdl m) rg = some (none, mdl (rememM m), rg) := by
  by_cases h8 : m 0 2 = 8
  · obtain ⟨fu, hf⟩ := lp_rem1 rg m h8 770 0 (by omega) (by omega)
    rw [cpS_0] at hf
    obtain ⟨f1, rfl⟩ := ex_pos hf
    refine ⟨f1 + 1, ?_⟩
    rw [show rememM m = rm2 (rm1 m) from if_pos h8]
    conv => lhs; whnf
    refine (pif_t h8).trans ?_
    conv at hf => lhs; whnf
    conv => lhs; whnf
    exact hf
  · have h7 : (m 0 2).toNatClampNeg ≤ 7 := by
      have h1 := clamp_b 8 (n := 8) rfl hc.2
      have h2 : (m 0 2).toNatClampNeg ≠ 8 := fun q => h8 (by have e := nI_ofN hc.1; rw [q] at e; exact e)
      omega
    obtain ⟨fu, hf⟩ := lp_rem2 rg m hc.1 h7 110 0 (by omega) (by omega)
    have hp : psM 0 m = vA m 2 (m 2) := congrArg (vA m 2) (cpR_0 _ _ _)
    rw [hp] at hf
    obtain ⟨f1, rfl⟩ := ex_pos hf
    refine ⟨f1 + 2, ?_⟩
    rw [show rememM m = rm2 m from if_neg h8]
    conv => lhs; whnf
    refine (pif_f h8).trans ?_
    conv at hf => lhs; whnf
    conv => lhs; whnf
    exact hf
theorem ct_X9_remember (l : Launch) : ∀ args0 w0 v0 w1 rg, G_X9_remember args0 w0 = some (v0, w1) → pCT l yX9_remember (pWs yX9_remember cX9_remember 2 (none)) rm_X9_remember args0 w0 rg (v0, w1, rg) := by
  intro args0 w0 v0 w1 rg h
  unfold G_X9_remember at h
  split at h
  next  =>
    obtain ⟨m, hw, h2⟩ := unM_some h
    clear h
    subst hw
    by_cases hc : pOK m
    · have h2 := (pif_t hc).symm.trans h2
      cases h2
      exact met_of_exM (by decide) (ok_k_X9_remember l) rfl (run_X9_remember rg m  hc) (Nat.le_of_ble_eq_true rfl) rfl rfl
    · have h2 := (pif_f hc).symm.trans h2
      cases h2
  next => cases h
def F_X9_remember : pF := faN G_X9_remember
theorem ok_F_X9_remember (l : Launch) : pFOK l yX9_remember (pWs yX9_remember cX9_remember 2 (none)) rm_X9_remember F_X9_remember := pFOK_fa (fun a b c d rg h => ct_X9_remember l a b c d rg h)
theorem rc_F_X9_remember : pRcv 9 F_X9_remember := pRcv_fa (fun a b c d h => by
  unfold G_X9_remember at h
  split at h
  next =>
    obtain ⟨m, rfl, h⟩ := unM_some h
    exact ⟨_, _, _, rfl, rfl⟩
  next => cases h)
theorem cl_X9_remember (m : pLV)  (rg : pRg) (hc : pOK (NM m)) : F_X9_remember [.ref 0] (mdl m) rg = some (none, mdl (rememM (NM m)), rg) := by
  have h : G_X9_remember [.ref 0] (mdl m) = some (none, mdl (rememM (NM m))) := pif_t hc
  unfold F_X9_remember faN
  rw [h]
end
