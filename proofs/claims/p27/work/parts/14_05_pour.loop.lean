noncomputable section
/-- the chest at a place -/
def chN : Nat → Option Nat
  | 1 => some 0
  | 2 => some 1
  | 3 => some 2
  | 4 => some 3
  | _ => none
def pourR (c : Nat) (v : pLV) (a b : Int32) : Int32 := puR (v 0 (30 + c)) (v 0 (10 + 3 * c)) (v 0 (11 + 3 * c)) a b
def pourV (c : Nat) (v : pLV) (a b : Int32) : pLV := vS (vS (vS v (10 + 3 * c) (puF (v 0 (30 + c)) (v 0 (10 + 3 * c)) (v 0 (11 + 3 * c)) a b)) (11 + 3 * c) (puG (v 0 (30 + c)) (v 0 (10 + 3 * c)) (v 0 (11 + 3 * c)) a b)) 24 (v 0 24 + pourR c v a b)
theorem dX5_pour_0 : decode cX5_pour 0 = .ok (.aload_n 1, 1) := by decide +kernel
theorem dX5_pour_1 : decode cX5_pour 1 = .ok (.iload_n 2, 1) := by decide +kernel
theorem dX5_pour_2 : decode cX5_pour 2 = .ok (.iload_n 3, 1) := by decide +kernel
theorem dX5_pour_3 : decode cX5_pour 3 = .ok (.invokevirtual 116, 3) := by decide +kernel
theorem dX5_pour_6 : decode cX5_pour 6 = .ok (.istore 4, 2) := by decide +kernel
theorem dX5_pour_8 : decode cX5_pour 8 = .ok (.aload_n 0, 1) := by decide +kernel
theorem dX5_pour_9 : decode cX5_pour 9 = .ok (.getfield 54, 3) := by decide +kernel
theorem dX5_pour_12 : decode cX5_pour 12 = .ok (.dup, 1) := by decide +kernel
theorem dX5_pour_13 : decode cX5_pour 13 = .ok (.getfield 119, 3) := by decide +kernel
theorem dX5_pour_16 : decode cX5_pour 16 = .ok (.iload 4, 2) := by decide +kernel
theorem dX5_pour_18 : decode cX5_pour 18 = .ok (.iadd, 1) := by decide +kernel
theorem dX5_pour_19 : decode cX5_pour 19 = .ok (.putfield 119, 3) := by decide +kernel
theorem dX5_pour_22 : decode cX5_pour 22 = .ok (.iload 4, 2) := by decide +kernel
theorem dX5_pour_24 : decode cX5_pour 24 = .ok (.ireturn, 1) := by decide +kernel
def k_X5_pour : List pEn := [oAload 1, oIload 2, oIload 3, oCall 3 F_X1_putIn, oIstore 4, oAload 0, oGet 5 11, oDup, oGet 0 2, oIload 4, oAdd, oPut 0 2, oIload 4, oIret]
def pc_X5_pour (i : Nat) : Nat := ([0, 1, 2, 3, 6, 8, 9, 12, 13, 16, 18, 19, 22, 24] : List Nat).getD i 0
abbrev rm_X5_pour : Room := { frames := 2, cells := 0, slots := 0, locals := 46 }
theorem pl_X5_pour : pPlain yX5_pour 3 := by decide +kernel
set_option maxRecDepth 100000 in
set_option maxHeartbeats 4000000 in
theorem ok_k_X5_pour (l : Launch) : ∀ (i : Nat) (en : pEn), k_X5_pour[i]? = some en → EOK l cX5_pour yX5_pour.cls 5 ((some FieldType.int)) rm_X5_pour 0 pc_X5_pour i en := by
  refine allOK_at ?_
  refine And.intro (okAload_n dX5_pour_0 rfl rfl) ?_
  refine And.intro (okIload_n dX5_pour_1 rfl rfl) ?_
  refine And.intro (okIload_n dX5_pour_2 rfl rfl) ?_
  refine And.intro (okCallV (y := yX1_putIn) (T := TX1) (oCall_is _ _ _) dX5_pour_3 rfl (ok_F_X1_putIn l) rc_F_X1_putIn rfl wm_2_138 wm_2_139 wm_2_140 wm_1_3 wm_2_141 pl_X1_putIn (by decide)) ?_
  refine And.intro (okIstore dX5_pour_6 rfl (by decide)) ?_
  refine And.intro (okAload_n dX5_pour_8 rfl rfl) ?_
  refine And.intro (okGet (C := RX5) (T := TX5) (N := 15) dX5_pour_9 rfl rfl (by decide) inX5 wm_1_172) ?_
  refine And.intro (okDup dX5_pour_12 rfl) ?_
  refine And.intro (okGet (C := RX0) (T := TX0) (N := 6) dX5_pour_13 rfl rfl (by decide) inX0 wm_1_61) ?_
  refine And.intro (okIload dX5_pour_16 rfl) ?_
  refine And.intro (okAdd dX5_pour_18 rfl) ?_
  refine And.intro (okPut (C := RX0) (T := TX0) (N := 6) dX5_pour_19 rfl rfl (by decide) inX0 tyX0_ok nmX0 rfl rfl wm_1_61) ?_
  refine And.intro (okIload dX5_pour_22 rfl) ?_
  refine And.intro (okIret dX5_pour_24 rfl) ?_
  exact trivial
def G_X5_pour : pG := fun args w => match args with
  | [.ref 0, .ref p, .int a, .int b] => unL 0 w (fun v => match chN p with
    | some c => some (some (.int (pourR c v a b)), loopCells 0 (pourV c v a b))
    | none => none)
  | _ => none
theorem chN_in {p c : Nat} (h : chN p = some c) : (p = 1 ∧ c = 0) ∨ (p = 2 ∧ c = 1) ∨ (p = 3 ∧ c = 2) ∨ (p = 4 ∧ c = 3) := by
  unfold chN at h
  split at h <;> simp at h <;> omega
set_option maxHeartbeats 400000 in
theorem run_X5_pour (rg : pRg) (v : pLV) (p c : Nat) (h : chN p = some c) (a b : Int32) : ∃ fu, ex k_X5_pour fu 0 [(0, .ref 0), (1, .ref p), (2, .int a), (3, .int b)] [] (loopCells 0 v) rg = some (some (.int (pourR c v a b)), loopCells 0 (pourV c v a b), rg) := by
  rcases chN_in h with ⟨rfl, rfl⟩ | ⟨rfl, rfl⟩ | ⟨rfl, rfl⟩ | ⟨rfl, rfl⟩ <;> exact ⟨9, rfl⟩
theorem ct_X5_pour (l : Launch) : ∀ args0 w0 v0 w1 rg, G_X5_pour args0 w0 = some (v0, w1) → pCT l yX5_pour (pWs yX5_pour cX5_pour 5 (some .int)) rm_X5_pour args0 w0 rg (v0, w1, rg) := by
  intro args0 w0 v0 w1 rg h
  unfold G_X5_pour at h
  split at h
  next p a b =>
    obtain ⟨v, hw, h2⟩ := unL_some h
    clear h
    subst hw
    split at h2
    next c hc =>
      cases h2
      exact met_of_exL (by decide) (ok_k_X5_pour l) rfl (run_X5_pour rg v p c hc a b) (Nat.le_of_ble_eq_true rfl) rfl rfl
    next => cases h2
  next => cases h
theorem sh_X5_pour : ∀ a b c d, G_X5_pour a b = some (c, d) → b.length ≤ 64 ∧ ∃ x as' fs, a = .ref x :: as' ∧ wget b x = some (.inr (5, fs)) := by
  intro a b c d h
  unfold G_X5_pour at h
  split at h
  next p a b =>
    obtain ⟨v, rfl, h⟩ := unL_some h
    exact ⟨Nat.le_of_ble_eq_true rfl, _, _, _, rfl, rfl⟩
  next => cases h
def F_X5_pour : pF := fz (faN G_X5_pour)
theorem ok_F_X5_pour (l : Launch) : pFOK l yX5_pour (pWs yX5_pour cX5_pour 5 (some .int)) rm_X5_pour F_X5_pour := pFOK_fz (pFOK_fa (fun a b c d rg h => ct_X5_pour l a b c d rg h))
theorem rc_F_X5_pour : pRcv 5 F_X5_pour := pRcv_fz (pRcv_fa (fun a b c d h => (sh_X5_pour a b c d h).2))
def Fb_X5_pour : pF := frN G_X5_pour
theorem ok_Fb_X5_pour (l : Launch) : pFOK l yX5_pour (pWs yX5_pour cX5_pour 5 (some .int)) rm_X5_pour Fb_X5_pour := pFOK_fr (fun a b c d h => ct_X5_pour l a b c d rg00 h) (fun a b c d h => (sh_X5_pour a b c d h).1)
theorem rc_Fb_X5_pour : pRcv 5 Fb_X5_pour := pRcv_fr (fun a b c d h => (sh_X5_pour a b c d h).1) (fun a b c d h => (sh_X5_pour a b c d h).2)
theorem cl_X5_pour0 (v : pLV) (a b : Int32) (rg : pRg) : F_X5_pour [.ref 0, .ref 1, .int a, .int b] (loopCells 0 v) rg = some (some (.int (pourR 0 (NL v) a b)), loopCells 0 (pourV 0 (NL v) a b), rg) := (fz_eq _ _ _ _).trans rfl
theorem cl_X5_pour1 (v : pLV) (a b : Int32) (rg : pRg) : F_X5_pour [.ref 0, .ref 2, .int a, .int b] (loopCells 0 v) rg = some (some (.int (pourR 1 (NL v) a b)), loopCells 0 (pourV 1 (NL v) a b), rg) := (fz_eq _ _ _ _).trans rfl
theorem cl_X5_pour2 (v : pLV) (a b : Int32) (rg : pRg) : F_X5_pour [.ref 0, .ref 3, .int a, .int b] (loopCells 0 v) rg = some (some (.int (pourR 2 (NL v) a b)), loopCells 0 (pourV 2 (NL v) a b), rg) := (fz_eq _ _ _ _).trans rfl
theorem cl_X5_pour3 (v : pLV) (a b : Int32) (rg : pRg) : F_X5_pour [.ref 0, .ref 4, .int a, .int b] (loopCells 0 v) rg = some (some (.int (pourR 3 (NL v) a b)), loopCells 0 (pourV 3 (NL v) a b), rg) := (fz_eq _ _ _ _).trans rfl
end
