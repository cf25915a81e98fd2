noncomputable section
theorem dX5_chestAt_0 : decode cX5_chestAt 0 = .ok (.iload_n 1, 1) := by decide +kernel
theorem dX5_chestAt_1 : decode cX5_chestAt 1 = .ok (.tableswitch 42 0 2 #[27, 32, 37], 27) := by decide +kernel
theorem dX5_chestAt_28 : decode cX5_chestAt 28 = .ok (.aload_n 0, 1) := by decide +kernel
theorem dX5_chestAt_29 : decode cX5_chestAt 29 = .ok (.getfield 38, 3) := by decide +kernel
theorem dX5_chestAt_32 : decode cX5_chestAt 32 = .ok (.areturn, 1) := by decide +kernel
theorem dX5_chestAt_33 : decode cX5_chestAt 33 = .ok (.aload_n 0, 1) := by decide +kernel
theorem dX5_chestAt_34 : decode cX5_chestAt 34 = .ok (.getfield 42, 3) := by decide +kernel
theorem dX5_chestAt_37 : decode cX5_chestAt 37 = .ok (.areturn, 1) := by decide +kernel
theorem dX5_chestAt_38 : decode cX5_chestAt 38 = .ok (.aload_n 0, 1) := by decide +kernel
theorem dX5_chestAt_39 : decode cX5_chestAt 39 = .ok (.getfield 45, 3) := by decide +kernel
theorem dX5_chestAt_42 : decode cX5_chestAt 42 = .ok (.areturn, 1) := by decide +kernel
theorem dX5_chestAt_43 : decode cX5_chestAt 43 = .ok (.aload_n 0, 1) := by decide +kernel
theorem dX5_chestAt_44 : decode cX5_chestAt 44 = .ok (.getfield 48, 3) := by decide +kernel
theorem dX5_chestAt_47 : decode cX5_chestAt 47 = .ok (.areturn, 1) := by decide +kernel
def k_X5_chestAt : List pEn := [oIload 1, oSw [(0, 2), (1, 5), (2, 8)] 11, oAload 0, oGet 5 7, oAret, oAload 0, oGet 5 8, oAret, oAload 0, oGet 5 9, oAret, oAload 0, oGet 5 10, oAret]
def pc_X5_chestAt (i : Nat) : Nat := ([0, 1, 28, 29, 32, 33, 34, 37, 38, 39, 42, 43, 44, 47] : List Nat).getD i 0
abbrev rm_X5_chestAt : Room := { frames := 0, cells := 0, slots := 0, locals := 0 }
theorem pl_X5_chestAt : pPlain yX5_chestAt 1 := by decide +kernel
set_option maxRecDepth 100000 in
set_option maxHeartbeats 4000000 in
theorem ok_k_X5_chestAt (l : Launch) : ∀ (i : Nat) (en : pEn), k_X5_chestAt[i]? = some en → EOK l cX5_chestAt yX5_chestAt.cls 2 ((some (FieldType.object "BrokeLoop$Chest"))) rm_X5_chestAt 0 pc_X5_chestAt i en := by
  refine allOK_at ?_
  refine And.intro (okIload_n dX5_chestAt_0 rfl rfl) ?_
  refine And.intro (okTsw dX5_chestAt_1 (by decide) (by rfl) (by intro z h1 h2; have : z = 0 ∨ z = 1 ∨ z = 2 := (by omega); rcases this with rfl | rfl | rfl <;> decide)) ?_
  refine And.intro (okAload_n dX5_chestAt_28 rfl rfl) ?_
  refine And.intro (okGet (C := RX5) (T := TX5) (N := 15) dX5_chestAt_29 rfl rfl (by decide) inX5 wm_1_166) ?_
  refine And.intro (okAret dX5_chestAt_32 rfl) ?_
  refine And.intro (okAload_n dX5_chestAt_33 rfl rfl) ?_
  refine And.intro (okGet (C := RX5) (T := TX5) (N := 15) dX5_chestAt_34 rfl rfl (by decide) inX5 wm_1_167) ?_
  refine And.intro (okAret dX5_chestAt_37 rfl) ?_
  refine And.intro (okAload_n dX5_chestAt_38 rfl rfl) ?_
  refine And.intro (okGet (C := RX5) (T := TX5) (N := 15) dX5_chestAt_39 rfl rfl (by decide) inX5 wm_1_169) ?_
  refine And.intro (okAret dX5_chestAt_42 rfl) ?_
  refine And.intro (okAload_n dX5_chestAt_43 rfl rfl) ?_
  refine And.intro (okGet (C := RX5) (T := TX5) (N := 15) dX5_chestAt_44 rfl rfl (by decide) inX5 wm_1_170) ?_
  refine And.intro (okAret dX5_chestAt_47 rfl) ?_
  exact trivial
def G_X5_chestAt : pG := fun args w => match args with
  | [.ref 0, .int n] => unL 0 w (fun v => match chI n with
    | some c => some (some (.ref (c + 1)), loopCells 0 v)
    | none => none)
  | _ => none
set_option maxHeartbeats 400000 in
theorem run_X5_chestAt (rg : pRg) (v : pLV) (n : Int32) (c : Nat) (h : chI n = some c) : ∃ fu, ex k_X5_chestAt fu 0 [(0, .ref 0), (1, .int n)] [] (loopCells 0 v) rg = some (some (.ref (c + 1)), loopCells 0 v, rg) := by
  rcases chI_in h with ⟨rfl, rfl⟩ | ⟨rfl, rfl⟩ | ⟨rfl, rfl⟩ | ⟨rfl, rfl⟩
  · refine ⟨9, ?_⟩
    conv => lhs; whnf
    refine (pif_t (by decide)).trans ?_
    rfl
  · refine ⟨9, ?_⟩
    conv => lhs; whnf
    refine (pif_f (by decide)).trans ?_
    conv => lhs; whnf
    refine (pif_t (by decide)).trans ?_
    rfl
  · refine ⟨9, ?_⟩
    conv => lhs; whnf
    refine (pif_f (by decide)).trans ?_
    conv => lhs; whnf
    refine (pif_f (by decide)).trans ?_
    conv => lhs; whnf
    refine (pif_t (by decide)).trans ?_
    rfl
  · refine ⟨9, ?_⟩
    conv => lhs; whnf
    refine (pif_f (by decide)).trans ?_
    conv => lhs; whnf
    refine (pif_f (by decide)).trans ?_
    conv => lhs; whnf
    refine (pif_f (by decide)).trans ?_
    rfl
theorem ct_X5_chestAt (l : Launch) : ∀ args0 w0 v0 w1 rg, G_X5_chestAt args0 w0 = some (v0, w1) → pCT l yX5_chestAt (pWs yX5_chestAt cX5_chestAt 2 ((some (FieldType.object "BrokeLoop$Chest")))) rm_X5_chestAt args0 w0 rg (v0, w1, rg) := by
  intro args0 w0 v0 w1 rg h
  unfold G_X5_chestAt at h
  split at h
  next n =>
    obtain ⟨v, hw, h2⟩ := unL_some h
    clear h
    subst hw
    split at h2
    next c hc =>
      cases h2
      exact met_of_exL (by decide) (ok_k_X5_chestAt l) rfl (run_X5_chestAt rg v n c hc) (Nat.le_of_ble_eq_true rfl) rfl rfl
    next => cases h2
  next => cases h
theorem sh_X5_chestAt : ∀ a b c d, G_X5_chestAt a b = some (c, d) → b.length ≤ 64 ∧ ∃ x as' fs, a = .ref x :: as' ∧ wget b x = some (.inr (5, fs)) := by
  intro a b c d h
  unfold G_X5_chestAt at h
  split at h
  next n =>
    obtain ⟨v, rfl, h⟩ := unL_some h
    exact ⟨Nat.le_of_ble_eq_true rfl, _, _, _, rfl, rfl⟩
  next => cases h
def Fb_X5_chestAt : pF := frN G_X5_chestAt
theorem ok_Fb_X5_chestAt (l : Launch) : pFOK l yX5_chestAt (pWs yX5_chestAt cX5_chestAt 2 ((some (FieldType.object "BrokeLoop$Chest")))) rm_X5_chestAt Fb_X5_chestAt := pFOK_fr (fun a b c d h => ct_X5_chestAt l a b c d rg00 h) (fun a b c d h => (sh_X5_chestAt a b c d h).1)
theorem rc_Fb_X5_chestAt : pRcv 5 Fb_X5_chestAt := pRcv_fr (fun a b c d h => (sh_X5_chestAt a b c d h).1) (fun a b c d h => (sh_X5_chestAt a b c d h).2)
set_option maxRecDepth 100000 in
theorem cc_chestAt0 (f : Nat → Option Nat) (x v u : pLV) (rg : pRg) : Fb_X5_chestAt [.ref 1, .int 0] (cw f x v u) rg = some (some (.ref 2), cw f x v u, rg) := rfl
set_option maxRecDepth 100000 in
theorem cc_chestAt1 (f : Nat → Option Nat) (x v u : pLV) (rg : pRg) : Fb_X5_chestAt [.ref 1, .int 1] (cw f x v u) rg = some (some (.ref 3), cw f x v u, rg) := rfl
set_option maxRecDepth 100000 in
theorem cc_chestAt2 (f : Nat → Option Nat) (x v u : pLV) (rg : pRg) : Fb_X5_chestAt [.ref 1, .int 2] (cw f x v u) rg = some (some (.ref 4), cw f x v u, rg) := rfl
set_option maxRecDepth 100000 in
theorem cc_chestAt3 (f : Nat → Option Nat) (x v u : pLV) (rg : pRg) : Fb_X5_chestAt [.ref 1, .int 3] (cw f x v u) rg = some (some (.ref 5), cw f x v u, rg) := rfl
set_option maxHeartbeats 1000000 in
set_option maxRecDepth 100000 in
theorem cc1_startAnew (f : Nat → Option Nat) (x v u : pLV)  (rg : pRg) : Fb_X5_startAnew [.ref 1] (cw f x v u) rg = some (none, cw f x (startV v) (u), rg) := rfl
set_option maxHeartbeats 1000000 in
set_option maxRecDepth 100000 in
theorem cc1_fibreNow (f : Nat → Option Nat) (x v u : pLV)  (rg : pRg) : Fb_X5_fibreNow [.ref 1] (cw f x v u) rg = some (some (.int (fibV v)), cw f x (v) (u), rg) := rfl
set_option maxHeartbeats 1000000 in
set_option maxRecDepth 100000 in
theorem cc1_breakSheet (f : Nat → Option Nat) (x v u : pLV) (t : Int32) (rg : pRg) : Fb_X5_breakSheet [.ref 1, .int t] (cw f x v u) rg = some (none, cw f x (brkV v t) (u), rg) := rfl
set_option maxHeartbeats 1000000 in
set_option maxRecDepth 100000 in
theorem cc15_breakSheet (f : Nat → Option Nat) (x v u : pLV) (t : Int32) (rg : pRg) : Fb_X5_breakSheet [.ref 15, .int t] (cw f x v u) rg = some (none, cw f x (v) (brkV u t), rg) := rfl
set_option maxHeartbeats 1000000 in
set_option maxRecDepth 100000 in
theorem cc1_turnTo (f : Nat → Option Nat) (x v u : pLV) (g : Int32) (rg : pRg) : Fb_X5_turnTo [.ref 1, .int g] (cw f x v u) rg = some (none, cw f x (turnV (NL v) g) (u), rg) := rfl
set_option maxHeartbeats 1000000 in
set_option maxRecDepth 100000 in
theorem cc1_pour0 (f : Nat → Option Nat) (x v u : pLV) (a b : Int32) (rg : pRg) : Fb_X5_pour [.ref 1, .ref 2, .int a, .int b] (cw f x v u) rg = some (some (.int (pourR 0 v a b)), cw f x (pourV 0 v a b) (u), rg) := rfl
set_option maxHeartbeats 1000000 in
set_option maxRecDepth 100000 in
theorem cc1_pour1 (f : Nat → Option Nat) (x v u : pLV) (a b : Int32) (rg : pRg) : Fb_X5_pour [.ref 1, .ref 3, .int a, .int b] (cw f x v u) rg = some (some (.int (pourR 1 v a b)), cw f x (pourV 1 v a b) (u), rg) := rfl
set_option maxHeartbeats 1000000 in
set_option maxRecDepth 100000 in
theorem cc1_pour2 (f : Nat → Option Nat) (x v u : pLV) (a b : Int32) (rg : pRg) : Fb_X5_pour [.ref 1, .ref 4, .int a, .int b] (cw f x v u) rg = some (some (.int (pourR 2 v a b)), cw f x (pourV 2 v a b) (u), rg) := rfl
set_option maxHeartbeats 1000000 in
set_option maxRecDepth 100000 in
theorem cc1_pour3 (f : Nat → Option Nat) (x v u : pLV) (a b : Int32) (rg : pRg) : Fb_X5_pour [.ref 1, .ref 5, .int a, .int b] (cw f x v u) rg = some (some (.int (pourR 3 v a b)), cw f x (pourV 3 v a b) (u), rg) := rfl
set_option maxHeartbeats 1000000 in
set_option maxRecDepth 100000 in
theorem cc1_doTicks (f : Nat → Option Nat) (x v u : pLV) (n : Int32) (rg : pRg) : Fb_X5_doTicks [.ref 1, .int n] (cw f x v u) rg = some (some (.int (sumP (tickI n.toNatClampNeg (NL v) 2) 4 - sumP (v 2) 4)), cw f x (tickI n.toNatClampNeg (NL v)) (u), rg) := rfl
set_option maxHeartbeats 1000000 in
set_option maxRecDepth 100000 in
theorem cc15_doTicks (f : Nat → Option Nat) (x v u : pLV) (n : Int32) (rg : pRg) : Fb_X5_doTicks [.ref 15, .int n] (cw f x v u) rg = some (some (.int (sumP (tickI n.toNatClampNeg (NL u) 2) 4 - sumP (u 2) 4)), cw f x (v) (tickI n.toNatClampNeg (NL u)), rg) := rfl
set_option maxHeartbeats 1000000 in
set_option maxRecDepth 100000 in
theorem cc15_tick (f : Nat → Option Nat) (x v u : pLV)  (rg : pRg) : Fb_X5_tick [.ref 15] (cw f x v u) rg = some (some (.int (tickZ (NL u))), cw f x (v) (tickV (NL u)), rg) := rfl
end
