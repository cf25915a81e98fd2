noncomputable section
/-! THE LAW'S LOOP -/
theorem NX_NX (x : pLV) : NX (NX x) = NX x := rfl
theorem NHm_at (h : Nat → pLV) {i : Nat} (hi : i < 10) : NHm h i = NL (h i) := by
  rcases (show i = 0 ∨ i = 1 ∨ i = 2 ∨ i = 3 ∨ i = 4 ∨ i = 5 ∨ i = 6 ∨ i = 7 ∨ i = 8 ∨ i = 9 by omega) with rfl | rfl | rfl | rfl | rfl | rfl | rfl | rfl | rfl | rfl <;> rfl
theorem HRm.nh {h : Nat → pLV} (g : HRm h) : HRm (NHm h) := by
  intro i hi
  rw [NHm_at h hi]
  exact g i hi
theorem S2.nh {n : Nat} {x v : pLV} {h : Nat → pLV} {x2 : pLV} {h2 : Nat → pLV} (s : S2 n x v h x2 h2) : S2 n (NX x) (NL v) (NHm h) (NX x2) (NHm h2) := by
  obtain ⟨s1, s2, s3, s4, s5, s6, s7, s8, s9, s10⟩ := s
  refine ⟨s1, s2, s3, s4, s5.nh, s6.nh, s7, s8.nx, ?_, ?_⟩
  · rw [NHm_at h (by omega), NHm_at h2 (by omega), s9]
  · rw [NHm_at h (by omega), NHm_at h2 (by omega), s10]
/-- what holds of both objects: the first has been asked, the second not -/
def S3 (n : Nat) (x v u : pLV) (h : Nat → pLV) (x2 v2 u2 : pLV) (h2 : Nat → pLV) : Prop := NL v2 = NL v ∧ IRm u ∧ IRm u2 ∧ S2 n (NX x) (NL v) (NHm h) (NX x2) (NHm h2)
section LW
variable {n : Nat} {x v u : pLV} {h : Nat → pLV} {x2 v2 u2 : pLV} {h2 : Nat → pLV}
theorem S3.up {m : Nat} (s : S3 n x v u h x2 v2 u2 h2) (hm : n ≤ m) : S3 m x v u h x2 v2 u2 h2 := ⟨s.1, s.2.1, s.2.2.1, s.2.2.2.up hm⟩
theorem S3.j (s : S3 n x v u h x2 v2 u2 h2) : J n v := s.2.2.2.1
theorem lawW_nho : lawW (NX x) (NL v) (NL u) (NHm h) x2 v2 u2 h2 = lawW x v u h x2 v2 u2 h2 := by
  unfold lawW
  rw [lawP_nh 0 x v u h]
theorem lw_acc (rg : pRg) (s : S3 n x v u h x2 v2 u2 h2) : FBo_L_areAccounts [.ref 0] (lawW x v u h x2 v2 u2 h2) rg = some (some (.int 1), lawW x v u h x2 v2 u2 h2, rg) := by
  have hc : bOK hs0 (10, NHm h) ∧ AccC (NL (NL v)) := ⟨hs0_ok _, J.acc (v := NL (NL v)) s.j⟩
  have g := FB_o (x := x) (v := v) (u := u) (h := h) (x2 := x2) (v2 := v2) (u2 := u2) (h2 := h2) (rg := rg) (cl_L_areAccounts hs0 (NX x) (NL v) (NL u) (10, NHm h) hc) rfl rfl
  exact g.trans (congrArg (fun w => some (some (Value.int 1), w, rg)) lawW_nho)
theorem lw_loo (rg : pRg) (hn : n ≤ 1000000) (s : S3 n x v u h x2 v2 u2 h2) : FBo_L_isLoop [.ref 0] (lawW x v u h x2 v2 u2 h2) rg = some (some (.int 1), lawW x v u h x2 v2 u2 h2, rg) := by
  have hc : bOK hs0 (10, NHm h) ∧ LooC (NL (NL v)) := ⟨hs0_ok _, J.loo (v := NL (NL v)) s.j hn⟩
  have g := FB_o (x := x) (v := v) (u := u) (h := h) (x2 := x2) (v2 := v2) (u2 := u2) (h2 := h2) (rg := rg) (cl_L_isLoop hs0 (NX x) (NL v) (NL u) (10, NHm h) hc) rfl rfl
  exact g.trans (congrArg (fun w => some (some (Value.int 1), w, rg)) lawW_nho)
theorem ALx.l (k : Nat) (hk : k = 3 ∨ k = 4) {a b : pLV} (g : ALx a b) (s : Int32) : ALx (vS a k s) b := by
  refine ⟨fun j h3 h4 => ?_, g.2⟩
  rw [vS_ne _ _ (by omega)]
  exact g.1 j h3 h4
theorem ALx.tic {y y2 : pLV} (g : ALx (NX y) (NX y2)) : ALx (NX (ticX (NX y))) (NX y2) := by
  have g1 : ALx (NX (NX y)) (NX (NX y2)) := g.nx
  have g2 : ALx (xRem (NX (NX y))) (NX (NX y2)) := (g1.l 3 (Or.inl rfl) _).l 4 (Or.inr rfl) _
  have g3 : ALx (NX (xRem (NX (NX y)))) (NX (NX (NX y2))) := g2.nx
  have g4 : ALx (ticX (NX y)) (NX (NX (NX y2))) := (g3.l 3 (Or.inl rfl) _).l 4 (Or.inr rfl) _
  exact g4.nx
theorem S2.tic {y w : pLV} {g : Nat → pLV} {y2 : pLV} {g2 : Nat → pLV} (s : S2 n (NX y) w g (NX y2) g2) (w' : pLV) : S2 n (NX (ticX (NX y))) w (NHm (hRem (NX (NX y)) w' g)) (NX y2) (NHm g2) := by
  obtain ⟨s1, s2, s3, s4, s5, s6, s7, s8, s9, s10⟩ := s
  have hx : XR (NX (NX y)) := s2
  refine ⟨s1, XR.tic (x := NX y) s2, s3, s4, (s5.rem w' hx).nh, s6.nh, ⟨fun q => ?_, fun q => ?_⟩, s8.tic, ?_, ?_⟩
  · rw [NHm_at _ (by omega), hRem_ne hx (by omega)]
    exact s7.1 q
  · rw [NHm_at _ (by omega), hRem_ne hx (by omega)]
    exact s7.2 q
  · rw [NHm_at _ (by omega), NHm_at _ (by omega), hRem_ne hx (by omega), s9]
  · rw [NHm_at _ (by omega), NHm_at _ (by omega), hRem_ne hx (by omega), s10]
theorem lw_tic (rg : pRg) (s : S3 n x v u h x2 v2 u2 h2) : ∃ x' v' u' h', FBo_L_isTick [.ref 0] (lawW x v u h x2 v2 u2 h2) rg = some (some (.int 1), lawW x' v' u' h' x2 v2 u2 h2, rg) ∧ S3 n x' v' u' h' x2 v2 u2 h2 := by
  obtain ⟨e, hu, hu2, s2⟩ := s
  have hc : bOK hs0 (10, NHm h) ∧ TicC (NX (NX x)) (NL (NL v)) (NL (NL u)) := ⟨hs0_ok _, J.tic (v := NL (NL v)) (x := NX (NX x)) (u := NL (NL u)) s2.1 s2.2.1 hu⟩
  have g := FB_o (x := x) (v := v) (u := u) (h := h) (x2 := x2) (v2 := v2) (u2 := u2) (h2 := h2) (rg := rg) (cl_L_isTick hs0 (NX x) (NL v) (NL u) (10, NHm h) hc) rfl rfl
  refine ⟨_, _, _, _, g, e, IRm.tick (v := NL (NL v)) s2.1.1.1, hu2, ?_⟩
  have t := S2.tic (y := NX x) (y2 := x2) (w := NL (NL (NL v))) (g := NHm h) (g2 := NHm h2) s2 (NL (NL (NL v)))
  have e2 : NHm (NHm h2) = NHm h2 := rfl
  rw [e2] at t
  exact t
theorem lw_chg (rg : pRg) (hn : n ≤ 100000) (a b : Int32) (h14 : ¬ lowI a 22 = 14) (s : S3 n x v u h x2 v2 u2 h2) : ∃ (r : Int32) (x' v' u' : pLV) (h' : Nat → pLV) (x2' v2' u2' : pLV) (h2' : Nat → pLV), FBo_L_change [.ref 0, .int a, .int b] (lawW x v u h x2 v2 u2 h2) rg = some (some (.int r), lawW x' v' u' h' x2 v2 u2 h2, rg) ∧ FBq_L_change [.ref 179, .int a, .int b] (lawW x' v' u' h' x2 v2 u2 h2) rg = some (some (.int r), lawW x' v' u' h' x2' v2' u2' h2', rg) ∧ S3 (n + 200) x' v' u' h' x2' v2' u2' h2' := by
  obtain ⟨e, hu, hu2, s2⟩ := s
  obtain ⟨r, x', v', h', x2', h2', g1, g2, s'⟩ := pok_law a b n (NX x) (NL v) (NL u) (NHm h) (NX x2) (NL u2) (NHm h2) hn s2
  have c1 := cl_L_change hs0 (NX x) (NL v) (NL u) a b r (10, NHm h) (10, h') hs0 x' v' (NL u) g1 ⟨hs0_ok _, rfl, h14⟩
  have c2 := cl_L_change hs0 (NX x2) (NL v) (NL u2) a b r (10, NHm h2) (10, h2') hs0 x2' v' (NL u2) g2 ⟨hs0_ok _, rfl, h14⟩
  rw [← e] at c2
  have d1 := FB_o (x := x) (v := v) (u := u) (h := h) (x2 := x2) (v2 := v2) (u2 := u2) (h2 := h2) (rg := rg) c1 rfl rfl
  have d2 := FB_q (x := x') (v := v') (u := NL u) (h := h') (x2 := x2) (v2 := v2) (u2 := u2) (h2 := h2) (rg := rg) c2 rfl rfl
  exact ⟨r, x', v', NL u, h', x2', v', NL u2, h2', d1, d2, rfl, hu, hu2, s'.nh⟩
end LW
-- the run
def lsT (t : Nat) : pLs := [(3, .int (nI t)), (2, .ref 179), (1, .ref 0), (0, .ref 2000000)]
def lsU (t : Nat) (p q : Int32) : pLs := [(3, .int (nI t)), (5, .int p), (4, .int q), (2, .ref 179), (1, .ref 0), (0, .ref 2000000)]
/-- from here the law comes to its end with true -/
def GOOD (L : Nat) (xs : Nat → Int32) (rg : pRg) (ls : pLs) (w : pWd) : Prop := ∃ fu : Nat, ∃ x v u : pLV, ∃ h : Nat → pLV, ∃ x2 v2 u2 : pLV, ∃ h2 : Nat → pLV, ex (k_L_law L xs) fu 10 ls [] w rg = some (some (.int 1), lawW x v u h x2 v2 u2 h2, rg)
theorem two_t : ∀ t, t < 38 → ¬ 2 * nI t < 0 ∧ ¬ 2 * nI t + 1 < 0 := by decide
section LL
variable {L : Nat} {xs : Nat → Int32} {rg : pRg} {t : Nat} {x v u : pLV} {h : Nat → pLV} {x2 v2 u2 : pLV} {h2 : Nat → pLV}
def cA (L : Nat) (xs : Nat → Int32) (t : Nat) : Int32 := cellI L xs (2 * nI t)
def cB (L : Nat) (xs : Nat → Int32) (t : Nat) : Int32 := cellI L xs (2 * nI t + 1)
set_option maxHeartbeats 1000000 in
theorem tu_T1 (hL : L ≤ 260) (ht : t < 38) (h14 : lowI (cA L xs t) 22 = 14) {y w z : pLV} {g : Nat → pLV} (c3 : FBo_L_areAccounts [.ref 0] (lawW x v u h x2 v2 u2 h2) rg = some (some (.int 1), lawW x v u h x2 v2 u2 h2, rg)) (c4 : FBo_L_isLoop [.ref 0] (lawW x v u h x2 v2 u2 h2) rg = some (some (.int 1), lawW x v u h x2 v2 u2 h2, rg)) (c5 : FBo_L_isTick [.ref 0] (lawW x v u h x2 v2 u2 h2) rg = some (some (.int 1), lawW y w z g x2 v2 u2 h2, rg)) (H : GOOD L xs rg (lsU (t + 1) (cB L xs t) (cA L xs t)) (lawW y w z g x2 v2 u2 h2)) : GOOD L xs rg (lsT t) (lawW x v u h x2 v2 u2 h2) := by
  obtain ⟨fu, x', v', u', h', x2', v2', u2', h2', e⟩ := H
  obtain ⟨q1, q2⟩ := two_t t ht
  refine ⟨fu + 3, x', v', u', h', x2', v2', u2', h2', ?_⟩
  conv => lhs; whnf
  refine (pif_f (nI_ge (b := 38) ht (by omega))).trans ?_
  conv => lhs; whnf
  refine (pif_t ⟨q1, hL⟩).trans ?_
  conv => lhs; whnf
  refine (pif_t ⟨q2, hL⟩).trans ?_
  conv => lhs; whnf
  refine (callK_r (cl_L_low _ _ _ _ (by rw [lawW_len]; omega) (by decide)) (lawWbeq _ _ _ _ _ _ _ _ _ _ _ _ _ _ _ _)).trans ?_
  conv => lhs; whnf
  refine (pif_t h14).trans ?_
  conv => lhs; whnf
  refine (callK_r c3 (lawWbeq _ _ _ _ _ _ _ _ _ _ _ _ _ _ _ _)).trans ?_
  conv => lhs; whnf
  refine (pif_f (by decide)).trans ?_
  conv => lhs; whnf
  refine (callK_r c4 (lawWbeq _ _ _ _ _ _ _ _ _ _ _ _ _ _ _ _)).trans ?_
  conv => lhs; whnf
  refine (pif_f (by decide)).trans ?_
  conv => lhs; whnf
  refine (callK_r c5 (lawWbeq _ _ _ _ _ _ _ _ _ _ _ _ _ _ _ _)).trans ?_
  conv => lhs; whnf
  refine (pif_f (by decide)).trans ?_
  conv => lhs; whnf
  rw [nI_1]
  exact e
set_option maxHeartbeats 1000000 in
theorem tu_T0 (hL : L ≤ 260) (ht : t < 38) (h14 : ¬ lowI (cA L xs t) 22 = 14) {r : Int32} {xa va ua : pLV} {ha : Nat → pLV} {xb vb ub : pLV} {hb : Nat → pLV} {y w z : pLV} {g : Nat → pLV} (c1 : FBo_L_change [.ref 0, .int (cA L xs t), .int (cB L xs t)] (lawW x v u h x2 v2 u2 h2) rg = some (some (.int r), lawW xa va ua ha x2 v2 u2 h2, rg)) (c2 : FBq_L_change [.ref 179, .int (cA L xs t), .int (cB L xs t)] (lawW xa va ua ha x2 v2 u2 h2) rg = some (some (.int r), lawW xa va ua ha xb vb ub hb, rg)) (c3 : FBo_L_areAccounts [.ref 0] (lawW xa va ua ha xb vb ub hb) rg = some (some (.int 1), lawW xa va ua ha xb vb ub hb, rg)) (c4 : FBo_L_isLoop [.ref 0] (lawW xa va ua ha xb vb ub hb) rg = some (some (.int 1), lawW xa va ua ha xb vb ub hb, rg)) (c5 : FBo_L_isTick [.ref 0] (lawW xa va ua ha xb vb ub hb) rg = some (some (.int 1), lawW y w z g xb vb ub hb, rg)) (H : GOOD L xs rg (lsU (t + 1) (cB L xs t) (cA L xs t)) (lawW y w z g xb vb ub hb)) : GOOD L xs rg (lsT t) (lawW x v u h x2 v2 u2 h2) := by
  obtain ⟨fu, x', v', u', h', x2', v2', u2', h2', e⟩ := H
  obtain ⟨q1, q2⟩ := two_t t ht
  refine ⟨fu + 2, x', v', u', h', x2', v2', u2', h2', ?_⟩
  conv => lhs; whnf
  refine (pif_f (nI_ge (b := 38) ht (by omega))).trans ?_
  conv => lhs; whnf
  refine (pif_t ⟨q1, hL⟩).trans ?_
  conv => lhs; whnf
  refine (pif_t ⟨q2, hL⟩).trans ?_
  conv => lhs; whnf
  refine (callK_r (cl_L_low _ _ _ _ (by rw [lawW_len]; omega) (by decide)) (lawWbeq _ _ _ _ _ _ _ _ _ _ _ _ _ _ _ _)).trans ?_
  conv => lhs; whnf
  refine (pif_f h14).trans ?_
  conv => lhs; whnf
  refine (callK_r c1 (lawWbeq _ _ _ _ _ _ _ _ _ _ _ _ _ _ _ _)).trans ?_
  conv => lhs; whnf
  refine (callK_r c2 (lawWbeq _ _ _ _ _ _ _ _ _ _ _ _ _ _ _ _)).trans ?_
  conv => lhs; whnf
  refine (pif_t rfl).trans ?_
  conv => lhs; whnf
  refine (callK_r c3 (lawWbeq _ _ _ _ _ _ _ _ _ _ _ _ _ _ _ _)).trans ?_
  conv => lhs; whnf
  refine (pif_f (by decide)).trans ?_
  conv => lhs; whnf
  refine (callK_r c4 (lawWbeq _ _ _ _ _ _ _ _ _ _ _ _ _ _ _ _)).trans ?_
  conv => lhs; whnf
  refine (pif_f (by decide)).trans ?_
  conv => lhs; whnf
  refine (callK_r c5 (lawWbeq _ _ _ _ _ _ _ _ _ _ _ _ _ _ _ _)).trans ?_
  conv => lhs; whnf
  refine (pif_f (by decide)).trans ?_
  conv => lhs; whnf
  rw [nI_1]
  exact e
set_option maxHeartbeats 1000000 in
theorem tu_U1 {p q : Int32} (hL : L ≤ 260) (ht : t < 38) (h14 : lowI (cA L xs t) 22 = 14) {y w z : pLV} {g : Nat → pLV} (c3 : FBo_L_areAccounts [.ref 0] (lawW x v u h x2 v2 u2 h2) rg = some (some (.int 1), lawW x v u h x2 v2 u2 h2, rg)) (c4 : FBo_L_isLoop [.ref 0] (lawW x v u h x2 v2 u2 h2) rg = some (some (.int 1), lawW x v u h x2 v2 u2 h2, rg)) (c5 : FBo_L_isTick [.ref 0] (lawW x v u h x2 v2 u2 h2) rg = some (some (.int 1), lawW y w z g x2 v2 u2 h2, rg)) (H : GOOD L xs rg (lsU (t + 1) (cB L xs t) (cA L xs t)) (lawW y w z g x2 v2 u2 h2)) : GOOD L xs rg (lsU t p q) (lawW x v u h x2 v2 u2 h2) := by
  obtain ⟨fu, x', v', u', h', x2', v2', u2', h2', e⟩ := H
  obtain ⟨q1, q2⟩ := two_t t ht
  refine ⟨fu + 3, x', v', u', h', x2', v2', u2', h2', ?_⟩
  conv => lhs; whnf
  refine (pif_f (nI_ge (b := 38) ht (by omega))).trans ?_
  conv => lhs; whnf
  refine (pif_t ⟨q1, hL⟩).trans ?_
  conv => lhs; whnf
  refine (pif_t ⟨q2, hL⟩).trans ?_
  conv => lhs; whnf
  refine (callK_r (cl_L_low _ _ _ _ (by rw [lawW_len]; omega) (by decide)) (lawWbeq _ _ _ _ _ _ _ _ _ _ _ _ _ _ _ _)).trans ?_
  conv => lhs; whnf
  refine (pif_t h14).trans ?_
  conv => lhs; whnf
  refine (callK_r c3 (lawWbeq _ _ _ _ _ _ _ _ _ _ _ _ _ _ _ _)).trans ?_
  conv => lhs; whnf
  refine (pif_f (by decide)).trans ?_
  conv => lhs; whnf
  refine (callK_r c4 (lawWbeq _ _ _ _ _ _ _ _ _ _ _ _ _ _ _ _)).trans ?_
  conv => lhs; whnf
  refine (pif_f (by decide)).trans ?_
  conv => lhs; whnf
  refine (callK_r c5 (lawWbeq _ _ _ _ _ _ _ _ _ _ _ _ _ _ _ _)).trans ?_
  conv => lhs; whnf
  refine (pif_f (by decide)).trans ?_
  conv => lhs; whnf
  rw [nI_1]
  exact e
set_option maxHeartbeats 1000000 in
theorem tu_U0 {p q : Int32} (hL : L ≤ 260) (ht : t < 38) (h14 : ¬ lowI (cA L xs t) 22 = 14) {r : Int32} {xa va ua : pLV} {ha : Nat → pLV} {xb vb ub : pLV} {hb : Nat → pLV} {y w z : pLV} {g : Nat → pLV} (c1 : FBo_L_change [.ref 0, .int (cA L xs t), .int (cB L xs t)] (lawW x v u h x2 v2 u2 h2) rg = some (some (.int r), lawW xa va ua ha x2 v2 u2 h2, rg)) (c2 : FBq_L_change [.ref 179, .int (cA L xs t), .int (cB L xs t)] (lawW xa va ua ha x2 v2 u2 h2) rg = some (some (.int r), lawW xa va ua ha xb vb ub hb, rg)) (c3 : FBo_L_areAccounts [.ref 0] (lawW xa va ua ha xb vb ub hb) rg = some (some (.int 1), lawW xa va ua ha xb vb ub hb, rg)) (c4 : FBo_L_isLoop [.ref 0] (lawW xa va ua ha xb vb ub hb) rg = some (some (.int 1), lawW xa va ua ha xb vb ub hb, rg)) (c5 : FBo_L_isTick [.ref 0] (lawW xa va ua ha xb vb ub hb) rg = some (some (.int 1), lawW y w z g xb vb ub hb, rg)) (H : GOOD L xs rg (lsU (t + 1) (cB L xs t) (cA L xs t)) (lawW y w z g xb vb ub hb)) : GOOD L xs rg (lsU t p q) (lawW x v u h x2 v2 u2 h2) := by
  obtain ⟨fu, x', v', u', h', x2', v2', u2', h2', e⟩ := H
  obtain ⟨q1, q2⟩ := two_t t ht
  refine ⟨fu + 2, x', v', u', h', x2', v2', u2', h2', ?_⟩
  conv => lhs; whnf
  refine (pif_f (nI_ge (b := 38) ht (by omega))).trans ?_
  conv => lhs; whnf
  refine (pif_t ⟨q1, hL⟩).trans ?_
  conv => lhs; whnf
  refine (pif_t ⟨q2, hL⟩).trans ?_
  conv => lhs; whnf
  refine (callK_r (cl_L_low _ _ _ _ (by rw [lawW_len]; omega) (by decide)) (lawWbeq _ _ _ _ _ _ _ _ _ _ _ _ _ _ _ _)).trans ?_
  conv => lhs; whnf
  refine (pif_f h14).trans ?_
  conv => lhs; whnf
  refine (callK_r c1 (lawWbeq _ _ _ _ _ _ _ _ _ _ _ _ _ _ _ _)).trans ?_
  conv => lhs; whnf
  refine (callK_r c2 (lawWbeq _ _ _ _ _ _ _ _ _ _ _ _ _ _ _ _)).trans ?_
  conv => lhs; whnf
  refine (pif_t rfl).trans ?_
  conv => lhs; whnf
  refine (callK_r c3 (lawWbeq _ _ _ _ _ _ _ _ _ _ _ _ _ _ _ _)).trans ?_
  conv => lhs; whnf
  refine (pif_f (by decide)).trans ?_
  conv => lhs; whnf
  refine (callK_r c4 (lawWbeq _ _ _ _ _ _ _ _ _ _ _ _ _ _ _ _)).trans ?_
  conv => lhs; whnf
  refine (pif_f (by decide)).trans ?_
  conv => lhs; whnf
  refine (callK_r c5 (lawWbeq _ _ _ _ _ _ _ _ _ _ _ _ _ _ _ _)).trans ?_
  conv => lhs; whnf
  refine (pif_f (by decide)).trans ?_
  conv => lhs; whnf
  rw [nI_1]
  exact e
set_option maxHeartbeats 800000 in
theorem tu_end {p q : Int32} (s : S3 10000 x v u h x2 v2 u2 h2) : GOOD L xs rg (lsU 38 p q) (lawW x v u h x2 v2 u2 h2) := by
  have c := cl_L_areAlike x v u h x2 v2 u2 h2 rg s.1 s.2.1 s.2.2.1
  refine ⟨2, NX x, NL v, alU (NL v) (NL u), NHm h, NX x2, NL v2, alU (NL v2) (NL u2), NHm h2, ?_⟩
  conv => lhs; whnf
  refine (pif_t (by decide)).trans ?_
  conv => lhs; whnf
  refine (callK_r c (lawWbeq _ _ _ _ _ _ _ _ _ _ _ _ _ _ _ _)).trans ?_
  conv => lhs; whnf
  exact pif_t (Or.inr rfl)
end LL
theorem law_turns {L : Nat} {xs : Nat → Int32} (rg : pRg) (hL : L ≤ 260) : ∀ (d t : Nat), t + d = 38 → ∀ (x v u : pLV) (h : Nat → pLV) (x2 v2 u2 : pLV) (h2 : Nat → pLV), S3 (200 * t) x v u h x2 v2 u2 h2 → ∀ ls, ((ls = lsT t ∧ 0 < d) ∨ ∃ p q, ls = lsU t p q) → GOOD L xs rg ls (lawW x v u h x2 v2 u2 h2) := by
  intro d
  induction d with
  | zero =>
    intro t ht x v u h x2 v2 u2 h2 s ls hl
    obtain rfl : t = 38 := by omega
    rcases hl with ⟨-, q⟩ | ⟨p, q, rfl⟩
    · exact absurd q (Nat.lt_irrefl 0)
    · exact tu_end (s.up (by omega))
  | succ d ih =>
    intro t ht x v u h x2 v2 u2 h2 s ls hl
    have ht2 : t < 38 := by omega
    by_cases h14 : lowI (cA L xs t) 22 = 14
    · obtain ⟨x', v', u', h', c5, s5⟩ := lw_tic rg s
      have c3 := lw_acc rg s
      have c4 := lw_loo rg (by omega) s
      have H := ih (t + 1) (by omega) x' v' u' h' x2 v2 u2 h2 (s5.up (by omega)) _ (Or.inr ⟨cB L xs t, cA L xs t, rfl⟩)
      rcases hl with ⟨rfl, -⟩ | ⟨p, q, rfl⟩
      · exact tu_T1 hL ht2 h14 c3 c4 c5 H
      · exact tu_U1 hL ht2 h14 c3 c4 c5 H
    · obtain ⟨r, xa, va, ua, ha, xb, vb, ub, hb, c1, c2, sa⟩ := lw_chg rg (by omega) (cA L xs t) (cB L xs t) h14 s
      obtain ⟨x', v', u', h', c5, s5⟩ := lw_tic rg sa
      have c3 := lw_acc rg sa
      have c4 := lw_loo rg (by omega) sa
      have H := ih (t + 1) (by omega) x' v' u' h' xb vb ub hb (s5.up (by omega)) _ (Or.inr ⟨cB L xs t, cA L xs t, rfl⟩)
      rcases hl with ⟨rfl, -⟩ | ⟨p, q, rfl⟩
      · exact tu_T0 hL ht2 h14 c1 c2 c3 c4 c5 H
      · exact tu_U0 hL ht2 h14 c1 c2 c3 c4 c5 H
-- the start
def x00 : pLV := fun _ => z0
theorem iniV_rm : IRm iniV := ⟨rfl, rfl, rfl, rfl⟩
theorem J_0 : J 0 iniV := by
  have c1 : CH 20000 (400 : Int32) 9600 := ⟨by decide, by decide, by decide⟩
  have c2 : CH 30000 (0 : Int32) 0 := ⟨by decide, by decide, by decide⟩
  have c3 : CH 10000 (0 : Int32) 0 := ⟨by decide, by decide, by decide⟩
  have i1 : IB 0 3 (0 : Int32) := ⟨by decide, by decide⟩
  have i2 : IB 0 50 (0 : Int32) := ⟨by decide, by decide⟩
  have i3 : IB 0 20 (0 : Int32) := ⟨by decide, by decide⟩
  have i4 : IB 0 3000 (0 : Int32) := ⟨by decide, by decide⟩
  have z1 : (0 : Int32).toInt ≤ 20000 := by decide
  have z2 : (0 : Int32).toInt ≤ 30000 := by decide
  have z3 : (0 : Int32).toInt ≤ 10000 := by decide
  have s0 : IB 0 200 (40 : Int32) := ⟨by decide, by decide⟩
  have s1 : IB 0 5000 (960 : Int32) := ⟨by decide, by decide⟩
  have s2 : IB 0 2000 (500 : Int32) := ⟨by decide, by decide⟩
  have s3 : IB 0 1000 (300 : Int32) := ⟨by decide, by decide⟩
  have s7 : IB 0 2000 (500 : Int32) := ⟨by decide, by decide⟩
  have s8 : IB 0 20 (5 : Int32) := ⟨by decide, by decide⟩
  refine ⟨⟨iniV_rm, ⟨c1, c2, c3, c3⟩, ⟨z1, z2, z3, z3⟩, ⟨s0, s1, s2, s3, s7, s8⟩, ⟨i1, i2, i3, i4⟩, ⟨0, by omega, rfl, fun j hj => absurd hj (Nat.not_lt_zero j), fun j hj => absurd hj (Nat.not_lt_zero _)⟩⟩, ?_, ⟨0, 0, by omega, by omega, rfl, rfl, Or.inl ⟨rfl, rfl, rfl⟩⟩⟩
  show (400 : Int32) + 0 + 0 = (0 + 0 + 0 + 0 + 0) + 0 + 0 + (400 + 0 + 0 + 0) + 0
  decide
theorem S3_0 : S3 0 x00 iniV iniV (fun _ => iniV) x00 iniV iniV (fun _ => iniV) := by
  have hx : XR x00 := ⟨0, 0, by omega, by omega, rfl, rfl⟩
  have hr : HRm (fun _ => iniV) := fun _ _ => iniV_rm
  have g : S2 0 x00 iniV (fun _ => iniV) x00 (fun _ => iniV) := ⟨J_0, hx, hx, ⟨0, rfl, by omega⟩, hr, hr, ⟨fun q => absurd rfl q, fun q => absurd rfl q⟩, ⟨fun _ _ _ => rfl, rfl, rfl, rfl, rfl⟩, rfl, rfl⟩
  exact ⟨rfl, iniV_rm, iniV_rm, g.nh⟩
theorem law_loop {L : Nat} {xs : Nat → Int32} (rg : pRg) (hL : L ≤ 260) : GOOD L xs rg (lsT 0) (lawW x00 iniV iniV (fun _ => iniV) x00 iniV iniV (fun _ => iniV)) :=
  law_turns rg hL 38 0 (by omega) _ _ _ _ _ _ _ _ S3_0 _ (Or.inl ⟨rfl, by omega⟩)
end
