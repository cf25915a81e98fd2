noncomputable section
/-! THE LAW'S isTick: a tick that is foretold, done, and undone -/
def IRm (v : pLV) : Prop := v 0 30 = 20000 ∧ v 0 31 = 30000 ∧ v 0 32 = 10000 ∧ v 0 33 = 10000
def XR (x : pLV) : Prop := ∃ s q : Nat, s ≤ 8 ∧ q < 8 ∧ x 0 4 = nI s ∧ x 0 3 = nI q
theorem cpy_nl {u v : pLV} (hu : IRm u) (hv : IRm v) : cpyV u v = NL v := by
  unfold cpyV NL
  rw [hu.1, hu.2.1, hu.2.2.1, hu.2.2.2, hv.1, hv.2.1, hv.2.2.1, hv.2.2.2]
theorem latT_1 {u v : pLV} (hu : IRm u) (hv : IRm v) : latT (NL v) (NL u) 1 = tickV (NL v) := by
  unfold latT
  rw [show (1 : Int32).toNatClampNeg = 1 from by decide, cpy_nl (u := NL u) (v := NL v) hu hv]
  rfl
theorem later_B (x v : pLV) (a : Int32) (h0 : ¬ a < 0) (h3 : ¬ 3 < a) : clater_B x v 1 a = 0 := (if_neg (by decide)).trans ((if_neg (by decide)).trans ((if_neg h0).trans ((if_neg h3).trans rfl)))
theorem rd_later0 (f : Nat → Option Nat) (x v u : pLV) (rg : pRg) (hc : bOK f rg) (hv : IRm v) (hu : IRm u) : F_X8_later [.ref 0, .int 1, .int 0] (cw f x v u) rg = some (some (.int (sumP (tickV (NL v) 2) 4 - sumP (v 2) 4)), cw f x v (tickV (NL v)), rg) := by
  have hB := later_B (NX x) (NL v) 0 (by decide) (by decide)
  have eR : clater_R (NX x) (NL v) (NL u) rg.2 1 0 = sumP (tickV (NL v) 2) 4 - sumP (v 2) 4 := by
    refine (if_pos hB).trans ((if_pos rfl).trans ?_)
    rw [latT_1 hu hv]
    rfl
  have eU : clater_U (NX x) (NL v) (NL u) rg.2 1 0 = tickV (NL v) := (if_pos hB).trans (latT_1 hu hv)
  refine (cl_X8_later f x v u 1 0 rg hc).trans ?_
  rw [eR, eU]
  rfl
theorem rd_later1 (f : Nat → Option Nat) (x v u : pLV) (rg : pRg) (hc : bOK f rg) (hv : IRm v) (hu : IRm u) : F_X8_later [.ref 0, .int 1, .int 1] (cw f x v u) rg = some (some (.int (tickV (NL v) 0 24 - v 0 24)), cw f x v (tickV (NL v)), rg) := by
  have hB := later_B (NX x) (NL v) 1 (by decide) (by decide)
  have eR : clater_R (NX x) (NL v) (NL u) rg.2 1 1 = tickV (NL v) 0 24 - v 0 24 := by
    refine (if_pos hB).trans ((if_neg (by decide)).trans ((if_pos rfl).trans ?_))
    rw [latT_1 hu hv]
    rfl
  have eU : clater_U (NX x) (NL v) (NL u) rg.2 1 1 = tickV (NL v) := (if_pos hB).trans (latT_1 hu hv)
  refine (cl_X8_later f x v u 1 1 rg hc).trans ?_
  rw [eR, eU]
  rfl
theorem rd_run1 (f : Nat → Option Nat) (x v u : pLV) (rg : pRg) (hc : bOK f rg) : F_X8_run [.ref 0, .int 1] (cw f x v u) rg = some (some (.int (sumP (tickV (NL v) 2) 4 - sumP (v 2) 4)), cw f (xRem (NX x)) (tickV (NL v)) u, (rg.1, hRem (NX x) (NL v) rg.2)) := by
  have hB : crun_B (NX x) (NL v) 1 = 0 := (if_neg (by decide)).trans ((if_neg (by decide)).trans rfl)
  have e1 : (1 : Int32).toNatClampNeg = 1 := by decide
  have eR : crun_R (NX x) (NL v) (NL u) rg.2 1 = sumP (tickV (NL v) 2) 4 - sumP (v 2) 4 := by
    refine (if_pos hB).trans ?_
    rw [e1]
    rfl
  have eX : crun_X (NX x) (NL v) (NL u) rg.2 1 = xRem (NX x) := if_pos hB
  have eV : crun_V (NX x) (NL v) (NL u) rg.2 1 = tickV (NL v) := by
    refine (if_pos hB).trans ?_
    rw [e1]
    rfl
  have eH : crun_H (NX x) (NL v) (NL u) rg.2 1 = hRem (NX x) (NL v) rg.2 := if_pos hB
  refine (cl_X8_run f x v u 1 rg hc).trans ?_
  rw [eR, eX, eV, eH]
  rfl
theorem nw_q {n : Int32} {q : Nat} (h : n = nI q) (hq : q < 8) : nwI n = nI ((q + 1) % 8) := by
  subst h
  rcases (show q = 0 ∨ q = 1 ∨ q = 2 ∨ q = 3 ∨ q = 4 ∨ q = 5 ∨ q = 6 ∨ q = 7 by omega) with rfl | rfl | rfl | rfl | rfl | rfl | rfl | rfl <;> decide
theorem mn_s {s : Nat} (hs : s ≤ 8) : mnI (nI s + 1) 8 = nI (min (s + 1) 8) := by
  rcases (show s = 0 ∨ s = 1 ∨ s = 2 ∨ s = 3 ∨ s = 4 ∨ s = 5 ∨ s = 6 ∨ s = 7 ∨ s = 8 by omega) with rfl | rfl | rfl | rfl | rfl | rfl | rfl | rfl | rfl <;> decide
theorem pr_q {n : Int32} {q : Nat} (h : n = nI q) (hq : q < 8) : ∃ r : Nat, r < 8 ∧ prI n = nI r := by
  subst h
  rcases (show q = 0 ∨ q = 1 ∨ q = 2 ∨ q = 3 ∨ q = 4 ∨ q = 5 ∨ q = 6 ∨ q = 7 by omega) with rfl | rfl | rfl | rfl | rfl | rfl | rfl | rfl
  · exact ⟨7, by omega, by decide⟩
  · exact ⟨0, by omega, by decide⟩
  · exact ⟨1, by omega, by decide⟩
  · exact ⟨2, by omega, by decide⟩
  · exact ⟨3, by omega, by decide⟩
  · exact ⟨4, by omega, by decide⟩
  · exact ⟨5, by omega, by decide⟩
  · exact ⟨6, by omega, by decide⟩
def ticX (x : pLV) : pLV := xRes (NX (xRem (NX x)))
theorem XR_rem {x : pLV} (h : XR x) : ∃ s q : Nat, 1 ≤ s ∧ s ≤ 8 ∧ q < 8 ∧ xRem x 0 4 = nI s ∧ xRem x 0 3 = nI q := by
  obtain ⟨s, q, h1, h2, h3, h4⟩ := h
  refine ⟨min (s + 1) 8, (q + 1) % 8, by omega, by omega, by omega, ?_, nw_q h4 h2⟩
  show mnI (x 0 4 + 1) 8 = _
  rw [h3, mn_s h1]
theorem XR.rem {x : pLV} (h : XR x) : XR (xRem x) := by
  obtain ⟨s, q, _, h1, h2, h3, h4⟩ := XR_rem h
  exact ⟨s, q, h1, h2, h3, h4⟩
theorem XR.tic {x : pLV} (h : XR x) : XR (ticX x) := by
  obtain ⟨s, q, h0, h1, h2, h3, h4⟩ := XR_rem (x := NX x) h
  obtain ⟨r, hr, e⟩ := pr_q h4 h2
  refine ⟨s - 1, r, by omega, hr, ?_, e⟩
  show xRem (NX x) 0 4 - 1 = _
  rw [h3]
  obtain ⟨z, rfl⟩ : ∃ z, s = z + 1 := ⟨s - 1, by omega⟩
  exact nI_pred z
theorem cw_nlv (f : Nat → Option Nat) (x v u : pLV) : cw f x (NL v) u = cw f x v u := rfl
theorem cw_nlu (f : Nat → Option Nat) (x v u : pLV) : cw f x v (NL u) = cw f x v u := rfl
theorem undo_gen (f : Nat → Option Nat) (x1 y u w : pLV) (rg1 : pRg) (z : Nat) (hz : z < 8) (hc : bOK f rg1) (h3 : x1 0 4 = nI (z + 1)) (h4 : 0 ≤ x1 0 3 ∧ x1 0 3 ≤ 7) (hw : cpyV (NL y) (rg1.2 (x1 0 3).toNatClampNeg) = w) : F_X8_undo [.ref 0] (cw f x1 y u) rg1 = some (some (.int (nI z)), cw f (xRes (NX x1)) w u, rg1) := by
  have hB : cundo_B (NX x1) (NL y) = 0 := if_neg (by
    show ¬ x1 0 4 ≤ 0
    rw [h3]
    exact nI_nle (by omega) (by omega))
  have eR : cundo_R (NX x1) (NL y) (NL u) rg1.2 = nI z := by
    refine (if_pos hB).trans ?_
    show x1 0 4 - 1 = _
    rw [h3]
    exact nI_pred z
  have eX : cundo_X (NX x1) (NL y) (NL u) rg1.2 = xRes (NX x1) := if_pos hB
  have eV : cundo_V (NX x1) (NL y) (NL u) rg1.2 = w := (if_pos hB).trans hw
  refine (cl_X8_undo f x1 y u rg1 ⟨hc, h4⟩).trans ?_
  rw [eR, eX, eV, cw_nlu]
theorem hRem_at (x v : pLV) (h : Nat → pLV) (k : Nat) (hk : k = (nwI (x 0 3)).toNatClampNeg) : hRem x v h k = cpyV (h k) v := by
  subst hk
  exact if_pos rfl
theorem cpy_cpy (y a v : pLV) : cpyV y (cpyV a v) = cpyV y v := rfl
theorem rd_undo1 (f : Nat → Option Nat) (x v y u : pLV) (rg : pRg) (hc : bOK f rg) (hx : XR x) (hv : IRm v) (hy : IRm y) : ∃ r : Int32, ¬ r < 0 ∧ F_X8_undo [.ref 0] (cw f (xRem (NX x)) y u) (rg.1, hRem (NX x) (NL v) rg.2) = some (some (.int r), cw f (ticX x) v u, (rg.1, hRem (NX x) (NL v) rg.2)) := by
  obtain ⟨s, q, h0, h1, h2, h3, h4⟩ := XR_rem (x := NX x) hx
  obtain ⟨z, rfl⟩ : ∃ z, s = z + 1 := ⟨s - 1, by omega⟩
  refine ⟨nI z, nI_pos (by omega), ?_⟩
  have e1 : hRem (NX x) (NL v) rg.2 (xRem (NX x) 0 3).toNatClampNeg = cpyV (rg.2 (xRem (NX x) 0 3).toNatClampNeg) (NL v) := hRem_at (NX x) (NL v) rg.2 _ rfl
  have hw : cpyV (NL y) (hRem (NX x) (NL v) rg.2 (xRem (NX x) 0 3).toNatClampNeg) = NL (NL v) := by
    rw [e1, cpy_cpy]
    exact cpy_nl (u := NL y) (v := NL v) hy hv
  generalize hRem (NX x) (NL v) rg.2 = H at hw ⊢
  have h6 : 0 ≤ xRem (NX x) 0 3 ∧ xRem (NX x) 0 3 ≤ 7 := by
    rw [h4]
    exact ⟨nI_pos' (by omega), nI_le (b := 7) (by omega) (by omega)⟩
  have g := undo_gen f (xRem (NX x)) y u (NL (NL v)) (rg.1, H) z (by omega) hc h3 h6 hw
  rw [cw_nlv, cw_nlv] at g
  exact g
/-- what a tick brings -/
def TicF (v y : pLV) : Prop := ((y 0 6 = v 0 6 + 1 ∧ sumP (y 2) 4 = sumP (v 2) 4 ∧ y 0 4 = y 0 1) ∨ (¬ y 0 6 = v 0 6 + 1 ∧ y 0 26 = v 0 26 ∧ y 0 2 = 0 ∧ y 0 3 = 0)) ∧ ¬ 1000 < ltC (y 0 28) (y 3 0) ∧ (y 0 5 = 1 → y 1 3 = 0)
def TicC (x v u : pLV) : Prop := XR x ∧ IRm v ∧ IRm u ∧ IRm (tickV (NL v)) ∧ TicF v (tickV (NL v))
theorem dL_isTick_0 : decode cL_isTick 0 = .ok (.aload_n 0, 1) := by decide +kernel
theorem dL_isTick_1 : decode cL_isTick 1 = .ok (.bipush 10, 2) := by decide +kernel
theorem dL_isTick_3 : decode cL_isTick 3 = .ok (.invokevirtual 83, 3) := by decide +kernel
theorem dL_isTick_6 : decode cL_isTick 6 = .ok (.istore_n 1, 1) := by decide +kernel
theorem dL_isTick_7 : decode cL_isTick 7 = .ok (.aload_n 0, 1) := by decide +kernel
theorem dL_isTick_8 : decode cL_isTick 8 = .ok (.iconst 2, 1) := by decide +kernel
theorem dL_isTick_9 : decode cL_isTick 9 = .ok (.invokevirtual 76, 3) := by decide +kernel
theorem dL_isTick_12 : decode cL_isTick 12 = .ok (.istore_n 2, 1) := by decide +kernel
theorem dL_isTick_13 : decode cL_isTick 13 = .ok (.aload_n 0, 1) := by decide +kernel
theorem dL_isTick_14 : decode cL_isTick 14 = .ok (.bipush 7, 2) := by decide +kernel
theorem dL_isTick_16 : decode cL_isTick 16 = .ok (.invokevirtual 76, 3) := by decide +kernel
theorem dL_isTick_19 : decode cL_isTick 19 = .ok (.istore_n 3, 1) := by decide +kernel
theorem dL_isTick_20 : decode cL_isTick 20 = .ok (.aload_n 0, 1) := by decide +kernel
theorem dL_isTick_21 : decode cL_isTick 21 = .ok (.iconst 1, 1) := by decide +kernel
theorem dL_isTick_22 : decode cL_isTick 22 = .ok (.iconst 0, 1) := by decide +kernel
theorem dL_isTick_23 : decode cL_isTick 23 = .ok (.invokevirtual 89, 3) := by decide +kernel
theorem dL_isTick_26 : decode cL_isTick 26 = .ok (.istore 4, 2) := by decide +kernel
theorem dL_isTick_28 : decode cL_isTick 28 = .ok (.aload_n 0, 1) := by decide +kernel
theorem dL_isTick_29 : decode cL_isTick 29 = .ok (.iconst 1, 1) := by decide +kernel
theorem dL_isTick_30 : decode cL_isTick 30 = .ok (.iconst 1, 1) := by decide +kernel
theorem dL_isTick_31 : decode cL_isTick 31 = .ok (.invokevirtual 89, 3) := by decide +kernel
theorem dL_isTick_34 : decode cL_isTick 34 = .ok (.istore 5, 2) := by decide +kernel
theorem dL_isTick_36 : decode cL_isTick 36 = .ok (.aload_n 0, 1) := by decide +kernel
theorem dL_isTick_37 : decode cL_isTick 37 = .ok (.iconst 3, 1) := by decide +kernel
theorem dL_isTick_38 : decode cL_isTick 38 = .ok (.invokevirtual 76, 3) := by decide +kernel
theorem dL_isTick_41 : decode cL_isTick 41 = .ok (.istore 6, 2) := by decide +kernel
theorem dL_isTick_43 : decode cL_isTick 43 = .ok (.aload_n 0, 1) := by decide +kernel
theorem dL_isTick_44 : decode cL_isTick 44 = .ok (.iconst 1, 1) := by decide +kernel
theorem dL_isTick_45 : decode cL_isTick 45 = .ok (.invokevirtual 64, 3) := by decide +kernel
theorem dL_isTick_48 : decode cL_isTick 48 = .ok (.istore 7, 2) := by decide +kernel
theorem dL_isTick_50 : decode cL_isTick 50 = .ok (.aload_n 0, 1) := by decide +kernel
theorem dL_isTick_51 : decode cL_isTick 51 = .ok (.bipush 10, 2) := by decide +kernel
theorem dL_isTick_53 : decode cL_isTick 53 = .ok (.invokevirtual 83, 3) := by decide +kernel
theorem dL_isTick_56 : decode cL_isTick 56 = .ok (.iload_n 1, 1) := by decide +kernel
theorem dL_isTick_57 : decode cL_isTick 57 = .ok (.iconst 1, 1) := by decide +kernel
theorem dL_isTick_58 : decode cL_isTick 58 = .ok (.iadd, 1) := by decide +kernel
theorem dL_isTick_59 : decode cL_isTick 59 = .ok (.if_icmp .ne 7, 3) := by decide +kernel
theorem dL_isTick_62 : decode cL_isTick 62 = .ok (.iconst 1, 1) := by decide +kernel
theorem dL_isTick_63 : decode cL_isTick 63 = .ok (.goto 4, 3) := by decide +kernel
theorem dL_isTick_66 : decode cL_isTick 66 = .ok (.iconst 0, 1) := by decide +kernel
theorem dL_isTick_67 : decode cL_isTick 67 = .ok (.istore 8, 2) := by decide +kernel
theorem dL_isTick_69 : decode cL_isTick 69 = .ok (.iload 7, 2) := by decide +kernel
theorem dL_isTick_71 : decode cL_isTick 71 = .ok (.iload 4, 2) := by decide +kernel
theorem dL_isTick_73 : decode cL_isTick 73 = .ok (.if_icmp .ne 67, 3) := by decide +kernel
theorem dL_isTick_76 : decode cL_isTick 76 = .ok (.aload_n 0, 1) := by decide +kernel
theorem dL_isTick_77 : decode cL_isTick 77 = .ok (.iconst 2, 1) := by decide +kernel
theorem dL_isTick_78 : decode cL_isTick 78 = .ok (.invokevirtual 76, 3) := by decide +kernel
theorem dL_isTick_81 : decode cL_isTick 81 = .ok (.iload_n 2, 1) := by decide +kernel
theorem dL_isTick_82 : decode cL_isTick 82 = .ok (.iload 7, 2) := by decide +kernel
theorem dL_isTick_84 : decode cL_isTick 84 = .ok (.iadd, 1) := by decide +kernel
theorem dL_isTick_85 : decode cL_isTick 85 = .ok (.if_icmp .ne 55, 3) := by decide +kernel
theorem dL_isTick_88 : decode cL_isTick 88 = .ok (.aload_n 0, 1) := by decide +kernel
theorem dL_isTick_89 : decode cL_isTick 89 = .ok (.iconst 3, 1) := by decide +kernel
theorem dL_isTick_90 : decode cL_isTick 90 = .ok (.invokevirtual 76, 3) := by decide +kernel
theorem dL_isTick_93 : decode cL_isTick 93 = .ok (.iload 6, 2) := by decide +kernel
theorem dL_isTick_95 : decode cL_isTick 95 = .ok (.iload 5, 2) := by decide +kernel
theorem dL_isTick_97 : decode cL_isTick 97 = .ok (.iadd, 1) := by decide +kernel
theorem dL_isTick_98 : decode cL_isTick 98 = .ok (.if_icmp .ne 42, 3) := by decide +kernel
theorem dL_isTick_101 : decode cL_isTick 101 = .ok (.iload 8, 2) := by decide +kernel
theorem dL_isTick_103 : decode cL_isTick 103 = .ok (.ifCond .eq 11, 3) := by decide +kernel
theorem dL_isTick_106 : decode cL_isTick 106 = .ok (.iload 7, 2) := by decide +kernel
theorem dL_isTick_108 : decode cL_isTick 108 = .ok (.ifCond .ne 32, 3) := by decide +kernel
theorem dL_isTick_111 : decode cL_isTick 111 = .ok (.goto 13, 3) := by decide +kernel
theorem dL_isTick_114 : decode cL_isTick 114 = .ok (.aload_n 0, 1) := by decide +kernel
theorem dL_isTick_115 : decode cL_isTick 115 = .ok (.bipush 7, 2) := by decide +kernel
theorem dL_isTick_117 : decode cL_isTick 117 = .ok (.invokevirtual 76, 3) := by decide +kernel
theorem dL_isTick_120 : decode cL_isTick 120 = .ok (.iload_n 3, 1) := by decide +kernel
theorem dL_isTick_121 : decode cL_isTick 121 = .ok (.if_icmp .ne 19, 3) := by decide +kernel
theorem dL_isTick_124 : decode cL_isTick 124 = .ok (.aload_n 0, 1) := by decide +kernel
theorem dL_isTick_125 : decode cL_isTick 125 = .ok (.bipush 7, 2) := by decide +kernel
theorem dL_isTick_127 : decode cL_isTick 127 = .ok (.invokevirtual 83, 3) := by decide +kernel
theorem dL_isTick_130 : decode cL_isTick 130 = .ok (.sipush 1000, 3) := by decide +kernel
theorem dL_isTick_133 : decode cL_isTick 133 = .ok (.if_icmp .gt 7, 3) := by decide +kernel
theorem dL_isTick_136 : decode cL_isTick 136 = .ok (.iconst 1, 1) := by decide +kernel
theorem dL_isTick_137 : decode cL_isTick 137 = .ok (.goto 4, 3) := by decide +kernel
theorem dL_isTick_140 : decode cL_isTick 140 = .ok (.iconst 0, 1) := by decide +kernel
theorem dL_isTick_141 : decode cL_isTick 141 = .ok (.istore 9, 2) := by decide +kernel
theorem dL_isTick_143 : decode cL_isTick 143 = .ok (.iload 9, 2) := by decide +kernel
theorem dL_isTick_145 : decode cL_isTick 145 = .ok (.ifCond .eq 64, 3) := by decide +kernel
theorem dL_isTick_148 : decode cL_isTick 148 = .ok (.iload 8, 2) := by decide +kernel
theorem dL_isTick_150 : decode cL_isTick 150 = .ok (.ifCond .ne 19, 3) := by decide +kernel
theorem dL_isTick_153 : decode cL_isTick 153 = .ok (.aload_n 0, 1) := by decide +kernel
theorem dL_isTick_154 : decode cL_isTick 154 = .ok (.iconst 2, 1) := by decide +kernel
theorem dL_isTick_155 : decode cL_isTick 155 = .ok (.invokevirtual 83, 3) := by decide +kernel
theorem dL_isTick_158 : decode cL_isTick 158 = .ok (.ifCond .ne 51, 3) := by decide +kernel
theorem dL_isTick_161 : decode cL_isTick 161 = .ok (.aload_n 0, 1) := by decide +kernel
theorem dL_isTick_162 : decode cL_isTick 162 = .ok (.iconst 3, 1) := by decide +kernel
theorem dL_isTick_163 : decode cL_isTick 163 = .ok (.invokevirtual 83, 3) := by decide +kernel
theorem dL_isTick_166 : decode cL_isTick 166 = .ok (.ifCond .ne 43, 3) := by decide +kernel
theorem dL_isTick_169 : decode cL_isTick 169 = .ok (.iload 8, 2) := by decide +kernel
theorem dL_isTick_171 : decode cL_isTick 171 = .ok (.ifCond .eq 16, 3) := by decide +kernel
theorem dL_isTick_174 : decode cL_isTick 174 = .ok (.aload_n 0, 1) := by decide +kernel
theorem dL_isTick_175 : decode cL_isTick 175 = .ok (.iconst 5, 1) := by decide +kernel
theorem dL_isTick_176 : decode cL_isTick 176 = .ok (.invokevirtual 83, 3) := by decide +kernel
theorem dL_isTick_179 : decode cL_isTick 179 = .ok (.aload_n 0, 1) := by decide +kernel
theorem dL_isTick_180 : decode cL_isTick 180 = .ok (.iconst 1, 1) := by decide +kernel
theorem dL_isTick_181 : decode cL_isTick 181 = .ok (.invokevirtual 83, 3) := by decide +kernel
theorem dL_isTick_184 : decode cL_isTick 184 = .ok (.if_icmp .ne 25, 3) := by decide +kernel
theorem dL_isTick_187 : decode cL_isTick 187 = .ok (.aload_n 0, 1) := by decide +kernel
theorem dL_isTick_188 : decode cL_isTick 188 = .ok (.bipush 6, 2) := by decide +kernel
theorem dL_isTick_190 : decode cL_isTick 190 = .ok (.invokevirtual 83, 3) := by decide +kernel
theorem dL_isTick_193 : decode cL_isTick 193 = .ok (.iconst 1, 1) := by decide +kernel
theorem dL_isTick_194 : decode cL_isTick 194 = .ok (.if_icmp .ne 11, 3) := by decide +kernel
theorem dL_isTick_197 : decode cL_isTick 197 = .ok (.aload_n 0, 1) := by decide +kernel
theorem dL_isTick_198 : decode cL_isTick 198 = .ok (.iconst 3, 1) := by decide +kernel
theorem dL_isTick_199 : decode cL_isTick 199 = .ok (.invokevirtual 92, 3) := by decide +kernel
theorem dL_isTick_202 : decode cL_isTick 202 = .ok (.ifCond .ne 7, 3) := by decide +kernel
theorem dL_isTick_205 : decode cL_isTick 205 = .ok (.iconst 1, 1) := by decide +kernel
theorem dL_isTick_206 : decode cL_isTick 206 = .ok (.goto 4, 3) := by decide +kernel
theorem dL_isTick_209 : decode cL_isTick 209 = .ok (.iconst 0, 1) := by decide +kernel
theorem dL_isTick_210 : decode cL_isTick 210 = .ok (.istore 9, 2) := by decide +kernel
theorem dL_isTick_212 : decode cL_isTick 212 = .ok (.aload_n 0, 1) := by decide +kernel
theorem dL_isTick_213 : decode cL_isTick 213 = .ok (.invokevirtual 55, 3) := by decide +kernel
theorem dL_isTick_216 : decode cL_isTick 216 = .ok (.ifCond .lt 31, 3) := by decide +kernel
theorem dL_isTick_219 : decode cL_isTick 219 = .ok (.iload 9, 2) := by decide +kernel
theorem dL_isTick_221 : decode cL_isTick 221 = .ok (.ifCond .eq 26, 3) := by decide +kernel
theorem dL_isTick_224 : decode cL_isTick 224 = .ok (.aload_n 0, 1) := by decide +kernel
theorem dL_isTick_225 : decode cL_isTick 225 = .ok (.bipush 10, 2) := by decide +kernel
theorem dL_isTick_227 : decode cL_isTick 227 = .ok (.invokevirtual 83, 3) := by decide +kernel
theorem dL_isTick_230 : decode cL_isTick 230 = .ok (.iload_n 1, 1) := by decide +kernel
theorem dL_isTick_231 : decode cL_isTick 231 = .ok (.if_icmp .ne 16, 3) := by decide +kernel
theorem dL_isTick_234 : decode cL_isTick 234 = .ok (.aload_n 0, 1) := by decide +kernel
theorem dL_isTick_235 : decode cL_isTick 235 = .ok (.iconst 2, 1) := by decide +kernel
theorem dL_isTick_236 : decode cL_isTick 236 = .ok (.invokevirtual 76, 3) := by decide +kernel
theorem dL_isTick_239 : decode cL_isTick 239 = .ok (.iload_n 2, 1) := by decide +kernel
theorem dL_isTick_240 : decode cL_isTick 240 = .ok (.if_icmp .ne 7, 3) := by decide +kernel
theorem dL_isTick_243 : decode cL_isTick 243 = .ok (.iconst 1, 1) := by decide +kernel
theorem dL_isTick_244 : decode cL_isTick 244 = .ok (.goto 4, 3) := by decide +kernel
theorem dL_isTick_247 : decode cL_isTick 247 = .ok (.iconst 0, 1) := by decide +kernel
theorem dL_isTick_248 : decode cL_isTick 248 = .ok (.ireturn, 1) := by decide +kernel
def k_L_isTick : List pEn := [oAload 0, oConst (10), oCallZ 2 F_X8_told, oIstore 1, oAload 0, oConst (2), oCallZ 2 F_X8_account, oIstore 2, oAload 0, oConst (7), oCallZ 2 F_X8_account, oIstore 3, oAload 0, oConst (1), oConst (0), oCallZ 3 F_X8_later, oIstore 4, oAload 0, oConst (1), oConst (1), oCallZ 3 F_X8_later, oIstore 5, oAload 0, oConst (3), oCallZ 2 F_X8_account, oIstore 6, oAload 0, oConst (1), oCallZ 2 F_X8_run, oIstore 7, oAload 0, oConst (10), oCallZ 2 F_X8_told, oIload 1, oConst (1), oAdd, oCne 39, oConst (1), oGoto 40, oConst (0), oIstore 8, oIload 7, oIload 4, oCne 75, oAload 0, oConst (2), oCallZ 2 F_X8_account, oIload 2, oIload 7, oAdd, oCne 75, oAload 0, oConst (3), oCallZ 2 F_X8_account, oIload 6, oIload 5, oAdd, oCne 75, oIload 8, oIfeq 63, oIload 7, oIfne 75, oGoto 68, oAload 0, oConst (7), oCallZ 2 F_X8_account, oIload 3, oCne 75, oAload 0, oConst (7), oCallZ 2 F_X8_told, oConst (1000), oCgt 75, oConst (1), oGoto 76, oConst (0), oIstore 9, oIload 9, oIfeq 109, oIload 8, oIfne 89, oAload 0, oConst (2), oCallZ 2 F_X8_told, oIfne 109, oAload 0, oConst (3), oCallZ 2 F_X8_told, oIfne 109, oIload 8, oIfeq 98, oAload 0, oConst (5), oCallZ 2 F_X8_told, oAload 0, oConst (1), oCallZ 2 F_X8_told, oCne 109, oAload 0, oConst (6), oCallZ 2 F_X8_told, oConst (1), oCne 107, oAload 0, oConst (3), oCallZ 2 F_X8_setting, oIfne 109, oConst (1), oGoto 110, oConst (0), oIstore 9, oAload 0, oCallZ 1 F_X8_undo, oIflt 128, oIload 9, oIfeq 128, oAload 0, oConst (10), oCallZ 2 F_X8_told, oIload 1, oCne 128, oAload 0, oConst (2), oCallZ 2 F_X8_account, oIload 2, oCne 128, oConst (1), oGoto 129, oConst (0), oZret]
def pc_L_isTick (i : Nat) : Nat := ([0, 1, 3, 6, 7, 8, 9, 12, 13, 14, 16, 19, 20, 21, 22, 23, 26, 28, 29, 30, 31, 34, 36, 37, 38, 41, 43, 44, 45, 48, 50, 51, 53, 56, 57, 58, 59, 62, 63, 66, 67, 69, 71, 73, 76, 77, 78, 81, 82, 84, 85, 88, 89, 90, 93, 95, 97, 98, 101, 103, 106, 108, 111, 114, 115, 117, 120, 121, 124, 125, 127, 130, 133, 136, 137, 140, 141, 143, 145, 148, 150, 153, 154, 155, 158, 161, 162, 163, 166, 169, 171, 174, 175, 176, 179, 180, 181, 184, 187, 188, 190, 193, 194, 197, 198, 199, 202, 205, 206, 209, 210, 212, 213, 216, 219, 221, 224, 225, 227, 230, 231, 234, 235, 236, 239, 240, 243, 244, 247, 248] : List Nat).getD i 0
abbrev rm_L_isTick : Room := { frames := 7, cells := 0, slots := 0, locals := 162 }
theorem pl_L_isTick : pPlain yL_isTick 1 := by decide +kernel
set_option maxRecDepth 100000 in
set_option maxHeartbeats 4000000 in
theorem ok_k_L_isTick (l : Launch) : ∀ (i : Nat) (en : pEn), k_L_isTick[i]? = some en → EOK l cL_isTick yL_isTick.cls 10 ((some FieldType.boolean)) rm_L_isTick 0 pc_L_isTick i en := by
  refine allOK_at ?_
  refine And.intro (okAload_n dL_isTick_0 rfl rfl) ?_
  refine And.intro (okBipush dL_isTick_1 rfl (by first | rfl | decide)) ?_
  refine And.intro (okCallV (y := yX8_told) (T := TX8) (oCallZ_is _ _ _) dL_isTick_3 rfl (ok_F_X8_told l) rc_F_X8_told rfl wn_3_120 wm_3_63 wm_3_64 wm_1_1 wm_3_65 pl_X8_told (by decide)) ?_
  refine And.intro (okIstore_n dL_isTick_6 rfl rfl (by decide)) ?_
  refine And.intro (okAload_n dL_isTick_7 rfl rfl) ?_
  refine And.intro (okIconst dL_isTick_8 rfl (by first | rfl | decide)) ?_
  refine And.intro (okCallV (y := yX8_account) (T := TX8) (oCallZ_is _ _ _) dL_isTick_9 rfl (ok_F_X8_account l) rc_F_X8_account rfl wn_3_104 wm_3_85 wm_3_86 wm_1_1 wm_3_87 pl_X8_account (by decide)) ?_
  refine And.intro (okIstore_n dL_isTick_12 rfl rfl (by decide)) ?_
  refine And.intro (okAload_n dL_isTick_13 rfl rfl) ?_
  refine And.intro (okBipush dL_isTick_14 rfl (by first | rfl | decide)) ?_
  refine And.intro (okCallV (y := yX8_account) (T := TX8) (oCallZ_is _ _ _) dL_isTick_16 rfl (ok_F_X8_account l) rc_F_X8_account rfl wn_3_104 wm_3_85 wm_3_86 wm_1_1 wm_3_87 pl_X8_account (by decide)) ?_
  refine And.intro (okIstore_n dL_isTick_19 rfl rfl (by decide)) ?_
  refine And.intro (okAload_n dL_isTick_20 rfl rfl) ?_
  refine And.intro (okIconst dL_isTick_21 rfl (by first | rfl | decide)) ?_
  refine And.intro (okIconst dL_isTick_22 rfl (by first | rfl | decide)) ?_
  refine And.intro (okCallV (y := yX8_later) (T := TX8) (oCallZ_is _ _ _) dL_isTick_23 rfl (ok_F_X8_later l) rc_F_X8_later rfl wn_3_139 wm_3_106 wm_3_107 wm_1_1 wm_3_108 pl_X8_later (by decide)) ?_
  refine And.intro (okIstore dL_isTick_26 rfl (by decide)) ?_
  refine And.intro (okAload_n dL_isTick_28 rfl rfl) ?_
  refine And.intro (okIconst dL_isTick_29 rfl (by first | rfl | decide)) ?_
  refine And.intro (okIconst dL_isTick_30 rfl (by first | rfl | decide)) ?_
  refine And.intro (okCallV (y := yX8_later) (T := TX8) (oCallZ_is _ _ _) dL_isTick_31 rfl (ok_F_X8_later l) rc_F_X8_later rfl wn_3_139 wm_3_106 wm_3_107 wm_1_1 wm_3_108 pl_X8_later (by decide)) ?_
  refine And.intro (okIstore dL_isTick_34 rfl (by decide)) ?_
  refine And.intro (okAload_n dL_isTick_36 rfl rfl) ?_
  refine And.intro (okIconst dL_isTick_37 rfl (by first | rfl | decide)) ?_
  refine And.intro (okCallV (y := yX8_account) (T := TX8) (oCallZ_is _ _ _) dL_isTick_38 rfl (ok_F_X8_account l) rc_F_X8_account rfl wn_3_104 wm_3_85 wm_3_86 wm_1_1 wm_3_87 pl_X8_account (by decide)) ?_
  refine And.intro (okIstore dL_isTick_41 rfl (by decide)) ?_
  refine And.intro (okAload_n dL_isTick_43 rfl rfl) ?_
  refine And.intro (okIconst dL_isTick_44 rfl (by first | rfl | decide)) ?_
  refine And.intro (okCallV (y := yX8_run) (T := TX8) (oCallZ_is _ _ _) dL_isTick_45 rfl (ok_F_X8_run l) rc_F_X8_run rfl wn_3_11 wm_2_206 wm_2_207 wm_1_1 wm_2_208 pl_X8_run (by decide)) ?_
  refine And.intro (okIstore dL_isTick_48 rfl (by decide)) ?_
  refine And.intro (okAload_n dL_isTick_50 rfl rfl) ?_
  refine And.intro (okBipush dL_isTick_51 rfl (by first | rfl | decide)) ?_
  refine And.intro (okCallV (y := yX8_told) (T := TX8) (oCallZ_is _ _ _) dL_isTick_53 rfl (ok_F_X8_told l) rc_F_X8_told rfl wn_3_120 wm_3_63 wm_3_64 wm_1_1 wm_3_65 pl_X8_told (by decide)) ?_
  refine And.intro (okIload_n dL_isTick_56 rfl rfl) ?_
  refine And.intro (okIconst dL_isTick_57 rfl (by first | rfl | decide)) ?_
  refine And.intro (okAdd dL_isTick_58 rfl) ?_
  refine And.intro (okCne dL_isTick_59 rfl (by rfl)) ?_
  refine And.intro (okIconst dL_isTick_62 rfl (by first | rfl | decide)) ?_
  refine And.intro (okGoto dL_isTick_63 (by rfl)) ?_
  refine And.intro (okIconst dL_isTick_66 rfl (by first | rfl | decide)) ?_
  refine And.intro (okIstore dL_isTick_67 rfl (by decide)) ?_
  refine And.intro (okIload dL_isTick_69 rfl) ?_
  refine And.intro (okIload dL_isTick_71 rfl) ?_
  refine And.intro (okCne dL_isTick_73 rfl (by rfl)) ?_
  refine And.intro (okAload_n dL_isTick_76 rfl rfl) ?_
  refine And.intro (okIconst dL_isTick_77 rfl (by first | rfl | decide)) ?_
  refine And.intro (okCallV (y := yX8_account) (T := TX8) (oCallZ_is _ _ _) dL_isTick_78 rfl (ok_F_X8_account l) rc_F_X8_account rfl wn_3_104 wm_3_85 wm_3_86 wm_1_1 wm_3_87 pl_X8_account (by decide)) ?_
  refine And.intro (okIload_n dL_isTick_81 rfl rfl) ?_
  refine And.intro (okIload dL_isTick_82 rfl) ?_
  refine And.intro (okAdd dL_isTick_84 rfl) ?_
  refine And.intro (okCne dL_isTick_85 rfl (by rfl)) ?_
  refine And.intro (okAload_n dL_isTick_88 rfl rfl) ?_
  refine And.intro (okIconst dL_isTick_89 rfl (by first | rfl | decide)) ?_
  refine And.intro (okCallV (y := yX8_account) (T := TX8) (oCallZ_is _ _ _) dL_isTick_90 rfl (ok_F_X8_account l) rc_F_X8_account rfl wn_3_104 wm_3_85 wm_3_86 wm_1_1 wm_3_87 pl_X8_account (by decide)) ?_
  refine And.intro (okIload dL_isTick_93 rfl) ?_
  refine And.intro (okIload dL_isTick_95 rfl) ?_
  refine And.intro (okAdd dL_isTick_97 rfl) ?_
  refine And.intro (okCne dL_isTick_98 rfl (by rfl)) ?_
  refine And.intro (okIload dL_isTick_101 rfl) ?_
  refine And.intro (okIfeq dL_isTick_103 rfl (by rfl)) ?_
  refine And.intro (okIload dL_isTick_106 rfl) ?_
  refine And.intro (okIfne dL_isTick_108 rfl (by rfl)) ?_
  refine And.intro (okGoto dL_isTick_111 (by rfl)) ?_
  refine And.intro (okAload_n dL_isTick_114 rfl rfl) ?_
  refine And.intro (okBipush dL_isTick_115 rfl (by first | rfl | decide)) ?_
  refine And.intro (okCallV (y := yX8_account) (T := TX8) (oCallZ_is _ _ _) dL_isTick_117 rfl (ok_F_X8_account l) rc_F_X8_account rfl wn_3_104 wm_3_85 wm_3_86 wm_1_1 wm_3_87 pl_X8_account (by decide)) ?_
  refine And.intro (okIload_n dL_isTick_120 rfl rfl) ?_
  refine And.intro (okCne dL_isTick_121 rfl (by rfl)) ?_
  refine And.intro (okAload_n dL_isTick_124 rfl rfl) ?_
  refine And.intro (okBipush dL_isTick_125 rfl (by first | rfl | decide)) ?_
  refine And.intro (okCallV (y := yX8_told) (T := TX8) (oCallZ_is _ _ _) dL_isTick_127 rfl (ok_F_X8_told l) rc_F_X8_told rfl wn_3_120 wm_3_63 wm_3_64 wm_1_1 wm_3_65 pl_X8_told (by decide)) ?_
  refine And.intro (okSipush dL_isTick_130 rfl (by first | rfl | decide)) ?_
  refine And.intro (okCgt dL_isTick_133 rfl (by rfl)) ?_
  refine And.intro (okIconst dL_isTick_136 rfl (by first | rfl | decide)) ?_
  refine And.intro (okGoto dL_isTick_137 (by rfl)) ?_
  refine And.intro (okIconst dL_isTick_140 rfl (by first | rfl | decide)) ?_
  refine And.intro (okIstore dL_isTick_141 rfl (by decide)) ?_
  refine And.intro (okIload dL_isTick_143 rfl) ?_
  refine And.intro (okIfeq dL_isTick_145 rfl (by rfl)) ?_
  refine And.intro (okIload dL_isTick_148 rfl) ?_
  refine And.intro (okIfne dL_isTick_150 rfl (by rfl)) ?_
  refine And.intro (okAload_n dL_isTick_153 rfl rfl) ?_
  refine And.intro (okIconst dL_isTick_154 rfl (by first | rfl | decide)) ?_
  refine And.intro (okCallV (y := yX8_told) (T := TX8) (oCallZ_is _ _ _) dL_isTick_155 rfl (ok_F_X8_told l) rc_F_X8_told rfl wn_3_120 wm_3_63 wm_3_64 wm_1_1 wm_3_65 pl_X8_told (by decide)) ?_
  refine And.intro (okIfne dL_isTick_158 rfl (by rfl)) ?_
  refine And.intro (okAload_n dL_isTick_161 rfl rfl) ?_
  refine And.intro (okIconst dL_isTick_162 rfl (by first | rfl | decide)) ?_
  refine And.intro (okCallV (y := yX8_told) (T := TX8) (oCallZ_is _ _ _) dL_isTick_163 rfl (ok_F_X8_told l) rc_F_X8_told rfl wn_3_120 wm_3_63 wm_3_64 wm_1_1 wm_3_65 pl_X8_told (by decide)) ?_
  refine And.intro (okIfne dL_isTick_166 rfl (by rfl)) ?_
  refine And.intro (okIload dL_isTick_169 rfl) ?_
  refine And.intro (okIfeq dL_isTick_171 rfl (by rfl)) ?_
  refine And.intro (okAload_n dL_isTick_174 rfl rfl) ?_
  refine And.intro (okIconst dL_isTick_175 rfl (by first | rfl | decide)) ?_
  refine And.intro (okCallV (y := yX8_told) (T := TX8) (oCallZ_is _ _ _) dL_isTick_176 rfl (ok_F_X8_told l) rc_F_X8_told rfl wn_3_120 wm_3_63 wm_3_64 wm_1_1 wm_3_65 pl_X8_told (by decide)) ?_
  refine And.intro (okAload_n dL_isTick_179 rfl rfl) ?_
  refine And.intro (okIconst dL_isTick_180 rfl (by first | rfl | decide)) ?_
  refine And.intro (okCallV (y := yX8_told) (T := TX8) (oCallZ_is _ _ _) dL_isTick_181 rfl (ok_F_X8_told l) rc_F_X8_told rfl wn_3_120 wm_3_63 wm_3_64 wm_1_1 wm_3_65 pl_X8_told (by decide)) ?_
  refine And.intro (okCne dL_isTick_184 rfl (by rfl)) ?_
  refine And.intro (okAload_n dL_isTick_187 rfl rfl) ?_
  refine And.intro (okBipush dL_isTick_188 rfl (by first | rfl | decide)) ?_
  refine And.intro (okCallV (y := yX8_told) (T := TX8) (oCallZ_is _ _ _) dL_isTick_190 rfl (ok_F_X8_told l) rc_F_X8_told rfl wn_3_120 wm_3_63 wm_3_64 wm_1_1 wm_3_65 pl_X8_told (by decide)) ?_
  refine And.intro (okIconst dL_isTick_193 rfl (by first | rfl | decide)) ?_
  refine And.intro (okCne dL_isTick_194 rfl (by rfl)) ?_
  refine And.intro (okAload_n dL_isTick_197 rfl rfl) ?_
  refine And.intro (okIconst dL_isTick_198 rfl (by first | rfl | decide)) ?_
  refine And.intro (okCallV (y := yX8_setting) (T := TX8) (oCallZ_is _ _ _) dL_isTick_199 rfl (ok_F_X8_setting l) rc_F_X8_setting rfl wn_3_143 wm_3_75 wm_3_76 wm_1_1 wm_3_77 pl_X8_setting (by decide)) ?_
  refine And.intro (okIfne dL_isTick_202 rfl (by rfl)) ?_
  refine And.intro (okIconst dL_isTick_205 rfl (by first | rfl | decide)) ?_
  refine And.intro (okGoto dL_isTick_206 (by rfl)) ?_
  refine And.intro (okIconst dL_isTick_209 rfl (by first | rfl | decide)) ?_
  refine And.intro (okIstore dL_isTick_210 rfl (by decide)) ?_
  refine And.intro (okAload_n dL_isTick_212 rfl rfl) ?_
  refine And.intro (okCallV (y := yX8_undo) (T := TX8) (oCallZ_is _ _ _) dL_isTick_213 rfl (ok_F_X8_undo l) rc_F_X8_undo rfl wn_2_230 wm_3_43 wm_3_44 wm_1_1 wm_3_45 pl_X8_undo (by decide)) ?_
  refine And.intro (okIflt dL_isTick_216 rfl (by rfl)) ?_
  refine And.intro (okIload dL_isTick_219 rfl) ?_
  refine And.intro (okIfeq dL_isTick_221 rfl (by rfl)) ?_
  refine And.intro (okAload_n dL_isTick_224 rfl rfl) ?_
  refine And.intro (okBipush dL_isTick_225 rfl (by first | rfl | decide)) ?_
  refine And.intro (okCallV (y := yX8_told) (T := TX8) (oCallZ_is _ _ _) dL_isTick_227 rfl (ok_F_X8_told l) rc_F_X8_told rfl wn_3_120 wm_3_63 wm_3_64 wm_1_1 wm_3_65 pl_X8_told (by decide)) ?_
  refine And.intro (okIload_n dL_isTick_230 rfl rfl) ?_
  refine And.intro (okCne dL_isTick_231 rfl (by rfl)) ?_
  refine And.intro (okAload_n dL_isTick_234 rfl rfl) ?_
  refine And.intro (okIconst dL_isTick_235 rfl (by first | rfl | decide)) ?_
  refine And.intro (okCallV (y := yX8_account) (T := TX8) (oCallZ_is _ _ _) dL_isTick_236 rfl (ok_F_X8_account l) rc_F_X8_account rfl wn_3_104 wm_3_85 wm_3_86 wm_1_1 wm_3_87 pl_X8_account (by decide)) ?_
  refine And.intro (okIload_n dL_isTick_239 rfl rfl) ?_
  refine And.intro (okCne dL_isTick_240 rfl (by rfl)) ?_
  refine And.intro (okIconst dL_isTick_243 rfl (by first | rfl | decide)) ?_
  refine And.intro (okGoto dL_isTick_244 (by rfl)) ?_
  refine And.intro (okIconst dL_isTick_247 rfl (by first | rfl | decide)) ?_
  refine And.intro (okZret dL_isTick_248 rfl) ?_
  exact trivial
def F_L_isTick : pF := fun args w rg => match args with
  | [.ref 0] => unB w (fun f x v u => pif (bOK f rg ∧ TicC x v u) (some (some (.int (1)), cw f (ticX x) (v) (tickV (NL v)), (rg.1, hRem (NX x) (NL v) rg.2))) none)
  | _ => none
theorem stg_3 (x v : pLV) : stgB x v 3 = v 1 3 := (if_neg (by decide)).trans ((if_neg (by decide)).trans rfl)
set_option maxHeartbeats 1000000 in
theorem tic_00 (rg : pRg) (f : Nat → Option Nat) (x v u y : pLV) (hc : bOK f rg) (l0 : F_X8_later [.ref 0, .int 1, .int 0] (cw f x v u) rg = some (some (.int (sumP (y 2) 4 - sumP (v 2) 4)), cw f x v y, rg)) (l1 : F_X8_later [.ref 0, .int 1, .int 1] (cw f x v y) rg = some (some (.int (y 0 24 - v 0 24)), cw f x v y, rg)) (r1 : F_X8_run [.ref 0, .int 1] (cw f x v y) rg = some (some (.int (sumP (y 2) 4 - sumP (v 2) 4)), cw f (xRem (NX x)) y y, (rg.1, hRem (NX x) (NL v) rg.2))) (r : Int32) (hr : ¬ r < 0) (hu : F_X8_undo [.ref 0] (cw f (xRem (NX x)) y y) (rg.1, hRem (NX x) (NL v) rg.2) = some (some (.int r), cw f (ticX x) v y, (rg.1, hRem (NX x) (NL v) rg.2))) (h2 : ¬ 1000 < ltC (y 0 28) (y 3 0)) (b1 : y 0 6 = v 0 6 + 1) (b2 : sumP (y 2) 4 = sumP (v 2) 4) (b3 : y 0 4 = y 0 1) (h3 : y 0 5 = 1) (h4 : y 1 3 = 0) : ∃ fu, ex k_L_isTick fu 0 [(0, .ref 0)] [] (cw f x v u) rg = some (some (.int 1), cw f (ticX x) v y, (rg.1, hRem (NX x) (NL v) rg.2)) := by
  have hc2 : bOK f (rg.1, hRem (NX x) (NL v) rg.2) := hc
  have d1 : sumP (y 2) 4 = sumP (v 2) 4 + (sumP (y 2) 4 - sumP (v 2) 4) := by rw [Int32.add_comm, Int32.sub_add_cancel]
  have d2 : y 0 24 = v 0 24 + (y 0 24 - v 0 24) := by rw [Int32.add_comm, Int32.sub_add_cancel]
  have d3 : sumP (y 2) 4 - sumP (v 2) 4 = 0 := by rw [b2, Int32.sub_self]
  refine ⟨60, ?_⟩
  conv => lhs; whnf
  refine (callK_r ((rd_told f x v u 10 rg hc).trans (by rw [tol_10])) (by rfl)).trans ?_
  conv => lhs; whnf
  refine (callK_r ((rd_account f x v u 2 rg hc).trans (by rw [acc_2])) (by rfl)).trans ?_
  conv => lhs; whnf
  refine (callK_r ((rd_account f x v u 7 rg hc).trans (by rw [acc_7])) (by rfl)).trans ?_
  conv => lhs; whnf
  refine (callK_r (l0) (by rfl)).trans ?_
  conv => lhs; whnf
  refine (callK_r (l1) (by rfl)).trans ?_
  conv => lhs; whnf
  refine (callK_r ((rd_account f x v y 3 rg hc).trans (by rw [acc_3])) (by rfl)).trans ?_
  conv => lhs; whnf
  refine (callK_r (r1) (by rfl)).trans ?_
  conv => lhs; whnf
  refine (callK_r ((rd_told f (xRem (NX x)) y y 10 (rg.1, hRem (NX x) (NL v) rg.2) hc2).trans (by rw [tol_10])) (by rfl)).trans ?_
  conv => lhs; whnf
  refine (pif_t b1).trans ?_
  conv => lhs; whnf
  refine (pif_t rfl).trans ?_
  conv => lhs; whnf
  refine (callK_r ((rd_account f (xRem (NX x)) y y 2 (rg.1, hRem (NX x) (NL v) rg.2) hc2).trans (by rw [acc_2])) (by rfl)).trans ?_
  conv => lhs; whnf
  refine (pif_t d1).trans ?_
  conv => lhs; whnf
  refine (callK_r ((rd_account f (xRem (NX x)) y y 3 (rg.1, hRem (NX x) (NL v) rg.2) hc2).trans (by rw [acc_3])) (by rfl)).trans ?_
  conv => lhs; whnf
  refine (pif_t d2).trans ?_
  conv => lhs; whnf
  refine (pif_f (by decide)).trans ?_
  conv => lhs; whnf
  refine (pif_t d3).trans ?_
  conv => lhs; whnf
  refine (callK_r ((rd_told f (xRem (NX x)) y y 7 (rg.1, hRem (NX x) (NL v) rg.2) hc2).trans (by rw [tol_7])) (by rfl)).trans ?_
  conv => lhs; whnf
  refine (pif_f h2).trans ?_
  conv => lhs; whnf
  refine (pif_f (by decide)).trans ?_
  conv => lhs; whnf
  refine (pif_f (by decide)).trans ?_
  conv => lhs; whnf
  refine (pif_f (by decide)).trans ?_
  conv => lhs; whnf
  refine (callK_r ((rd_told f (xRem (NX x)) y y 5 (rg.1, hRem (NX x) (NL v) rg.2) hc2).trans (by rw [tol_5])) (by rfl)).trans ?_
  conv => lhs; whnf
  refine (callK_r ((rd_told f (xRem (NX x)) y y 1 (rg.1, hRem (NX x) (NL v) rg.2) hc2).trans (by rw [tol_1])) (by rfl)).trans ?_
  conv => lhs; whnf
  refine (pif_t b3).trans ?_
  conv => lhs; whnf
  refine (callK_r ((rd_told f (xRem (NX x)) y y 6 (rg.1, hRem (NX x) (NL v) rg.2) hc2).trans (by rw [tol_6])) (by rfl)).trans ?_
  conv => lhs; whnf
  refine (pif_t h3).trans ?_
  conv => lhs; whnf
  refine (callK_r ((rd_setting f (xRem (NX x)) y y 3 (rg.1, hRem (NX x) (NL v) rg.2) hc2).trans (by rw [stg_3])) (by rfl)).trans ?_
  conv => lhs; whnf
  refine (pif_t h4).trans ?_
  conv => lhs; whnf
  refine (callK_r (hu) (by rfl)).trans ?_
  conv => lhs; whnf
  refine (pif_f hr).trans ?_
  conv => lhs; whnf
  refine (pif_f (by decide)).trans ?_
  conv => lhs; whnf
  refine (callK_r ((rd_told f (ticX x) v y 10 (rg.1, hRem (NX x) (NL v) rg.2) hc2).trans (by rw [tol_10])) (by rfl)).trans ?_
  conv => lhs; whnf
  refine (pif_t rfl).trans ?_
  conv => lhs; whnf
  refine (callK_r ((rd_account f (ticX x) v y 2 (rg.1, hRem (NX x) (NL v) rg.2) hc2).trans (by rw [acc_2])) (by rfl)).trans ?_
  conv => lhs; whnf
  refine (pif_t rfl).trans ?_
  conv => lhs; whnf
  exact pif_t (Or.inr rfl)
set_option maxHeartbeats 1000000 in
theorem tic_01 (rg : pRg) (f : Nat → Option Nat) (x v u y : pLV) (hc : bOK f rg) (l0 : F_X8_later [.ref 0, .int 1, .int 0] (cw f x v u) rg = some (some (.int (sumP (y 2) 4 - sumP (v 2) 4)), cw f x v y, rg)) (l1 : F_X8_later [.ref 0, .int 1, .int 1] (cw f x v y) rg = some (some (.int (y 0 24 - v 0 24)), cw f x v y, rg)) (r1 : F_X8_run [.ref 0, .int 1] (cw f x v y) rg = some (some (.int (sumP (y 2) 4 - sumP (v 2) 4)), cw f (xRem (NX x)) y y, (rg.1, hRem (NX x) (NL v) rg.2))) (r : Int32) (hr : ¬ r < 0) (hu : F_X8_undo [.ref 0] (cw f (xRem (NX x)) y y) (rg.1, hRem (NX x) (NL v) rg.2) = some (some (.int r), cw f (ticX x) v y, (rg.1, hRem (NX x) (NL v) rg.2))) (h2 : ¬ 1000 < ltC (y 0 28) (y 3 0)) (b1 : y 0 6 = v 0 6 + 1) (b2 : sumP (y 2) 4 = sumP (v 2) 4) (b3 : y 0 4 = y 0 1) (h3 : ¬ y 0 5 = 1) : ∃ fu, ex k_L_isTick fu 0 [(0, .ref 0)] [] (cw f x v u) rg = some (some (.int 1), cw f (ticX x) v y, (rg.1, hRem (NX x) (NL v) rg.2)) := by
  have hc2 : bOK f (rg.1, hRem (NX x) (NL v) rg.2) := hc
  have d1 : sumP (y 2) 4 = sumP (v 2) 4 + (sumP (y 2) 4 - sumP (v 2) 4) := by rw [Int32.add_comm, Int32.sub_add_cancel]
  have d2 : y 0 24 = v 0 24 + (y 0 24 - v 0 24) := by rw [Int32.add_comm, Int32.sub_add_cancel]
  have d3 : sumP (y 2) 4 - sumP (v 2) 4 = 0 := by rw [b2, Int32.sub_self]
  refine ⟨60, ?_⟩
  conv => lhs; whnf
  refine (callK_r ((rd_told f x v u 10 rg hc).trans (by rw [tol_10])) (by rfl)).trans ?_
  conv => lhs; whnf
  refine (callK_r ((rd_account f x v u 2 rg hc).trans (by rw [acc_2])) (by rfl)).trans ?_
  conv => lhs; whnf
  refine (callK_r ((rd_account f x v u 7 rg hc).trans (by rw [acc_7])) (by rfl)).trans ?_
  conv => lhs; whnf
  refine (callK_r (l0) (by rfl)).trans ?_
  conv => lhs; whnf
  refine (callK_r (l1) (by rfl)).trans ?_
  conv => lhs; whnf
  refine (callK_r ((rd_account f x v y 3 rg hc).trans (by rw [acc_3])) (by rfl)).trans ?_
  conv => lhs; whnf
  refine (callK_r (r1) (by rfl)).trans ?_
  conv => lhs; whnf
  refine (callK_r ((rd_told f (xRem (NX x)) y y 10 (rg.1, hRem (NX x) (NL v) rg.2) hc2).trans (by rw [tol_10])) (by rfl)).trans ?_
  conv => lhs; whnf
  refine (pif_t b1).trans ?_
  conv => lhs; whnf
  refine (pif_t rfl).trans ?_
  conv => lhs; whnf
  refine (callK_r ((rd_account f (xRem (NX x)) y y 2 (rg.1, hRem (NX x) (NL v) rg.2) hc2).trans (by rw [acc_2])) (by rfl)).trans ?_
  conv => lhs; whnf
  refine (pif_t d1).trans ?_
  conv => lhs; whnf
  refine (callK_r ((rd_account f (xRem (NX x)) y y 3 (rg.1, hRem (NX x) (NL v) rg.2) hc2).trans (by rw [acc_3])) (by rfl)).trans ?_
  conv => lhs; whnf
  refine (pif_t d2).trans ?_
  conv => lhs; whnf
  refine (pif_f (by decide)).trans ?_
  conv => lhs; whnf
  refine (pif_t d3).trans ?_
  conv => lhs; whnf
  refine (callK_r ((rd_told f (xRem (NX x)) y y 7 (rg.1, hRem (NX x) (NL v) rg.2) hc2).trans (by rw [tol_7])) (by rfl)).trans ?_
  conv => lhs; whnf
  refine (pif_f h2).trans ?_
  conv => lhs; whnf
  refine (pif_f (by decide)).trans ?_
  conv => lhs; whnf
  refine (pif_f (by decide)).trans ?_
  conv => lhs; whnf
  refine (pif_f (by decide)).trans ?_
  conv => lhs; whnf
  refine (callK_r ((rd_told f (xRem (NX x)) y y 5 (rg.1, hRem (NX x) (NL v) rg.2) hc2).trans (by rw [tol_5])) (by rfl)).trans ?_
  conv => lhs; whnf
  refine (callK_r ((rd_told f (xRem (NX x)) y y 1 (rg.1, hRem (NX x) (NL v) rg.2) hc2).trans (by rw [tol_1])) (by rfl)).trans ?_
  conv => lhs; whnf
  refine (pif_t b3).trans ?_
  conv => lhs; whnf
  refine (callK_r ((rd_told f (xRem (NX x)) y y 6 (rg.1, hRem (NX x) (NL v) rg.2) hc2).trans (by rw [tol_6])) (by rfl)).trans ?_
  conv => lhs; whnf
  refine (pif_f h3).trans ?_
  conv => lhs; whnf
  refine (callK_r (hu) (by rfl)).trans ?_
  conv => lhs; whnf
  refine (pif_f hr).trans ?_
  conv => lhs; whnf
  refine (pif_f (by decide)).trans ?_
  conv => lhs; whnf
  refine (callK_r ((rd_told f (ticX x) v y 10 (rg.1, hRem (NX x) (NL v) rg.2) hc2).trans (by rw [tol_10])) (by rfl)).trans ?_
  conv => lhs; whnf
  refine (pif_t rfl).trans ?_
  conv => lhs; whnf
  refine (callK_r ((rd_account f (ticX x) v y 2 (rg.1, hRem (NX x) (NL v) rg.2) hc2).trans (by rw [acc_2])) (by rfl)).trans ?_
  conv => lhs; whnf
  refine (pif_t rfl).trans ?_
  conv => lhs; whnf
  exact pif_t (Or.inr rfl)
set_option maxHeartbeats 1000000 in
theorem tic_10 (rg : pRg) (f : Nat → Option Nat) (x v u y : pLV) (hc : bOK f rg) (l0 : F_X8_later [.ref 0, .int 1, .int 0] (cw f x v u) rg = some (some (.int (sumP (y 2) 4 - sumP (v 2) 4)), cw f x v y, rg)) (l1 : F_X8_later [.ref 0, .int 1, .int 1] (cw f x v y) rg = some (some (.int (y 0 24 - v 0 24)), cw f x v y, rg)) (r1 : F_X8_run [.ref 0, .int 1] (cw f x v y) rg = some (some (.int (sumP (y 2) 4 - sumP (v 2) 4)), cw f (xRem (NX x)) y y, (rg.1, hRem (NX x) (NL v) rg.2))) (r : Int32) (hr : ¬ r < 0) (hu : F_X8_undo [.ref 0] (cw f (xRem (NX x)) y y) (rg.1, hRem (NX x) (NL v) rg.2) = some (some (.int r), cw f (ticX x) v y, (rg.1, hRem (NX x) (NL v) rg.2))) (h2 : ¬ 1000 < ltC (y 0 28) (y 3 0)) (b1 : ¬ y 0 6 = v 0 6 + 1) (b2 : y 0 26 = v 0 26) (b3 : y 0 2 = 0) (b4 : y 0 3 = 0) (h3 : y 0 5 = 1) (h4 : y 1 3 = 0) : ∃ fu, ex k_L_isTick fu 0 [(0, .ref 0)] [] (cw f x v u) rg = some (some (.int 1), cw f (ticX x) v y, (rg.1, hRem (NX x) (NL v) rg.2)) := by
  have hc2 : bOK f (rg.1, hRem (NX x) (NL v) rg.2) := hc
  have d1 : sumP (y 2) 4 = sumP (v 2) 4 + (sumP (y 2) 4 - sumP (v 2) 4) := by rw [Int32.add_comm, Int32.sub_add_cancel]
  have d2 : y 0 24 = v 0 24 + (y 0 24 - v 0 24) := by rw [Int32.add_comm, Int32.sub_add_cancel]
  refine ⟨60, ?_⟩
  conv => lhs; whnf
  refine (callK_r ((rd_told f x v u 10 rg hc).trans (by rw [tol_10])) (by rfl)).trans ?_
  conv => lhs; whnf
  refine (callK_r ((rd_account f x v u 2 rg hc).trans (by rw [acc_2])) (by rfl)).trans ?_
  conv => lhs; whnf
  refine (callK_r ((rd_account f x v u 7 rg hc).trans (by rw [acc_7])) (by rfl)).trans ?_
  conv => lhs; whnf
  refine (callK_r (l0) (by rfl)).trans ?_
  conv => lhs; whnf
  refine (callK_r (l1) (by rfl)).trans ?_
  conv => lhs; whnf
  refine (callK_r ((rd_account f x v y 3 rg hc).trans (by rw [acc_3])) (by rfl)).trans ?_
  conv => lhs; whnf
  refine (callK_r (r1) (by rfl)).trans ?_
  conv => lhs; whnf
  refine (callK_r ((rd_told f (xRem (NX x)) y y 10 (rg.1, hRem (NX x) (NL v) rg.2) hc2).trans (by rw [tol_10])) (by rfl)).trans ?_
  conv => lhs; whnf
  refine (pif_f b1).trans ?_
  conv => lhs; whnf
  refine (pif_t rfl).trans ?_
  conv => lhs; whnf
  refine (callK_r ((rd_account f (xRem (NX x)) y y 2 (rg.1, hRem (NX x) (NL v) rg.2) hc2).trans (by rw [acc_2])) (by rfl)).trans ?_
  conv => lhs; whnf
  refine (pif_t d1).trans ?_
  conv => lhs; whnf
  refine (callK_r ((rd_account f (xRem (NX x)) y y 3 (rg.1, hRem (NX x) (NL v) rg.2) hc2).trans (by rw [acc_3])) (by rfl)).trans ?_
  conv => lhs; whnf
  refine (pif_t d2).trans ?_
  conv => lhs; whnf
  refine (pif_t rfl).trans ?_
  conv => lhs; whnf
  refine (callK_r ((rd_account f (xRem (NX x)) y y 7 (rg.1, hRem (NX x) (NL v) rg.2) hc2).trans (by rw [acc_7])) (by rfl)).trans ?_
  conv => lhs; whnf
  refine (pif_t b2).trans ?_
  conv => lhs; whnf
  refine (callK_r ((rd_told f (xRem (NX x)) y y 7 (rg.1, hRem (NX x) (NL v) rg.2) hc2).trans (by rw [tol_7])) (by rfl)).trans ?_
  conv => lhs; whnf
  refine (pif_f h2).trans ?_
  conv => lhs; whnf
  refine (pif_f (by decide)).trans ?_
  conv => lhs; whnf
  refine (pif_t rfl).trans ?_
  conv => lhs; whnf
  refine (callK_r ((rd_told f (xRem (NX x)) y y 2 (rg.1, hRem (NX x) (NL v) rg.2) hc2).trans (by rw [tol_2])) (by rfl)).trans ?_
  conv => lhs; whnf
  refine (pif_t b3).trans ?_
  conv => lhs; whnf
  refine (callK_r ((rd_told f (xRem (NX x)) y y 3 (rg.1, hRem (NX x) (NL v) rg.2) hc2).trans (by rw [tol_3])) (by rfl)).trans ?_
  conv => lhs; whnf
  refine (pif_t b4).trans ?_
  conv => lhs; whnf
  refine (pif_t rfl).trans ?_
  conv => lhs; whnf
  refine (callK_r ((rd_told f (xRem (NX x)) y y 6 (rg.1, hRem (NX x) (NL v) rg.2) hc2).trans (by rw [tol_6])) (by rfl)).trans ?_
  conv => lhs; whnf
  refine (pif_t h3).trans ?_
  conv => lhs; whnf
  refine (callK_r ((rd_setting f (xRem (NX x)) y y 3 (rg.1, hRem (NX x) (NL v) rg.2) hc2).trans (by rw [stg_3])) (by rfl)).trans ?_
  conv => lhs; whnf
  refine (pif_t h4).trans ?_
  conv => lhs; whnf
  refine (callK_r (hu) (by rfl)).trans ?_
  conv => lhs; whnf
  refine (pif_f hr).trans ?_
  conv => lhs; whnf
  refine (pif_f (by decide)).trans ?_
  conv => lhs; whnf
  refine (callK_r ((rd_told f (ticX x) v y 10 (rg.1, hRem (NX x) (NL v) rg.2) hc2).trans (by rw [tol_10])) (by rfl)).trans ?_
  conv => lhs; whnf
  refine (pif_t rfl).trans ?_
  conv => lhs; whnf
  refine (callK_r ((rd_account f (ticX x) v y 2 (rg.1, hRem (NX x) (NL v) rg.2) hc2).trans (by rw [acc_2])) (by rfl)).trans ?_
  conv => lhs; whnf
  refine (pif_t rfl).trans ?_
  conv => lhs; whnf
  exact pif_t (Or.inr rfl)
set_option maxHeartbeats 1000000 in
theorem tic_11 (rg : pRg) (f : Nat → Option Nat) (x v u y : pLV) (hc : bOK f rg) (l0 : F_X8_later [.ref 0, .int 1, .int 0] (cw f x v u) rg = some (some (.int (sumP (y 2) 4 - sumP (v 2) 4)), cw f x v y, rg)) (l1 : F_X8_later [.ref 0, .int 1, .int 1] (cw f x v y) rg = some (some (.int (y 0 24 - v 0 24)), cw f x v y, rg)) (r1 : F_X8_run [.ref 0, .int 1] (cw f x v y) rg = some (some (.int (sumP (y 2) 4 - sumP (v 2) 4)), cw f (xRem (NX x)) y y, (rg.1, hRem (NX x) (NL v) rg.2))) (r : Int32) (hr : ¬ r < 0) (hu : F_X8_undo [.ref 0] (cw f (xRem (NX x)) y y) (rg.1, hRem (NX x) (NL v) rg.2) = some (some (.int r), cw f (ticX x) v y, (rg.1, hRem (NX x) (NL v) rg.2))) (h2 : ¬ 1000 < ltC (y 0 28) (y 3 0)) (b1 : ¬ y 0 6 = v 0 6 + 1) (b2 : y 0 26 = v 0 26) (b3 : y 0 2 = 0) (b4 : y 0 3 = 0) (h3 : ¬ y 0 5 = 1) : ∃ fu, ex k_L_isTick fu 0 [(0, .ref 0)] [] (cw f x v u) rg = some (some (.int 1), cw f (ticX x) v y, (rg.1, hRem (NX x) (NL v) rg.2)) := by
  have hc2 : bOK f (rg.1, hRem (NX x) (NL v) rg.2) := hc
  have d1 : sumP (y 2) 4 = sumP (v 2) 4 + (sumP (y 2) 4 - sumP (v 2) 4) := by rw [Int32.add_comm, Int32.sub_add_cancel]
  have d2 : y 0 24 = v 0 24 + (y 0 24 - v 0 24) := by rw [Int32.add_comm, Int32.sub_add_cancel]
  refine ⟨60, ?_⟩
  conv => lhs; whnf
  refine (callK_r ((rd_told f x v u 10 rg hc).trans (by rw [tol_10])) (by rfl)).trans ?_
  conv => lhs; whnf
  refine (callK_r ((rd_account f x v u 2 rg hc).trans (by rw [acc_2])) (by rfl)).trans ?_
  conv => lhs; whnf
  refine (callK_r ((rd_account f x v u 7 rg hc).trans (by rw [acc_7])) (by rfl)).trans ?_
  conv => lhs; whnf
  refine (callK_r (l0) (by rfl)).trans ?_
  conv => lhs; whnf
  refine (callK_r (l1) (by rfl)).trans ?_
  conv => lhs; whnf
  refine (callK_r ((rd_account f x v y 3 rg hc).trans (by rw [acc_3])) (by rfl)).trans ?_
  conv => lhs; whnf
  refine (callK_r (r1) (by rfl)).trans ?_
  conv => lhs; whnf
  refine (callK_r ((rd_told f (xRem (NX x)) y y 10 (rg.1, hRem (NX x) (NL v) rg.2) hc2).trans (by rw [tol_10])) (by rfl)).trans ?_
  conv => lhs; whnf
  refine (pif_f b1).trans ?_
  conv => lhs; whnf
  refine (pif_t rfl).trans ?_
  conv => lhs; whnf
  refine (callK_r ((rd_account f (xRem (NX x)) y y 2 (rg.1, hRem (NX x) (NL v) rg.2) hc2).trans (by rw [acc_2])) (by rfl)).trans ?_
  conv => lhs; whnf
  refine (pif_t d1).trans ?_
  conv => lhs; whnf
  refine (callK_r ((rd_account f (xRem (NX x)) y y 3 (rg.1, hRem (NX x) (NL v) rg.2) hc2).trans (by rw [acc_3])) (by rfl)).trans ?_
  conv => lhs; whnf
  refine (pif_t d2).trans ?_
  conv => lhs; whnf
  refine (pif_t rfl).trans ?_
  conv => lhs; whnf
  refine (callK_r ((rd_account f (xRem (NX x)) y y 7 (rg.1, hRem (NX x) (NL v) rg.2) hc2).trans (by rw [acc_7])) (by rfl)).trans ?_
  conv => lhs; whnf
  refine (pif_t b2).trans ?_
  conv => lhs; whnf
  refine (callK_r ((rd_told f (xRem (NX x)) y y 7 (rg.1, hRem (NX x) (NL v) rg.2) hc2).trans (by rw [tol_7])) (by rfl)).trans ?_
  conv => lhs; whnf
  refine (pif_f h2).trans ?_
  conv => lhs; whnf
  refine (pif_f (by decide)).trans ?_
  conv => lhs; whnf
  refine (pif_t rfl).trans ?_
  conv => lhs; whnf
  refine (callK_r ((rd_told f (xRem (NX x)) y y 2 (rg.1, hRem (NX x) (NL v) rg.2) hc2).trans (by rw [tol_2])) (by rfl)).trans ?_
  conv => lhs; whnf
  refine (pif_t b3).trans ?_
  conv => lhs; whnf
  refine (callK_r ((rd_told f (xRem (NX x)) y y 3 (rg.1, hRem (NX x) (NL v) rg.2) hc2).trans (by rw [tol_3])) (by rfl)).trans ?_
  conv => lhs; whnf
  refine (pif_t b4).trans ?_
  conv => lhs; whnf
  refine (pif_t rfl).trans ?_
  conv => lhs; whnf
  refine (callK_r ((rd_told f (xRem (NX x)) y y 6 (rg.1, hRem (NX x) (NL v) rg.2) hc2).trans (by rw [tol_6])) (by rfl)).trans ?_
  conv => lhs; whnf
  refine (pif_f h3).trans ?_
  conv => lhs; whnf
  refine (callK_r (hu) (by rfl)).trans ?_
  conv => lhs; whnf
  refine (pif_f hr).trans ?_
  conv => lhs; whnf
  refine (pif_f (by decide)).trans ?_
  conv => lhs; whnf
  refine (callK_r ((rd_told f (ticX x) v y 10 (rg.1, hRem (NX x) (NL v) rg.2) hc2).trans (by rw [tol_10])) (by rfl)).trans ?_
  conv => lhs; whnf
  refine (pif_t rfl).trans ?_
  conv => lhs; whnf
  refine (callK_r ((rd_account f (ticX x) v y 2 (rg.1, hRem (NX x) (NL v) rg.2) hc2).trans (by rw [acc_2])) (by rfl)).trans ?_
  conv => lhs; whnf
  refine (pif_t rfl).trans ?_
  conv => lhs; whnf
  exact pif_t (Or.inr rfl)
set_option maxHeartbeats 400000 in
set_option maxRecDepth 100000 in
theorem run_L_isTick (rg : pRg) (f : Nat → Option Nat) (x v u : pLV) (hc : bOK f rg ∧ TicC x v u) : ∃ fu, ex k_L_isTick fu 0 [(0, .ref 0)] [] (cw f x v u) rg = some (some (.int (1)), cw f (ticX x) (v) (tickV (NL v)), (rg.1, hRem (NX x) (NL v) rg.2)) := by
  obtain ⟨hc, hx, hv, hu, hy, hb, h2, h3⟩ := hc
  obtain ⟨r, hr, hun⟩ := rd_undo1 f x v (tickV (NL v)) (tickV (NL v)) rg hc hx hv hy
  have l0 := rd_later0 f x v u rg hc hv hu
  have l1 := rd_later1 f x v (tickV (NL v)) rg hc hv hy
  have r1 := rd_run1 f x v (tickV (NL v)) rg hc
  generalize tickV (NL v) = y at *
  rcases hb with ⟨b1, b2, b3⟩ | ⟨b1, b2, b3, b4⟩
  · by_cases z : y 0 5 = 1
    · exact tic_00 rg f x v u y hc l0 l1 r1 r hr hun h2 b1 b2 b3 z (h3 z)
    · exact tic_01 rg f x v u y hc l0 l1 r1 r hr hun h2 b1 b2 b3 z
  · by_cases z : y 0 5 = 1
    · exact tic_10 rg f x v u y hc l0 l1 r1 r hr hun h2 b1 b2 b3 b4 z (h3 z)
    · exact tic_11 rg f x v u y hc l0 l1 r1 r hr hun h2 b1 b2 b3 b4 z
theorem ok_F_L_isTick (l : Launch) : pFOK l yL_isTick (pWs yL_isTick cL_isTick 10 ((some FieldType.boolean))) rm_L_isTick F_L_isTick := by
  refine pFOK_all fun args w rg v0 w' rg' h => ?_
  unfold F_L_isTick at h
  split at h
  next  =>
    obtain ⟨f, x, v, u, hw, h2⟩ := unB_some h
    clear h
    subst hw
    by_cases hc : bOK f rg ∧ TicC x v u
    · have h2 := (pif_t hc).symm.trans h2
      cases h2
      exact met_of_ex (by decide) (ok_k_L_isTick l) rfl (run_L_isTick rg f x v u  hc) (Nat.le_of_ble_eq_true rfl) rfl (Nat.le_of_ble_eq_true rfl) (Nat.le_of_ble_eq_true rfl) (Nat.zero_le _) rfl rfl
    · have h2 := (pif_f hc).symm.trans h2
      cases h2
  next => cases h
theorem cl_L_isTick (f : Nat → Option Nat) (x v u : pLV) (rg : pRg) (hc : bOK f rg ∧ TicC (NX x) (NL v) u) : F_L_isTick [.ref 0] (cw f x v u) rg = some (some (.int (1)), cw f (ticX (NX x)) ((NL v)) (tickV (NL v)), (rg.1, hRem (NX (NX x)) (NL (NL v)) rg.2)) := pif_t hc
end
