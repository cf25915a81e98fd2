noncomputable section
/-! READING, AS THE LAW DOES -/
theorem rd_told (f : Nat → Option Nat) (x v u : pLV) (q : Int32) (rg : pRg) (hc : bOK f rg) : F_X8_told [.ref 0, .int q] (cw f x v u) rg = some (some (.int (tolB x v q)), cw f x v u, rg) := (cl_X8_told f x v u q rg hc).trans rfl
theorem rd_setting (f : Nat → Option Nat) (x v u : pLV) (q : Int32) (rg : pRg) (hc : bOK f rg) : F_X8_setting [.ref 0, .int q] (cw f x v u) rg = some (some (.int (stgB x v q)), cw f x v u, rg) := (cl_X8_setting f x v u q rg hc).trans rfl
theorem rd_paper (f : Nat → Option Nat) (x v u : pLV) (q : Int32) (rg : pRg) (hc : bOK f rg) : F_X8_paper [.ref 0, .int q] (cw f x v u) rg = some (some (.int (papB x v q)), cw f x v u, rg) := (cl_X8_paper f x v u q rg hc).trans rfl
theorem rd_account (f : Nat → Option Nat) (x v u : pLV) (q : Int32) (rg : pRg) (hc : bOK f rg) : F_X8_account [.ref 0, .int q] (cw f x v u) rg = some (some (.int (accB x v q)), cw f x v u, rg) := (cl_X8_account f x v u q rg hc).trans rfl
theorem rd_entry (f : Nat → Option Nat) (x v u : pLV) (e a : Int32) (rg : pRg) (hc : bOK f rg) : F_X8_entry [.ref 0, .int e, .int a] (cw f x v u) rg = some (some (.int (entB x v e a)), cw f x v u, rg) := (cl_X8_entry f x v u e a rg hc).trans rfl
theorem rd_share (f : Nat → Option Nat) (x v u : pLV) (rg : pRg) (hc : bOK f rg) : F_X8_paperShare [.ref 0] (cw f x v u) rg = some (some (.float (psI (sumP (v 2) 4) (sumP (v 2) 4 + v 0 26))), cw f x v u, rg) := (cl_X8_paperShare f x v u rg hc).trans rfl
theorem rd_chest_0_0 (f : Nat → Option Nat) (x v u : pLV) (rg : pRg) (hc : bOK f rg) : F_X8_chest [.ref 0, .int (nI 0), .int 0] (cw f x v u) rg = some (some (.int (v 0 10)), cw f x v u, rg) := by
  have e : chsB (NX x) (NL v) (nI 0) 0 = v 0 10 := (if_neg (by decide)).trans ((if_neg (by decide)).trans (if_pos rfl))
  refine (cl_X8_chest f x v u (nI 0) 0 rg hc).trans ?_
  rw [e]
  rfl
theorem rd_chest_0_1 (f : Nat → Option Nat) (x v u : pLV) (rg : pRg) (hc : bOK f rg) : F_X8_chest [.ref 0, .int (nI 0), .int 1] (cw f x v u) rg = some (some (.int (v 0 11)), cw f x v u, rg) := by
  have e : chsB (NX x) (NL v) (nI 0) 1 = v 0 11 := (if_neg (by decide)).trans ((if_neg (by decide)).trans ((if_neg (by decide)).trans (if_pos rfl)))
  refine (cl_X8_chest f x v u (nI 0) 1 rg hc).trans ?_
  rw [e]
  rfl
theorem rd_chest_0_2 (f : Nat → Option Nat) (x v u : pLV) (rg : pRg) (hc : bOK f rg) : F_X8_chest [.ref 0, .int (nI 0), .int 2] (cw f x v u) rg = some (some (.int (csC (v 0 10) (v 0 11))), cw f x v u, rg) := by
  have e : chsB (NX x) (NL v) (nI 0) 2 = csC (v 0 10) (v 0 11) := (if_neg (by decide)).trans ((if_neg (by decide)).trans ((if_neg (by decide)).trans ((if_neg (by decide)).trans (if_pos rfl))))
  refine (cl_X8_chest f x v u (nI 0) 2 rg hc).trans ?_
  rw [e]
  rfl
theorem rd_chest_0_3 (f : Nat → Option Nat) (x v u : pLV) (rg : pRg) (hc : bOK f rg) : F_X8_chest [.ref 0, .int (nI 0), .int 3] (cw f x v u) rg = some (some (.int (v 0 30 - v 0 10 - v 0 11)), cw f x v u, rg) := by
  have e : chsB (NX x) (NL v) (nI 0) 3 = v 0 30 - v 0 10 - v 0 11 := (if_neg (by decide)).trans ((if_neg (by decide)).trans ((if_neg (by decide)).trans ((if_neg (by decide)).trans ((if_neg (by decide)).trans (if_pos rfl)))))
  refine (cl_X8_chest f x v u (nI 0) 3 rg hc).trans ?_
  rw [e]
  rfl
theorem rd_chest_0_4 (f : Nat → Option Nat) (x v u : pLV) (rg : pRg) (hc : bOK f rg) : F_X8_chest [.ref 0, .int (nI 0), .int 4] (cw f x v u) rg = some (some (.int (v 0 12)), cw f x v u, rg) := by
  have e : chsB (NX x) (NL v) (nI 0) 4 = v 0 12 := (if_neg (by decide)).trans ((if_neg (by decide)).trans ((if_neg (by decide)).trans ((if_neg (by decide)).trans ((if_neg (by decide)).trans ((if_neg (by decide)).trans (if_pos rfl))))))
  refine (cl_X8_chest f x v u (nI 0) 4 rg hc).trans ?_
  rw [e]
  rfl
theorem rd_room_0 (w : pWd) (rg : pRg) (hw : w.length ≤ 100000) : F_L_room [.int (nI 0)] w rg = some (some (.int 20000), w, rg) := by
  have e : roomI (nI 0) = 20000 := by decide
  refine (cl_L_room w rg (nI 0) hw).trans ?_
  rw [e]
theorem rd_chest_1_0 (f : Nat → Option Nat) (x v u : pLV) (rg : pRg) (hc : bOK f rg) : F_X8_chest [.ref 0, .int (nI 1), .int 0] (cw f x v u) rg = some (some (.int (v 0 13)), cw f x v u, rg) := by
  have e : chsB (NX x) (NL v) (nI 1) 0 = v 0 13 := (if_neg (by decide)).trans ((if_neg (by decide)).trans (if_pos rfl))
  refine (cl_X8_chest f x v u (nI 1) 0 rg hc).trans ?_
  rw [e]
  rfl
theorem rd_chest_1_1 (f : Nat → Option Nat) (x v u : pLV) (rg : pRg) (hc : bOK f rg) : F_X8_chest [.ref 0, .int (nI 1), .int 1] (cw f x v u) rg = some (some (.int (v 0 14)), cw f x v u, rg) := by
  have e : chsB (NX x) (NL v) (nI 1) 1 = v 0 14 := (if_neg (by decide)).trans ((if_neg (by decide)).trans ((if_neg (by decide)).trans (if_pos rfl)))
  refine (cl_X8_chest f x v u (nI 1) 1 rg hc).trans ?_
  rw [e]
  rfl
theorem rd_chest_1_2 (f : Nat → Option Nat) (x v u : pLV) (rg : pRg) (hc : bOK f rg) : F_X8_chest [.ref 0, .int (nI 1), .int 2] (cw f x v u) rg = some (some (.int (csC (v 0 13) (v 0 14))), cw f x v u, rg) := by
  have e : chsB (NX x) (NL v) (nI 1) 2 = csC (v 0 13) (v 0 14) := (if_neg (by decide)).trans ((if_neg (by decide)).trans ((if_neg (by decide)).trans ((if_neg (by decide)).trans (if_pos rfl))))
  refine (cl_X8_chest f x v u (nI 1) 2 rg hc).trans ?_
  rw [e]
  rfl
theorem rd_chest_1_3 (f : Nat → Option Nat) (x v u : pLV) (rg : pRg) (hc : bOK f rg) : F_X8_chest [.ref 0, .int (nI 1), .int 3] (cw f x v u) rg = some (some (.int (v 0 31 - v 0 13 - v 0 14)), cw f x v u, rg) := by
  have e : chsB (NX x) (NL v) (nI 1) 3 = v 0 31 - v 0 13 - v 0 14 := (if_neg (by decide)).trans ((if_neg (by decide)).trans ((if_neg (by decide)).trans ((if_neg (by decide)).trans ((if_neg (by decide)).trans (if_pos rfl)))))
  refine (cl_X8_chest f x v u (nI 1) 3 rg hc).trans ?_
  rw [e]
  rfl
theorem rd_chest_1_4 (f : Nat → Option Nat) (x v u : pLV) (rg : pRg) (hc : bOK f rg) : F_X8_chest [.ref 0, .int (nI 1), .int 4] (cw f x v u) rg = some (some (.int (v 0 15)), cw f x v u, rg) := by
  have e : chsB (NX x) (NL v) (nI 1) 4 = v 0 15 := (if_neg (by decide)).trans ((if_neg (by decide)).trans ((if_neg (by decide)).trans ((if_neg (by decide)).trans ((if_neg (by decide)).trans ((if_neg (by decide)).trans (if_pos rfl))))))
  refine (cl_X8_chest f x v u (nI 1) 4 rg hc).trans ?_
  rw [e]
  rfl
theorem rd_room_1 (w : pWd) (rg : pRg) (hw : w.length ≤ 100000) : F_L_room [.int (nI 1)] w rg = some (some (.int 30000), w, rg) := by
  have e : roomI (nI 1) = 30000 := by decide
  refine (cl_L_room w rg (nI 1) hw).trans ?_
  rw [e]
theorem rd_chest_2_0 (f : Nat → Option Nat) (x v u : pLV) (rg : pRg) (hc : bOK f rg) : F_X8_chest [.ref 0, .int (nI 2), .int 0] (cw f x v u) rg = some (some (.int (v 0 16)), cw f x v u, rg) := by
  have e : chsB (NX x) (NL v) (nI 2) 0 = v 0 16 := (if_neg (by decide)).trans ((if_neg (by decide)).trans (if_pos rfl))
  refine (cl_X8_chest f x v u (nI 2) 0 rg hc).trans ?_
  rw [e]
  rfl
theorem rd_chest_2_1 (f : Nat → Option Nat) (x v u : pLV) (rg : pRg) (hc : bOK f rg) : F_X8_chest [.ref 0, .int (nI 2), .int 1] (cw f x v u) rg = some (some (.int (v 0 17)), cw f x v u, rg) := by
  have e : chsB (NX x) (NL v) (nI 2) 1 = v 0 17 := (if_neg (by decide)).trans ((if_neg (by decide)).trans ((if_neg (by decide)).trans (if_pos rfl)))
  refine (cl_X8_chest f x v u (nI 2) 1 rg hc).trans ?_
  rw [e]
  rfl
theorem rd_chest_2_2 (f : Nat → Option Nat) (x v u : pLV) (rg : pRg) (hc : bOK f rg) : F_X8_chest [.ref 0, .int (nI 2), .int 2] (cw f x v u) rg = some (some (.int (csC (v 0 16) (v 0 17))), cw f x v u, rg) := by
  have e : chsB (NX x) (NL v) (nI 2) 2 = csC (v 0 16) (v 0 17) := (if_neg (by decide)).trans ((if_neg (by decide)).trans ((if_neg (by decide)).trans ((if_neg (by decide)).trans (if_pos rfl))))
  refine (cl_X8_chest f x v u (nI 2) 2 rg hc).trans ?_
  rw [e]
  rfl
theorem rd_chest_2_3 (f : Nat → Option Nat) (x v u : pLV) (rg : pRg) (hc : bOK f rg) : F_X8_chest [.ref 0, .int (nI 2), .int 3] (cw f x v u) rg = some (some (.int (v 0 32 - v 0 16 - v 0 17)), cw f x v u, rg) := by
  have e : chsB (NX x) (NL v) (nI 2) 3 = v 0 32 - v 0 16 - v 0 17 := (if_neg (by decide)).trans ((if_neg (by decide)).trans ((if_neg (by decide)).trans ((if_neg (by decide)).trans ((if_neg (by decide)).trans (if_pos rfl)))))
  refine (cl_X8_chest f x v u (nI 2) 3 rg hc).trans ?_
  rw [e]
  rfl
theorem rd_chest_2_4 (f : Nat → Option Nat) (x v u : pLV) (rg : pRg) (hc : bOK f rg) : F_X8_chest [.ref 0, .int (nI 2), .int 4] (cw f x v u) rg = some (some (.int (v 0 18)), cw f x v u, rg) := by
  have e : chsB (NX x) (NL v) (nI 2) 4 = v 0 18 := (if_neg (by decide)).trans ((if_neg (by decide)).trans ((if_neg (by decide)).trans ((if_neg (by decide)).trans ((if_neg (by decide)).trans ((if_neg (by decide)).trans (if_pos rfl))))))
  refine (cl_X8_chest f x v u (nI 2) 4 rg hc).trans ?_
  rw [e]
  rfl
theorem rd_room_2 (w : pWd) (rg : pRg) (hw : w.length ≤ 100000) : F_L_room [.int (nI 2)] w rg = some (some (.int 10000), w, rg) := by
  have e : roomI (nI 2) = 10000 := by decide
  refine (cl_L_room w rg (nI 2) hw).trans ?_
  rw [e]
theorem rd_chest_3_0 (f : Nat → Option Nat) (x v u : pLV) (rg : pRg) (hc : bOK f rg) : F_X8_chest [.ref 0, .int (nI 3), .int 0] (cw f x v u) rg = some (some (.int (v 0 19)), cw f x v u, rg) := by
  have e : chsB (NX x) (NL v) (nI 3) 0 = v 0 19 := (if_neg (by decide)).trans ((if_neg (by decide)).trans (if_pos rfl))
  refine (cl_X8_chest f x v u (nI 3) 0 rg hc).trans ?_
  rw [e]
  rfl
theorem rd_chest_3_1 (f : Nat → Option Nat) (x v u : pLV) (rg : pRg) (hc : bOK f rg) : F_X8_chest [.ref 0, .int (nI 3), .int 1] (cw f x v u) rg = some (some (.int (v 0 20)), cw f x v u, rg) := by
  have e : chsB (NX x) (NL v) (nI 3) 1 = v 0 20 := (if_neg (by decide)).trans ((if_neg (by decide)).trans ((if_neg (by decide)).trans (if_pos rfl)))
  refine (cl_X8_chest f x v u (nI 3) 1 rg hc).trans ?_
  rw [e]
  rfl
theorem rd_chest_3_2 (f : Nat → Option Nat) (x v u : pLV) (rg : pRg) (hc : bOK f rg) : F_X8_chest [.ref 0, .int (nI 3), .int 2] (cw f x v u) rg = some (some (.int (csC (v 0 19) (v 0 20))), cw f x v u, rg) := by
  have e : chsB (NX x) (NL v) (nI 3) 2 = csC (v 0 19) (v 0 20) := (if_neg (by decide)).trans ((if_neg (by decide)).trans ((if_neg (by decide)).trans ((if_neg (by decide)).trans (if_pos rfl))))
  refine (cl_X8_chest f x v u (nI 3) 2 rg hc).trans ?_
  rw [e]
  rfl
theorem rd_chest_3_3 (f : Nat → Option Nat) (x v u : pLV) (rg : pRg) (hc : bOK f rg) : F_X8_chest [.ref 0, .int (nI 3), .int 3] (cw f x v u) rg = some (some (.int (v 0 33 - v 0 19 - v 0 20)), cw f x v u, rg) := by
  have e : chsB (NX x) (NL v) (nI 3) 3 = v 0 33 - v 0 19 - v 0 20 := (if_neg (by decide)).trans ((if_neg (by decide)).trans ((if_neg (by decide)).trans ((if_neg (by decide)).trans ((if_neg (by decide)).trans (if_pos rfl)))))
  refine (cl_X8_chest f x v u (nI 3) 3 rg hc).trans ?_
  rw [e]
  rfl
theorem rd_chest_3_4 (f : Nat → Option Nat) (x v u : pLV) (rg : pRg) (hc : bOK f rg) : F_X8_chest [.ref 0, .int (nI 3), .int 4] (cw f x v u) rg = some (some (.int (v 0 21)), cw f x v u, rg) := by
  have e : chsB (NX x) (NL v) (nI 3) 4 = v 0 21 := (if_neg (by decide)).trans ((if_neg (by decide)).trans ((if_neg (by decide)).trans ((if_neg (by decide)).trans ((if_neg (by decide)).trans ((if_neg (by decide)).trans (if_pos rfl))))))
  refine (cl_X8_chest f x v u (nI 3) 4 rg hc).trans ?_
  rw [e]
  rfl
theorem rd_room_3 (w : pWd) (rg : pRg) (hw : w.length ≤ 100000) : F_L_room [.int (nI 3)] w rg = some (some (.int 10000), w, rg) := by
  have e : roomI (nI 3) = 10000 := by decide
  refine (cl_L_room w rg (nI 3) hw).trans ?_
  rw [e]
theorem pap_0 (x v : pLV) : papB x v 0 = v 2 0 := (if_neg (by decide)).trans ((if_neg (by decide)).trans rfl)
theorem pap_1 (x v : pLV) : papB x v 1 = v 2 1 := (if_neg (by decide)).trans ((if_neg (by decide)).trans rfl)
theorem pap_2 (x v : pLV) : papB x v 2 = v 2 2 := (if_neg (by decide)).trans ((if_neg (by decide)).trans rfl)
theorem pap_3 (x v : pLV) : papB x v 3 = v 2 3 := (if_neg (by decide)).trans ((if_neg (by decide)).trans rfl)
theorem pap_4 (x v : pLV) : papB x v 4 = -1 := (if_neg (by decide)).trans (if_pos (by decide))
theorem acc_0 (x v : pLV) : accB x v 0 = v 0 22 := if_pos rfl
theorem acc_1 (x v : pLV) : accB x v 1 = v 0 23 := (if_neg (by decide)).trans (if_pos rfl)
theorem acc_2 (x v : pLV) : accB x v 2 = sumP (v 2) 4 := (if_neg (by decide)).trans ((if_neg (by decide)).trans (if_pos rfl))
theorem acc_3 (x v : pLV) : accB x v 3 = v 0 24 := (if_neg (by decide)).trans ((if_neg (by decide)).trans ((if_neg (by decide)).trans (if_pos rfl)))
theorem acc_4 (x v : pLV) : accB x v 4 = v 0 25 := (if_neg (by decide)).trans ((if_neg (by decide)).trans ((if_neg (by decide)).trans ((if_neg (by decide)).trans (if_pos rfl))))
theorem acc_5 (x v : pLV) : accB x v 5 = fibV v := (if_neg (by decide)).trans ((if_neg (by decide)).trans ((if_neg (by decide)).trans ((if_neg (by decide)).trans ((if_neg (by decide)).trans (if_pos rfl)))))
theorem acc_6 (x v : pLV) : accB x v 6 = 400 := (if_neg (by decide)).trans ((if_neg (by decide)).trans ((if_neg (by decide)).trans ((if_neg (by decide)).trans ((if_neg (by decide)).trans ((if_neg (by decide)).trans (if_pos rfl))))))
theorem acc_7 (x v : pLV) : accB x v 7 = v 0 26 := (if_neg (by decide)).trans ((if_neg (by decide)).trans ((if_neg (by decide)).trans ((if_neg (by decide)).trans ((if_neg (by decide)).trans ((if_neg (by decide)).trans ((if_neg (by decide)).trans (if_pos rfl)))))))
theorem acc_8 (x v : pLV) : accB x v 8 = -1 := (if_neg (by decide)).trans ((if_neg (by decide)).trans ((if_neg (by decide)).trans ((if_neg (by decide)).trans ((if_neg (by decide)).trans ((if_neg (by decide)).trans ((if_neg (by decide)).trans ((if_neg (by decide)).trans (rfl))))))))
def Ac0 (v : pLV) : Prop := ¬ v 0 10 < 0 ∧ ¬ v 0 11 < 0 ∧ ¬ (20000 : Int32) < v 0 10 + v 0 11 ∧ v 0 30 = 20000 ∧ csC (v 0 10) (v 0 11) = (if v 0 10 + v 0 11 = 0 then 0 else v 0 10 * 1000 / (v 0 10 + v 0 11)) ∧ v 0 12 ≤ 20000
def Ac1 (v : pLV) : Prop := ¬ v 0 13 < 0 ∧ ¬ v 0 14 < 0 ∧ ¬ (30000 : Int32) < v 0 13 + v 0 14 ∧ v 0 31 = 30000 ∧ csC (v 0 13) (v 0 14) = (if v 0 13 + v 0 14 = 0 then 0 else v 0 13 * 1000 / (v 0 13 + v 0 14)) ∧ v 0 15 ≤ 30000
def Ac2 (v : pLV) : Prop := ¬ v 0 16 < 0 ∧ ¬ v 0 17 < 0 ∧ ¬ (10000 : Int32) < v 0 16 + v 0 17 ∧ v 0 32 = 10000 ∧ csC (v 0 16) (v 0 17) = (if v 0 16 + v 0 17 = 0 then 0 else v 0 16 * 1000 / (v 0 16 + v 0 17)) ∧ v 0 18 ≤ 10000
def Ac3 (v : pLV) : Prop := ¬ v 0 19 < 0 ∧ ¬ v 0 20 < 0 ∧ ¬ (10000 : Int32) < v 0 19 + v 0 20 ∧ v 0 33 = 10000 ∧ csC (v 0 19) (v 0 20) = (if v 0 19 + v 0 20 = 0 then 0 else v 0 19 * 1000 / (v 0 19 + v 0 20)) ∧ v 0 21 ≤ 10000
def AccC (v : pLV) : Prop := Ac0 v ∧ Ac1 v ∧ Ac2 v ∧ Ac3 v ∧ 400 + v 0 22 + v 0 23 = sumP (v 2) 4 + v 0 24 + v 0 25 + fibV v
theorem dL_areAccounts_0 : decode cL_areAccounts 0 = .ok (.iconst 0, 1) := by decide +kernel
theorem dL_areAccounts_1 : decode cL_areAccounts 1 = .ok (.istore_n 1, 1) := by decide +kernel
theorem dL_areAccounts_2 : decode cL_areAccounts 2 = .ok (.iconst 0, 1) := by decide +kernel
theorem dL_areAccounts_3 : decode cL_areAccounts 3 = .ok (.istore_n 2, 1) := by decide +kernel
theorem dL_areAccounts_4 : decode cL_areAccounts 4 = .ok (.iload_n 2, 1) := by decide +kernel
theorem dL_areAccounts_5 : decode cL_areAccounts 5 = .ok (.iconst 4, 1) := by decide +kernel
theorem dL_areAccounts_6 : decode cL_areAccounts 6 = .ok (.if_icmp .ge 115, 3) := by decide +kernel
theorem dL_areAccounts_9 : decode cL_areAccounts 9 = .ok (.aload_n 0, 1) := by decide +kernel
theorem dL_areAccounts_10 : decode cL_areAccounts 10 = .ok (.iload_n 2, 1) := by decide +kernel
theorem dL_areAccounts_11 : decode cL_areAccounts 11 = .ok (.iconst 0, 1) := by decide +kernel
theorem dL_areAccounts_12 : decode cL_areAccounts 12 = .ok (.invokevirtual 67, 3) := by decide +kernel
theorem dL_areAccounts_15 : decode cL_areAccounts 15 = .ok (.istore_n 3, 1) := by decide +kernel
theorem dL_areAccounts_16 : decode cL_areAccounts 16 = .ok (.aload_n 0, 1) := by decide +kernel
theorem dL_areAccounts_17 : decode cL_areAccounts 17 = .ok (.iload_n 2, 1) := by decide +kernel
theorem dL_areAccounts_18 : decode cL_areAccounts 18 = .ok (.iconst 1, 1) := by decide +kernel
theorem dL_areAccounts_19 : decode cL_areAccounts 19 = .ok (.invokevirtual 67, 3) := by decide +kernel
theorem dL_areAccounts_22 : decode cL_areAccounts 22 = .ok (.istore 4, 2) := by decide +kernel
theorem dL_areAccounts_24 : decode cL_areAccounts 24 = .ok (.iload_n 3, 1) := by decide +kernel
theorem dL_areAccounts_25 : decode cL_areAccounts 25 = .ok (.iload 4, 2) := by decide +kernel
theorem dL_areAccounts_27 : decode cL_areAccounts 27 = .ok (.iadd, 1) := by decide +kernel
theorem dL_areAccounts_28 : decode cL_areAccounts 28 = .ok (.ifCond .ne 7, 3) := by decide +kernel
theorem dL_areAccounts_31 : decode cL_areAccounts 31 = .ok (.iconst 0, 1) := by decide +kernel
theorem dL_areAccounts_32 : decode cL_areAccounts 32 = .ok (.goto 13, 3) := by decide +kernel
theorem dL_areAccounts_35 : decode cL_areAccounts 35 = .ok (.iload_n 3, 1) := by decide +kernel
theorem dL_areAccounts_36 : decode cL_areAccounts 36 = .ok (.sipush 1000, 3) := by decide +kernel
theorem dL_areAccounts_39 : decode cL_areAccounts 39 = .ok (.imul, 1) := by decide +kernel
theorem dL_areAccounts_40 : decode cL_areAccounts 40 = .ok (.iload_n 3, 1) := by decide +kernel
theorem dL_areAccounts_41 : decode cL_areAccounts 41 = .ok (.iload 4, 2) := by decide +kernel
theorem dL_areAccounts_43 : decode cL_areAccounts 43 = .ok (.iadd, 1) := by decide +kernel
theorem dL_areAccounts_44 : decode cL_areAccounts 44 = .ok (.idiv, 1) := by decide +kernel
theorem dL_areAccounts_45 : decode cL_areAccounts 45 = .ok (.istore 5, 2) := by decide +kernel
theorem dL_areAccounts_47 : decode cL_areAccounts 47 = .ok (.iload_n 1, 1) := by decide +kernel
theorem dL_areAccounts_48 : decode cL_areAccounts 48 = .ok (.iload_n 3, 1) := by decide +kernel
theorem dL_areAccounts_49 : decode cL_areAccounts 49 = .ok (.iadd, 1) := by decide +kernel
theorem dL_areAccounts_50 : decode cL_areAccounts 50 = .ok (.istore_n 1, 1) := by decide +kernel
theorem dL_areAccounts_51 : decode cL_areAccounts 51 = .ok (.iload_n 3, 1) := by decide +kernel
theorem dL_areAccounts_52 : decode cL_areAccounts 52 = .ok (.ifCond .lt 61, 3) := by decide +kernel
theorem dL_areAccounts_55 : decode cL_areAccounts 55 = .ok (.iload 4, 2) := by decide +kernel
theorem dL_areAccounts_57 : decode cL_areAccounts 57 = .ok (.ifCond .lt 56, 3) := by decide +kernel
theorem dL_areAccounts_60 : decode cL_areAccounts 60 = .ok (.iload_n 3, 1) := by decide +kernel
theorem dL_areAccounts_61 : decode cL_areAccounts 61 = .ok (.iload 4, 2) := by decide +kernel
theorem dL_areAccounts_63 : decode cL_areAccounts 63 = .ok (.iadd, 1) := by decide +kernel
theorem dL_areAccounts_64 : decode cL_areAccounts 64 = .ok (.iload_n 2, 1) := by decide +kernel
theorem dL_areAccounts_65 : decode cL_areAccounts 65 = .ok (.invokestatic 70, 3) := by decide +kernel
theorem dL_areAccounts_68 : decode cL_areAccounts 68 = .ok (.if_icmp .gt 45, 3) := by decide +kernel
theorem dL_areAccounts_71 : decode cL_areAccounts 71 = .ok (.aload_n 0, 1) := by decide +kernel
theorem dL_areAccounts_72 : decode cL_areAccounts 72 = .ok (.iload_n 2, 1) := by decide +kernel
theorem dL_areAccounts_73 : decode cL_areAccounts 73 = .ok (.iconst 3, 1) := by decide +kernel
theorem dL_areAccounts_74 : decode cL_areAccounts 74 = .ok (.invokevirtual 67, 3) := by decide +kernel
theorem dL_areAccounts_77 : decode cL_areAccounts 77 = .ok (.iload_n 2, 1) := by decide +kernel
theorem dL_areAccounts_78 : decode cL_areAccounts 78 = .ok (.invokestatic 70, 3) := by decide +kernel
theorem dL_areAccounts_81 : decode cL_areAccounts 81 = .ok (.iload_n 3, 1) := by decide +kernel
theorem dL_areAccounts_82 : decode cL_areAccounts 82 = .ok (.isub, 1) := by decide +kernel
theorem dL_areAccounts_83 : decode cL_areAccounts 83 = .ok (.iload 4, 2) := by decide +kernel
theorem dL_areAccounts_85 : decode cL_areAccounts 85 = .ok (.isub, 1) := by decide +kernel
theorem dL_areAccounts_86 : decode cL_areAccounts 86 = .ok (.if_icmp .ne 27, 3) := by decide +kernel
theorem dL_areAccounts_89 : decode cL_areAccounts 89 = .ok (.aload_n 0, 1) := by decide +kernel
theorem dL_areAccounts_90 : decode cL_areAccounts 90 = .ok (.iload_n 2, 1) := by decide +kernel
theorem dL_areAccounts_91 : decode cL_areAccounts 91 = .ok (.iconst 2, 1) := by decide +kernel
theorem dL_areAccounts_92 : decode cL_areAccounts 92 = .ok (.invokevirtual 67, 3) := by decide +kernel
theorem dL_areAccounts_95 : decode cL_areAccounts 95 = .ok (.iload 5, 2) := by decide +kernel
theorem dL_areAccounts_97 : decode cL_areAccounts 97 = .ok (.if_icmp .ne 16, 3) := by decide +kernel
theorem dL_areAccounts_100 : decode cL_areAccounts 100 = .ok (.aload_n 0, 1) := by decide +kernel
theorem dL_areAccounts_101 : decode cL_areAccounts 101 = .ok (.iload_n 2, 1) := by decide +kernel
theorem dL_areAccounts_102 : decode cL_areAccounts 102 = .ok (.iconst 4, 1) := by decide +kernel
theorem dL_areAccounts_103 : decode cL_areAccounts 103 = .ok (.invokevirtual 67, 3) := by decide +kernel
theorem dL_areAccounts_106 : decode cL_areAccounts 106 = .ok (.iload_n 2, 1) := by decide +kernel
theorem dL_areAccounts_107 : decode cL_areAccounts 107 = .ok (.invokestatic 70, 3) := by decide +kernel
theorem dL_areAccounts_110 : decode cL_areAccounts 110 = .ok (.if_icmp .le 5, 3) := by decide +kernel
theorem dL_areAccounts_113 : decode cL_areAccounts 113 = .ok (.iconst 0, 1) := by decide +kernel
theorem dL_areAccounts_114 : decode cL_areAccounts 114 = .ok (.ireturn, 1) := by decide +kernel
theorem dL_areAccounts_115 : decode cL_areAccounts 115 = .ok (.iinc 2 1, 3) := by decide +kernel
theorem dL_areAccounts_118 : decode cL_areAccounts 118 = .ok (.goto (-114), 3) := by decide +kernel
theorem dL_areAccounts_121 : decode cL_areAccounts 121 = .ok (.aload_n 0, 1) := by decide +kernel
theorem dL_areAccounts_122 : decode cL_areAccounts 122 = .ok (.iconst 0, 1) := by decide +kernel
theorem dL_areAccounts_123 : decode cL_areAccounts 123 = .ok (.invokevirtual 73, 3) := by decide +kernel
theorem dL_areAccounts_126 : decode cL_areAccounts 126 = .ok (.aload_n 0, 1) := by decide +kernel
theorem dL_areAccounts_127 : decode cL_areAccounts 127 = .ok (.iconst 1, 1) := by decide +kernel
theorem dL_areAccounts_128 : decode cL_areAccounts 128 = .ok (.invokevirtual 73, 3) := by decide +kernel
theorem dL_areAccounts_131 : decode cL_areAccounts 131 = .ok (.iadd, 1) := by decide +kernel
theorem dL_areAccounts_132 : decode cL_areAccounts 132 = .ok (.aload_n 0, 1) := by decide +kernel
theorem dL_areAccounts_133 : decode cL_areAccounts 133 = .ok (.iconst 2, 1) := by decide +kernel
theorem dL_areAccounts_134 : decode cL_areAccounts 134 = .ok (.invokevirtual 73, 3) := by decide +kernel
theorem dL_areAccounts_137 : decode cL_areAccounts 137 = .ok (.iadd, 1) := by decide +kernel
theorem dL_areAccounts_138 : decode cL_areAccounts 138 = .ok (.aload_n 0, 1) := by decide +kernel
theorem dL_areAccounts_139 : decode cL_areAccounts 139 = .ok (.iconst 3, 1) := by decide +kernel
theorem dL_areAccounts_140 : decode cL_areAccounts 140 = .ok (.invokevirtual 73, 3) := by decide +kernel
theorem dL_areAccounts_143 : decode cL_areAccounts 143 = .ok (.iadd, 1) := by decide +kernel
theorem dL_areAccounts_144 : decode cL_areAccounts 144 = .ok (.istore_n 2, 1) := by decide +kernel
theorem dL_areAccounts_145 : decode cL_areAccounts 145 = .ok (.iload_n 2, 1) := by decide +kernel
theorem dL_areAccounts_146 : decode cL_areAccounts 146 = .ok (.aload_n 0, 1) := by decide +kernel
theorem dL_areAccounts_147 : decode cL_areAccounts 147 = .ok (.bipush 7, 2) := by decide +kernel
theorem dL_areAccounts_149 : decode cL_areAccounts 149 = .ok (.invokevirtual 76, 3) := by decide +kernel
theorem dL_areAccounts_152 : decode cL_areAccounts 152 = .ok (.iadd, 1) := by decide +kernel
theorem dL_areAccounts_153 : decode cL_areAccounts 153 = .ok (.istore_n 3, 1) := by decide +kernel
theorem dL_areAccounts_154 : decode cL_areAccounts 154 = .ok (.aload_n 0, 1) := by decide +kernel
theorem dL_areAccounts_155 : decode cL_areAccounts 155 = .ok (.iconst 5, 1) := by decide +kernel
theorem dL_areAccounts_156 : decode cL_areAccounts 156 = .ok (.invokevirtual 76, 3) := by decide +kernel
theorem dL_areAccounts_159 : decode cL_areAccounts 159 = .ok (.iload_n 1, 1) := by decide +kernel
theorem dL_areAccounts_160 : decode cL_areAccounts 160 = .ok (.if_icmp .ne 47, 3) := by decide +kernel
theorem dL_areAccounts_163 : decode cL_areAccounts 163 = .ok (.aload_n 0, 1) := by decide +kernel
theorem dL_areAccounts_164 : decode cL_areAccounts 164 = .ok (.iconst 2, 1) := by decide +kernel
theorem dL_areAccounts_165 : decode cL_areAccounts 165 = .ok (.invokevirtual 76, 3) := by decide +kernel
theorem dL_areAccounts_168 : decode cL_areAccounts 168 = .ok (.iload_n 2, 1) := by decide +kernel
theorem dL_areAccounts_169 : decode cL_areAccounts 169 = .ok (.if_icmp .ne 38, 3) := by decide +kernel
theorem dL_areAccounts_172 : decode cL_areAccounts 172 = .ok (.aload_n 0, 1) := by decide +kernel
theorem dL_areAccounts_173 : decode cL_areAccounts 173 = .ok (.bipush 6, 2) := by decide +kernel
theorem dL_areAccounts_175 : decode cL_areAccounts 175 = .ok (.invokevirtual 76, 3) := by decide +kernel
theorem dL_areAccounts_178 : decode cL_areAccounts 178 = .ok (.sipush 400, 3) := by decide +kernel
theorem dL_areAccounts_181 : decode cL_areAccounts 181 = .ok (.if_icmp .ne 26, 3) := by decide +kernel
theorem dL_areAccounts_184 : decode cL_areAccounts 184 = .ok (.aload_n 0, 1) := by decide +kernel
theorem dL_areAccounts_185 : decode cL_areAccounts 185 = .ok (.iconst 4, 1) := by decide +kernel
theorem dL_areAccounts_186 : decode cL_areAccounts 186 = .ok (.invokevirtual 73, 3) := by decide +kernel
theorem dL_areAccounts_189 : decode cL_areAccounts 189 = .ok (.iconst (-1), 1) := by decide +kernel
theorem dL_areAccounts_190 : decode cL_areAccounts 190 = .ok (.if_icmp .ne 17, 3) := by decide +kernel
theorem dL_areAccounts_193 : decode cL_areAccounts 193 = .ok (.aload_n 0, 1) := by decide +kernel
theorem dL_areAccounts_194 : decode cL_areAccounts 194 = .ok (.bipush 8, 2) := by decide +kernel
theorem dL_areAccounts_196 : decode cL_areAccounts 196 = .ok (.invokevirtual 76, 3) := by decide +kernel
theorem dL_areAccounts_199 : decode cL_areAccounts 199 = .ok (.iconst (-1), 1) := by decide +kernel
theorem dL_areAccounts_200 : decode cL_areAccounts 200 = .ok (.if_icmp .ne 7, 3) := by decide +kernel
theorem dL_areAccounts_203 : decode cL_areAccounts 203 = .ok (.iconst 1, 1) := by decide +kernel
theorem dL_areAccounts_204 : decode cL_areAccounts 204 = .ok (.goto 4, 3) := by decide +kernel
theorem dL_areAccounts_207 : decode cL_areAccounts 207 = .ok (.iconst 0, 1) := by decide +kernel
theorem dL_areAccounts_208 : decode cL_areAccounts 208 = .ok (.istore 4, 2) := by decide +kernel
theorem dL_areAccounts_210 : decode cL_areAccounts 210 = .ok (.iload 4, 2) := by decide +kernel
theorem dL_areAccounts_212 : decode cL_areAccounts 212 = .ok (.ifCond .eq 43, 3) := by decide +kernel
theorem dL_areAccounts_215 : decode cL_areAccounts 215 = .ok (.aload_n 0, 1) := by decide +kernel
theorem dL_areAccounts_216 : decode cL_areAccounts 216 = .ok (.bipush 6, 2) := by decide +kernel
theorem dL_areAccounts_218 : decode cL_areAccounts 218 = .ok (.invokevirtual 76, 3) := by decide +kernel
theorem dL_areAccounts_221 : decode cL_areAccounts 221 = .ok (.aload_n 0, 1) := by decide +kernel
theorem dL_areAccounts_222 : decode cL_areAccounts 222 = .ok (.iconst 0, 1) := by decide +kernel
theorem dL_areAccounts_223 : decode cL_areAccounts 223 = .ok (.invokevirtual 76, 3) := by decide +kernel
theorem dL_areAccounts_226 : decode cL_areAccounts 226 = .ok (.iadd, 1) := by decide +kernel
theorem dL_areAccounts_227 : decode cL_areAccounts 227 = .ok (.aload_n 0, 1) := by decide +kernel
theorem dL_areAccounts_228 : decode cL_areAccounts 228 = .ok (.iconst 1, 1) := by decide +kernel
theorem dL_areAccounts_229 : decode cL_areAccounts 229 = .ok (.invokevirtual 76, 3) := by decide +kernel
theorem dL_areAccounts_232 : decode cL_areAccounts 232 = .ok (.iadd, 1) := by decide +kernel
theorem dL_areAccounts_233 : decode cL_areAccounts 233 = .ok (.iload_n 2, 1) := by decide +kernel
theorem dL_areAccounts_234 : decode cL_areAccounts 234 = .ok (.aload_n 0, 1) := by decide +kernel
theorem dL_areAccounts_235 : decode cL_areAccounts 235 = .ok (.iconst 3, 1) := by decide +kernel
theorem dL_areAccounts_236 : decode cL_areAccounts 236 = .ok (.invokevirtual 76, 3) := by decide +kernel
theorem dL_areAccounts_239 : decode cL_areAccounts 239 = .ok (.iadd, 1) := by decide +kernel
theorem dL_areAccounts_240 : decode cL_areAccounts 240 = .ok (.aload_n 0, 1) := by decide +kernel
theorem dL_areAccounts_241 : decode cL_areAccounts 241 = .ok (.iconst 4, 1) := by decide +kernel
theorem dL_areAccounts_242 : decode cL_areAccounts 242 = .ok (.invokevirtual 76, 3) := by decide +kernel
theorem dL_areAccounts_245 : decode cL_areAccounts 245 = .ok (.iadd, 1) := by decide +kernel
theorem dL_areAccounts_246 : decode cL_areAccounts 246 = .ok (.iload_n 1, 1) := by decide +kernel
theorem dL_areAccounts_247 : decode cL_areAccounts 247 = .ok (.iadd, 1) := by decide +kernel
theorem dL_areAccounts_248 : decode cL_areAccounts 248 = .ok (.if_icmp .ne 7, 3) := by decide +kernel
theorem dL_areAccounts_251 : decode cL_areAccounts 251 = .ok (.iconst 1, 1) := by decide +kernel
theorem dL_areAccounts_252 : decode cL_areAccounts 252 = .ok (.goto 4, 3) := by decide +kernel
theorem dL_areAccounts_255 : decode cL_areAccounts 255 = .ok (.iconst 0, 1) := by decide +kernel
theorem dL_areAccounts_256 : decode cL_areAccounts 256 = .ok (.istore 4, 2) := by decide +kernel
theorem dL_areAccounts_258 : decode cL_areAccounts 258 = .ok (.iload 4, 2) := by decide +kernel
theorem dL_areAccounts_260 : decode cL_areAccounts 260 = .ok (.ifCond .eq 28, 3) := by decide +kernel
theorem dL_areAccounts_263 : decode cL_areAccounts 263 = .ok (.aload_n 0, 1) := by decide +kernel
theorem dL_areAccounts_264 : decode cL_areAccounts 264 = .ok (.invokevirtual 79, 3) := by decide +kernel
theorem dL_areAccounts_267 : decode cL_areAccounts 267 = .ok (.iload_n 3, 1) := by decide +kernel
theorem dL_areAccounts_268 : decode cL_areAccounts 268 = .ok (.ifCond .ne 7, 3) := by decide +kernel
theorem dL_areAccounts_271 : decode cL_areAccounts 271 = .ok (.fconst 0, 1) := by decide +kernel
theorem dL_areAccounts_272 : decode cL_areAccounts 272 = .ok (.goto 8, 3) := by decide +kernel
theorem dL_areAccounts_275 : decode cL_areAccounts 275 = .ok (.iload_n 2, 1) := by decide +kernel
theorem dL_areAccounts_276 : decode cL_areAccounts 276 = .ok (.i2f, 1) := by decide +kernel
theorem dL_areAccounts_277 : decode cL_areAccounts 277 = .ok (.iload_n 3, 1) := by decide +kernel
theorem dL_areAccounts_278 : decode cL_areAccounts 278 = .ok (.i2f, 1) := by decide +kernel
theorem dL_areAccounts_279 : decode cL_areAccounts 279 = .ok (.fdiv, 1) := by decide +kernel
theorem dL_areAccounts_280 : decode cL_areAccounts 280 = .ok (.fcmp .l, 1) := by decide +kernel
theorem dL_areAccounts_281 : decode cL_areAccounts 281 = .ok (.ifCond .ne 7, 3) := by decide +kernel
theorem dL_areAccounts_284 : decode cL_areAccounts 284 = .ok (.iconst 1, 1) := by decide +kernel
theorem dL_areAccounts_285 : decode cL_areAccounts 285 = .ok (.goto 4, 3) := by decide +kernel
theorem dL_areAccounts_288 : decode cL_areAccounts 288 = .ok (.iconst 0, 1) := by decide +kernel
theorem dL_areAccounts_289 : decode cL_areAccounts 289 = .ok (.ireturn, 1) := by decide +kernel
def k_L_areAccounts : List pEn := [oConst (0), oIstore 1, oConst (0), oIstore 2, oIload 2, oConst (4), oCge 73, oAload 0, oIload 2, oConst (0), oCallZ 3 F_X8_chest, oIstore 3, oAload 0, oIload 2, oConst (1), oCallZ 3 F_X8_chest, oIstore 4, oIload 3, oIload 4, oAdd, oIfne 23, oConst (0), oGoto 30, oIload 3, oConst (1000), oMul, oIload 3, oIload 4, oAdd, oDiv, oIstore 5, oIload 1, oIload 3, oAdd, oIstore 1, oIload 3, oIflt 69, oIload 4, oIflt 69, oIload 3, oIload 4, oAdd, oIload 2, oCallZ 1 F_L_room, oCgt 69, oAload 0, oIload 2, oConst (3), oCallZ 3 F_X8_chest, oIload 2, oCallZ 1 F_L_room, oIload 3, oSub, oIload 4, oSub, oCne 69, oAload 0, oIload 2, oConst (2), oCallZ 3 F_X8_chest, oIload 5, oCne 69, oAload 0, oIload 2, oConst (4), oCallZ 3 F_X8_chest, oIload 2, oCallZ 1 F_L_room, oCle 71, oConst (0), oZret, oIinc 2 (1), oGoto 4, oAload 0, oConst (0), oCallZ 2 F_X8_paper, oAload 0, oConst (1), oCallZ 2 F_X8_paper, oAdd, oAload 0, oConst (2), oCallZ 2 F_X8_paper, oAdd, oAload 0, oConst (3), oCallZ 2 F_X8_paper, oAdd, oIstore 2, oIload 2, oAload 0, oConst (7), oCallZ 2 F_X8_account, oAdd, oIstore 3, oAload 0, oConst (5), oCallZ 2 F_X8_account, oIload 1, oCne 122, oAload 0, oConst (2), oCallZ 2 F_X8_account, oIload 2, oCne 122, oAload 0, oConst (6), oCallZ 2 F_X8_account, oConst (400), oCne 122, oAload 0, oConst (4), oCallZ 2 F_X8_paper, oConst (-1), oCne 122, oAload 0, oConst (8), oCallZ 2 F_X8_account, oConst (-1), oCne 122, oConst (1), oGoto 123, oConst (0), oIstore 4, oIload 4, oIfeq 151, oAload 0, oConst (6), oCallZ 2 F_X8_account, oAload 0, oConst (0), oCallZ 2 F_X8_account, oAdd, oAload 0, oConst (1), oCallZ 2 F_X8_account, oAdd, oIload 2, oAload 0, oConst (3), oCallZ 2 F_X8_account, oAdd, oAload 0, oConst (4), oCallZ 2 F_X8_account, oAdd, oIload 1, oAdd, oCne 151, oConst (1), oGoto 152, oConst (0), oIstore 4, oIload 4, oIfeq 170, oAload 0, oCallZ 1 F_X8_paperShare, oIload 3, oIfne 161, oFconst0, oGoto 166, oIload 2, oI2f, oIload 3, oI2f, oFdiv, oFcmpL, oIfne 170, oConst (1), oGoto 171, oConst (0), oZret]
def pc_L_areAccounts (i : Nat) : Nat := ([0, 1, 2, 3, 4, 5, 6, 9, 10, 11, 12, 15, 16, 17, 18, 19, 22, 24, 25, 27, 28, 31, 32, 35, 36, 39, 40, 41, 43, 44, 45, 47, 48, 49, 50, 51, 52, 55, 57, 60, 61, 63, 64, 65, 68, 71, 72, 73, 74, 77, 78, 81, 82, 83, 85, 86, 89, 90, 91, 92, 95, 97, 100, 101, 102, 103, 106, 107, 110, 113, 114, 115, 118, 121, 122, 123, 126, 127, 128, 131, 132, 133, 134, 137, 138, 139, 140, 143, 144, 145, 146, 147, 149, 152, 153, 154, 155, 156, 159, 160, 163, 164, 165, 168, 169, 172, 173, 175, 178, 181, 184, 185, 186, 189, 190, 193, 194, 196, 199, 200, 203, 204, 207, 208, 210, 212, 215, 216, 218, 221, 222, 223, 226, 227, 228, 229, 232, 233, 234, 235, 236, 239, 240, 241, 242, 245, 246, 247, 248, 251, 252, 255, 256, 258, 260, 263, 264, 267, 268, 271, 272, 275, 276, 277, 278, 279, 280, 281, 284, 285, 288, 289] : List Nat).getD i 0
abbrev rm_L_areAccounts : Room := { frames := 2, cells := 0, slots := 0, locals := 44 }
theorem pl_L_areAccounts : pPlain yL_areAccounts 1 := by decide +kernel
set_option maxRecDepth 100000 in
set_option maxHeartbeats 4000000 in
theorem ok_k_L_areAccounts (l : Launch) : ∀ (i : Nat) (en : pEn), k_L_areAccounts[i]? = some en → EOK l cL_areAccounts yL_areAccounts.cls 6 ((some FieldType.boolean)) rm_L_areAccounts 0 pc_L_areAccounts i en := by
  refine allOK_at ?_
  refine And.intro (okIconst dL_areAccounts_0 rfl (by first | rfl | decide)) ?_
  refine And.intro (okIstore_n dL_areAccounts_1 rfl rfl (by decide)) ?_
  refine And.intro (okIconst dL_areAccounts_2 rfl (by first | rfl | decide)) ?_
  refine And.intro (okIstore_n dL_areAccounts_3 rfl rfl (by decide)) ?_
  refine And.intro (okIload_n dL_areAccounts_4 rfl rfl) ?_
  refine And.intro (okIconst dL_areAccounts_5 rfl (by first | rfl | decide)) ?_
  refine And.intro (okCge dL_areAccounts_6 rfl (by rfl)) ?_
  refine And.intro (okAload_n dL_areAccounts_9 rfl rfl) ?_
  refine And.intro (okIload_n dL_areAccounts_10 rfl rfl) ?_
  refine And.intro (okIconst dL_areAccounts_11 rfl (by first | rfl | decide)) ?_
  refine And.intro (okCallV (y := yX8_chest) (T := TX8) (oCallZ_is _ _ _) dL_areAccounts_12 rfl (ok_F_X8_chest l) rc_F_X8_chest rfl wn_3_91 wm_3_79 wm_3_80 wm_1_1 wm_3_81 pl_X8_chest (by decide)) ?_
  refine And.intro (okIstore_n dL_areAccounts_15 rfl rfl (by decide)) ?_
  refine And.intro (okAload_n dL_areAccounts_16 rfl rfl) ?_
  refine And.intro (okIload_n dL_areAccounts_17 rfl rfl) ?_
  refine And.intro (okIconst dL_areAccounts_18 rfl (by first | rfl | decide)) ?_
  refine And.intro (okCallV (y := yX8_chest) (T := TX8) (oCallZ_is _ _ _) dL_areAccounts_19 rfl (ok_F_X8_chest l) rc_F_X8_chest rfl wn_3_91 wm_3_79 wm_3_80 wm_1_1 wm_3_81 pl_X8_chest (by decide)) ?_
  refine And.intro (okIstore dL_areAccounts_22 rfl (by decide)) ?_
  refine And.intro (okIload_n dL_areAccounts_24 rfl rfl) ?_
  refine And.intro (okIload dL_areAccounts_25 rfl) ?_
  refine And.intro (okAdd dL_areAccounts_27 rfl) ?_
  refine And.intro (okIfne dL_areAccounts_28 rfl (by rfl)) ?_
  refine And.intro (okIconst dL_areAccounts_31 rfl (by first | rfl | decide)) ?_
  refine And.intro (okGoto dL_areAccounts_32 (by rfl)) ?_
  refine And.intro (okIload_n dL_areAccounts_35 rfl rfl) ?_
  refine And.intro (okSipush dL_areAccounts_36 rfl (by first | rfl | decide)) ?_
  refine And.intro (okMul dL_areAccounts_39 rfl) ?_
  refine And.intro (okIload_n dL_areAccounts_40 rfl rfl) ?_
  refine And.intro (okIload dL_areAccounts_41 rfl) ?_
  refine And.intro (okAdd dL_areAccounts_43 rfl) ?_
  refine And.intro (okDiv dL_areAccounts_44 rfl) ?_
  refine And.intro (okIstore dL_areAccounts_45 rfl (by decide)) ?_
  refine And.intro (okIload_n dL_areAccounts_47 rfl rfl) ?_
  refine And.intro (okIload_n dL_areAccounts_48 rfl rfl) ?_
  refine And.intro (okAdd dL_areAccounts_49 rfl) ?_
  refine And.intro (okIstore_n dL_areAccounts_50 rfl rfl (by decide)) ?_
  refine And.intro (okIload_n dL_areAccounts_51 rfl rfl) ?_
  refine And.intro (okIflt dL_areAccounts_52 rfl (by rfl)) ?_
  refine And.intro (okIload dL_areAccounts_55 rfl) ?_
  refine And.intro (okIflt dL_areAccounts_57 rfl (by rfl)) ?_
  refine And.intro (okIload_n dL_areAccounts_60 rfl rfl) ?_
  refine And.intro (okIload dL_areAccounts_61 rfl) ?_
  refine And.intro (okAdd dL_areAccounts_63 rfl) ?_
  refine And.intro (okIload_n dL_areAccounts_64 rfl rfl) ?_
  refine And.intro (okCallS (y := yL_room) (oCallZ_is _ _ _) dL_areAccounts_65 rfl (ok_F_L_room l) wn_3_97 wn_3_98 wm_1_0 wn_3_99 pl_L_room (by decide)) ?_
  refine And.intro (okCgt dL_areAccounts_68 rfl (by rfl)) ?_
  refine And.intro (okAload_n dL_areAccounts_71 rfl rfl) ?_
  refine And.intro (okIload_n dL_areAccounts_72 rfl rfl) ?_
  refine And.intro (okIconst dL_areAccounts_73 rfl (by first | rfl | decide)) ?_
  refine And.intro (okCallV (y := yX8_chest) (T := TX8) (oCallZ_is _ _ _) dL_areAccounts_74 rfl (ok_F_X8_chest l) rc_F_X8_chest rfl wn_3_91 wm_3_79 wm_3_80 wm_1_1 wm_3_81 pl_X8_chest (by decide)) ?_
  refine And.intro (okIload_n dL_areAccounts_77 rfl rfl) ?_
  refine And.intro (okCallS (y := yL_room) (oCallZ_is _ _ _) dL_areAccounts_78 rfl (ok_F_L_room l) wn_3_97 wn_3_98 wm_1_0 wn_3_99 pl_L_room (by decide)) ?_
  refine And.intro (okIload_n dL_areAccounts_81 rfl rfl) ?_
  refine And.intro (okSub dL_areAccounts_82 rfl) ?_
  refine And.intro (okIload dL_areAccounts_83 rfl) ?_
  refine And.intro (okSub dL_areAccounts_85 rfl) ?_
  refine And.intro (okCne dL_areAccounts_86 rfl (by rfl)) ?_
  refine And.intro (okAload_n dL_areAccounts_89 rfl rfl) ?_
  refine And.intro (okIload_n dL_areAccounts_90 rfl rfl) ?_
  refine And.intro (okIconst dL_areAccounts_91 rfl (by first | rfl | decide)) ?_
  refine And.intro (okCallV (y := yX8_chest) (T := TX8) (oCallZ_is _ _ _) dL_areAccounts_92 rfl (ok_F_X8_chest l) rc_F_X8_chest rfl wn_3_91 wm_3_79 wm_3_80 wm_1_1 wm_3_81 pl_X8_chest (by decide)) ?_
  refine And.intro (okIload dL_areAccounts_95 rfl) ?_
  refine And.intro (okCne dL_areAccounts_97 rfl (by rfl)) ?_
  refine And.intro (okAload_n dL_areAccounts_100 rfl rfl) ?_
  refine And.intro (okIload_n dL_areAccounts_101 rfl rfl) ?_
  refine And.intro (okIconst dL_areAccounts_102 rfl (by first | rfl | decide)) ?_
  refine And.intro (okCallV (y := yX8_chest) (T := TX8) (oCallZ_is _ _ _) dL_areAccounts_103 rfl (ok_F_X8_chest l) rc_F_X8_chest rfl wn_3_91 wm_3_79 wm_3_80 wm_1_1 wm_3_81 pl_X8_chest (by decide)) ?_
  refine And.intro (okIload_n dL_areAccounts_106 rfl rfl) ?_
  refine And.intro (okCallS (y := yL_room) (oCallZ_is _ _ _) dL_areAccounts_107 rfl (ok_F_L_room l) wn_3_97 wn_3_98 wm_1_0 wn_3_99 pl_L_room (by decide)) ?_
  refine And.intro (okCle dL_areAccounts_110 rfl (by rfl)) ?_
  refine And.intro (okIconst dL_areAccounts_113 rfl (by first | rfl | decide)) ?_
  refine And.intro (okZret dL_areAccounts_114 rfl) ?_
  refine And.intro (okIinc dL_areAccounts_115 rfl (by first | rfl | decide) (by decide)) ?_
  refine And.intro (okGoto dL_areAccounts_118 (by rfl)) ?_
  refine And.intro (okAload_n dL_areAccounts_121 rfl rfl) ?_
  refine And.intro (okIconst dL_areAccounts_122 rfl (by first | rfl | decide)) ?_
  refine And.intro (okCallV (y := yX8_paper) (T := TX8) (oCallZ_is _ _ _) dL_areAccounts_123 rfl (ok_F_X8_paper l) rc_F_X8_paper rfl wn_3_100 wm_3_94 wm_3_95 wm_1_1 wm_3_96 pl_X8_paper (by decide)) ?_
  refine And.intro (okAload_n dL_areAccounts_126 rfl rfl) ?_
  refine And.intro (okIconst dL_areAccounts_127 rfl (by first | rfl | decide)) ?_
  refine And.intro (okCallV (y := yX8_paper) (T := TX8) (oCallZ_is _ _ _) dL_areAccounts_128 rfl (ok_F_X8_paper l) rc_F_X8_paper rfl wn_3_100 wm_3_94 wm_3_95 wm_1_1 wm_3_96 pl_X8_paper (by decide)) ?_
  refine And.intro (okAdd dL_areAccounts_131 rfl) ?_
  refine And.intro (okAload_n dL_areAccounts_132 rfl rfl) ?_
  refine And.intro (okIconst dL_areAccounts_133 rfl (by first | rfl | decide)) ?_
  refine And.intro (okCallV (y := yX8_paper) (T := TX8) (oCallZ_is _ _ _) dL_areAccounts_134 rfl (ok_F_X8_paper l) rc_F_X8_paper rfl wn_3_100 wm_3_94 wm_3_95 wm_1_1 wm_3_96 pl_X8_paper (by decide)) ?_
  refine And.intro (okAdd dL_areAccounts_137 rfl) ?_
  refine And.intro (okAload_n dL_areAccounts_138 rfl rfl) ?_
  refine And.intro (okIconst dL_areAccounts_139 rfl (by first | rfl | decide)) ?_
  refine And.intro (okCallV (y := yX8_paper) (T := TX8) (oCallZ_is _ _ _) dL_areAccounts_140 rfl (ok_F_X8_paper l) rc_F_X8_paper rfl wn_3_100 wm_3_94 wm_3_95 wm_1_1 wm_3_96 pl_X8_paper (by decide)) ?_
  refine And.intro (okAdd dL_areAccounts_143 rfl) ?_
  refine And.intro (okIstore_n dL_areAccounts_144 rfl rfl (by decide)) ?_
  refine And.intro (okIload_n dL_areAccounts_145 rfl rfl) ?_
  refine And.intro (okAload_n dL_areAccounts_146 rfl rfl) ?_
  refine And.intro (okBipush dL_areAccounts_147 rfl (by first | rfl | decide)) ?_
  refine And.intro (okCallV (y := yX8_account) (T := TX8) (oCallZ_is _ _ _) dL_areAccounts_149 rfl (ok_F_X8_account l) rc_F_X8_account rfl wn_3_104 wm_3_85 wm_3_86 wm_1_1 wm_3_87 pl_X8_account (by decide)) ?_
  refine And.intro (okAdd dL_areAccounts_152 rfl) ?_
  refine And.intro (okIstore_n dL_areAccounts_153 rfl rfl (by decide)) ?_
  refine And.intro (okAload_n dL_areAccounts_154 rfl rfl) ?_
  refine And.intro (okIconst dL_areAccounts_155 rfl (by first | rfl | decide)) ?_
  refine And.intro (okCallV (y := yX8_account) (T := TX8) (oCallZ_is _ _ _) dL_areAccounts_156 rfl (ok_F_X8_account l) rc_F_X8_account rfl wn_3_104 wm_3_85 wm_3_86 wm_1_1 wm_3_87 pl_X8_account (by decide)) ?_
  refine And.intro (okIload_n dL_areAccounts_159 rfl rfl) ?_
  refine And.intro (okCne dL_areAccounts_160 rfl (by rfl)) ?_
  refine And.intro (okAload_n dL_areAccounts_163 rfl rfl) ?_
  refine And.intro (okIconst dL_areAccounts_164 rfl (by first | rfl | decide)) ?_
  refine And.intro (okCallV (y := yX8_account) (T := TX8) (oCallZ_is _ _ _) dL_areAccounts_165 rfl (ok_F_X8_account l) rc_F_X8_account rfl wn_3_104 wm_3_85 wm_3_86 wm_1_1 wm_3_87 pl_X8_account (by decide)) ?_
  refine And.intro (okIload_n dL_areAccounts_168 rfl rfl) ?_
  refine And.intro (okCne dL_areAccounts_169 rfl (by rfl)) ?_
  refine And.intro (okAload_n dL_areAccounts_172 rfl rfl) ?_
  refine And.intro (okBipush dL_areAccounts_173 rfl (by first | rfl | decide)) ?_
  refine And.intro (okCallV (y := yX8_account) (T := TX8) (oCallZ_is _ _ _) dL_areAccounts_175 rfl (ok_F_X8_account l) rc_F_X8_account rfl wn_3_104 wm_3_85 wm_3_86 wm_1_1 wm_3_87 pl_X8_account (by decide)) ?_
  refine And.intro (okSipush dL_areAccounts_178 rfl (by first | rfl | decide)) ?_
  refine And.intro (okCne dL_areAccounts_181 rfl (by rfl)) ?_
  refine And.intro (okAload_n dL_areAccounts_184 rfl rfl) ?_
  refine And.intro (okIconst dL_areAccounts_185 rfl (by first | rfl | decide)) ?_
  refine And.intro (okCallV (y := yX8_paper) (T := TX8) (oCallZ_is _ _ _) dL_areAccounts_186 rfl (ok_F_X8_paper l) rc_F_X8_paper rfl wn_3_100 wm_3_94 wm_3_95 wm_1_1 wm_3_96 pl_X8_paper (by decide)) ?_
  refine And.intro (okIconst dL_areAccounts_189 rfl (by first | rfl | decide)) ?_
  refine And.intro (okCne dL_areAccounts_190 rfl (by rfl)) ?_
  refine And.intro (okAload_n dL_areAccounts_193 rfl rfl) ?_
  refine And.intro (okBipush dL_areAccounts_194 rfl (by first | rfl | decide)) ?_
  refine And.intro (okCallV (y := yX8_account) (T := TX8) (oCallZ_is _ _ _) dL_areAccounts_196 rfl (ok_F_X8_account l) rc_F_X8_account rfl wn_3_104 wm_3_85 wm_3_86 wm_1_1 wm_3_87 pl_X8_account (by decide)) ?_
  refine And.intro (okIconst dL_areAccounts_199 rfl (by first | rfl | decide)) ?_
  refine And.intro (okCne dL_areAccounts_200 rfl (by rfl)) ?_
  refine And.intro (okIconst dL_areAccounts_203 rfl (by first | rfl | decide)) ?_
  refine And.intro (okGoto dL_areAccounts_204 (by rfl)) ?_
  refine And.intro (okIconst dL_areAccounts_207 rfl (by first | rfl | decide)) ?_
  refine And.intro (okIstore dL_areAccounts_208 rfl (by decide)) ?_
  refine And.intro (okIload dL_areAccounts_210 rfl) ?_
  refine And.intro (okIfeq dL_areAccounts_212 rfl (by rfl)) ?_
  refine And.intro (okAload_n dL_areAccounts_215 rfl rfl) ?_
  refine And.intro (okBipush dL_areAccounts_216 rfl (by first | rfl | decide)) ?_
  refine And.intro (okCallV (y := yX8_account) (T := TX8) (oCallZ_is _ _ _) dL_areAccounts_218 rfl (ok_F_X8_account l) rc_F_X8_account rfl wn_3_104 wm_3_85 wm_3_86 wm_1_1 wm_3_87 pl_X8_account (by decide)) ?_
  refine And.intro (okAload_n dL_areAccounts_221 rfl rfl) ?_
  refine And.intro (okIconst dL_areAccounts_222 rfl (by first | rfl | decide)) ?_
  refine And.intro (okCallV (y := yX8_account) (T := TX8) (oCallZ_is _ _ _) dL_areAccounts_223 rfl (ok_F_X8_account l) rc_F_X8_account rfl wn_3_104 wm_3_85 wm_3_86 wm_1_1 wm_3_87 pl_X8_account (by decide)) ?_
  refine And.intro (okAdd dL_areAccounts_226 rfl) ?_
  refine And.intro (okAload_n dL_areAccounts_227 rfl rfl) ?_
  refine And.intro (okIconst dL_areAccounts_228 rfl (by first | rfl | decide)) ?_
  refine And.intro (okCallV (y := yX8_account) (T := TX8) (oCallZ_is _ _ _) dL_areAccounts_229 rfl (ok_F_X8_account l) rc_F_X8_account rfl wn_3_104 wm_3_85 wm_3_86 wm_1_1 wm_3_87 pl_X8_account (by decide)) ?_
  refine And.intro (okAdd dL_areAccounts_232 rfl) ?_
  refine And.intro (okIload_n dL_areAccounts_233 rfl rfl) ?_
  refine And.intro (okAload_n dL_areAccounts_234 rfl rfl) ?_
  refine And.intro (okIconst dL_areAccounts_235 rfl (by first | rfl | decide)) ?_
  refine And.intro (okCallV (y := yX8_account) (T := TX8) (oCallZ_is _ _ _) dL_areAccounts_236 rfl (ok_F_X8_account l) rc_F_X8_account rfl wn_3_104 wm_3_85 wm_3_86 wm_1_1 wm_3_87 pl_X8_account (by decide)) ?_
  refine And.intro (okAdd dL_areAccounts_239 rfl) ?_
  refine And.intro (okAload_n dL_areAccounts_240 rfl rfl) ?_
  refine And.intro (okIconst dL_areAccounts_241 rfl (by first | rfl | decide)) ?_
  refine And.intro (okCallV (y := yX8_account) (T := TX8) (oCallZ_is _ _ _) dL_areAccounts_242 rfl (ok_F_X8_account l) rc_F_X8_account rfl wn_3_104 wm_3_85 wm_3_86 wm_1_1 wm_3_87 pl_X8_account (by decide)) ?_
  refine And.intro (okAdd dL_areAccounts_245 rfl) ?_
  refine And.intro (okIload_n dL_areAccounts_246 rfl rfl) ?_
  refine And.intro (okAdd dL_areAccounts_247 rfl) ?_
  refine And.intro (okCne dL_areAccounts_248 rfl (by rfl)) ?_
  refine And.intro (okIconst dL_areAccounts_251 rfl (by first | rfl | decide)) ?_
  refine And.intro (okGoto dL_areAccounts_252 (by rfl)) ?_
  refine And.intro (okIconst dL_areAccounts_255 rfl (by first | rfl | decide)) ?_
  refine And.intro (okIstore dL_areAccounts_256 rfl (by decide)) ?_
  refine And.intro (okIload dL_areAccounts_258 rfl) ?_
  refine And.intro (okIfeq dL_areAccounts_260 rfl (by rfl)) ?_
  refine And.intro (okAload_n dL_areAccounts_263 rfl rfl) ?_
  refine And.intro (okCallV (y := yX8_paperShare) (T := TX8) (oCallZ_is _ _ _) dL_areAccounts_264 rfl (ok_F_X8_paperShare l) rc_F_X8_paperShare rfl wn_3_113 wm_3_102 wm_3_103 wm_1_1 wm_3_104 pl_X8_paperShare (by decide)) ?_
  refine And.intro (okIload_n dL_areAccounts_267 rfl rfl) ?_
  refine And.intro (okIfne dL_areAccounts_268 rfl (by rfl)) ?_
  refine And.intro (okFconst0 dL_areAccounts_271 rfl) ?_
  refine And.intro (okGoto dL_areAccounts_272 (by rfl)) ?_
  refine And.intro (okIload_n dL_areAccounts_275 rfl rfl) ?_
  refine And.intro (okI2f dL_areAccounts_276 rfl) ?_
  refine And.intro (okIload_n dL_areAccounts_277 rfl rfl) ?_
  refine And.intro (okI2f dL_areAccounts_278 rfl) ?_
  refine And.intro (okFdiv dL_areAccounts_279 rfl) ?_
  refine And.intro (okFcmpL dL_areAccounts_280 rfl) ?_
  refine And.intro (okIfne dL_areAccounts_281 rfl (by rfl)) ?_
  refine And.intro (okIconst dL_areAccounts_284 rfl (by first | rfl | decide)) ?_
  refine And.intro (okGoto dL_areAccounts_285 (by rfl)) ?_
  refine And.intro (okIconst dL_areAccounts_288 rfl (by first | rfl | decide)) ?_
  refine And.intro (okZret dL_areAccounts_289 rfl) ?_
  exact trivial
def F_L_areAccounts : pF := fun args w rg => match args with
  | [.ref 0] => unB w (fun f x v u => pif (bOK f rg ∧ AccC v) (some (some (.int (1)), cw f (x) (v) (u), rg)) none)
  | _ => none
set_option maxHeartbeats 400000 in
theorem ac_s00 (rg : pRg) (f : Nat → Option Nat) (x v u : pLV) (s : Int32) (hc : bOK f rg) (H : Ac0 v) (hz : v 0 10 + v 0 11 = 0) {T : pOut} (hm : ∃ m, ex k_L_areAccounts m 4 [(2, .int (nI 1)), (1, .int (s + v 0 10)), (5, .int (0)), (4, .int (v 0 11)), (3, .int (v 0 10)), (0, .ref 0)] [] (cw f x v u) rg = some T) : ∃ m, ex k_L_areAccounts m 4 [(2, .int (nI 0)), (1, .int s), (0, .ref 0)] [] (cw f x v u) rg = some T := by
  obtain ⟨m, hm⟩ := hm
  obtain ⟨h1, h2, h3, h4, h5, h6⟩ := H
  have h5 := h5.trans (if_pos hz)
  refine ⟨m + 3, ?_⟩
  conv => lhs; whnf
  refine (pif_f (by decide)).trans ?_
  conv => lhs; whnf
  refine (callK_r (rd_chest_0_0 f x v u rg hc) (by rfl)).trans ?_
  conv => lhs; whnf
  refine (callK_r (rd_chest_0_1 f x v u rg hc) (by rfl)).trans ?_
  conv => lhs; whnf
  refine (pif_t hz).trans ?_
  conv => lhs; whnf
  refine (pif_f h1).trans ?_
  conv => lhs; whnf
  refine (pif_f h2).trans ?_
  conv => lhs; whnf
  refine (callK_r (rd_room_0 _ rg (Nat.le_of_ble_eq_true rfl)) (by rfl)).trans ?_
  conv => lhs; whnf
  refine (pif_f h3).trans ?_
  conv => lhs; whnf
  refine (callK_r (rd_chest_0_3 f x v u rg hc) (by rfl)).trans ?_
  conv => lhs; whnf
  refine (callK_r (rd_room_0 _ rg (Nat.le_of_ble_eq_true rfl)) (by rfl)).trans ?_
  conv => lhs; whnf
  refine (pif_t (by rw [h4])).trans ?_
  conv => lhs; whnf
  refine (callK_r (rd_chest_0_2 f x v u rg hc) (by rfl)).trans ?_
  conv => lhs; whnf
  refine (pif_t h5).trans ?_
  conv => lhs; whnf
  refine (callK_r (rd_chest_0_4 f x v u rg hc) (by rfl)).trans ?_
  conv => lhs; whnf
  refine (callK_r (rd_room_0 _ rg (Nat.le_of_ble_eq_true rfl)) (by rfl)).trans ?_
  conv => lhs; whnf
  refine (pif_t h6).trans ?_
  conv => lhs; whnf
  exact hm
set_option maxHeartbeats 400000 in
theorem ac_s01 (rg : pRg) (f : Nat → Option Nat) (x v u : pLV) (s : Int32) (hc : bOK f rg) (H : Ac0 v) (hz : ¬ v 0 10 + v 0 11 = 0) {T : pOut} (hm : ∃ m, ex k_L_areAccounts m 4 [(2, .int (nI 1)), (1, .int (s + v 0 10)), (5, .int (v 0 10 * 1000 / (v 0 10 + v 0 11))), (4, .int (v 0 11)), (3, .int (v 0 10)), (0, .ref 0)] [] (cw f x v u) rg = some T) : ∃ m, ex k_L_areAccounts m 4 [(2, .int (nI 0)), (1, .int s), (0, .ref 0)] [] (cw f x v u) rg = some T := by
  obtain ⟨m, hm⟩ := hm
  obtain ⟨h1, h2, h3, h4, h5, h6⟩ := H
  have h5 := h5.trans (if_neg hz)
  refine ⟨m + 3, ?_⟩
  conv => lhs; whnf
  refine (pif_f (by decide)).trans ?_
  conv => lhs; whnf
  refine (callK_r (rd_chest_0_0 f x v u rg hc) (by rfl)).trans ?_
  conv => lhs; whnf
  refine (callK_r (rd_chest_0_1 f x v u rg hc) (by rfl)).trans ?_
  conv => lhs; whnf
  refine (pif_f hz).trans ?_
  conv => lhs; whnf
  refine (pif_f hz).trans ?_
  conv => lhs; whnf
  refine (pif_f h1).trans ?_
  conv => lhs; whnf
  refine (pif_f h2).trans ?_
  conv => lhs; whnf
  refine (callK_r (rd_room_0 _ rg (Nat.le_of_ble_eq_true rfl)) (by rfl)).trans ?_
  conv => lhs; whnf
  refine (pif_f h3).trans ?_
  conv => lhs; whnf
  refine (callK_r (rd_chest_0_3 f x v u rg hc) (by rfl)).trans ?_
  conv => lhs; whnf
  refine (callK_r (rd_room_0 _ rg (Nat.le_of_ble_eq_true rfl)) (by rfl)).trans ?_
  conv => lhs; whnf
  refine (pif_t (by rw [h4])).trans ?_
  conv => lhs; whnf
  refine (callK_r (rd_chest_0_2 f x v u rg hc) (by rfl)).trans ?_
  conv => lhs; whnf
  refine (pif_t h5).trans ?_
  conv => lhs; whnf
  refine (callK_r (rd_chest_0_4 f x v u rg hc) (by rfl)).trans ?_
  conv => lhs; whnf
  refine (callK_r (rd_room_0 _ rg (Nat.le_of_ble_eq_true rfl)) (by rfl)).trans ?_
  conv => lhs; whnf
  refine (pif_t h6).trans ?_
  conv => lhs; whnf
  exact hm
set_option maxHeartbeats 400000 in
theorem ac_s10 (rg : pRg) (f : Nat → Option Nat) (x v u : pLV) (s p q r : Int32) (hc : bOK f rg) (H : Ac1 v) (hz : v 0 13 + v 0 14 = 0) {T : pOut} (hm : ∃ m, ex k_L_areAccounts m 4 [(2, .int (nI 2)), (1, .int (s + v 0 13)), (5, .int (0)), (4, .int (v 0 14)), (3, .int (v 0 13)), (0, .ref 0)] [] (cw f x v u) rg = some T) : ∃ m, ex k_L_areAccounts m 4 [(2, .int (nI 1)), (1, .int s), (5, .int p), (4, .int q), (3, .int r), (0, .ref 0)] [] (cw f x v u) rg = some T := by
  obtain ⟨m, hm⟩ := hm
  obtain ⟨h1, h2, h3, h4, h5, h6⟩ := H
  have h5 := h5.trans (if_pos hz)
  refine ⟨m + 3, ?_⟩
  conv => lhs; whnf
  refine (pif_f (by decide)).trans ?_
  conv => lhs; whnf
  refine (callK_r (rd_chest_1_0 f x v u rg hc) (by rfl)).trans ?_
  conv => lhs; whnf
  refine (callK_r (rd_chest_1_1 f x v u rg hc) (by rfl)).trans ?_
  conv => lhs; whnf
  refine (pif_t hz).trans ?_
  conv => lhs; whnf
  refine (pif_f h1).trans ?_
  conv => lhs; whnf
  refine (pif_f h2).trans ?_
  conv => lhs; whnf
  refine (callK_r (rd_room_1 _ rg (Nat.le_of_ble_eq_true rfl)) (by rfl)).trans ?_
  conv => lhs; whnf
  refine (pif_f h3).trans ?_
  conv => lhs; whnf
  refine (callK_r (rd_chest_1_3 f x v u rg hc) (by rfl)).trans ?_
  conv => lhs; whnf
  refine (callK_r (rd_room_1 _ rg (Nat.le_of_ble_eq_true rfl)) (by rfl)).trans ?_
  conv => lhs; whnf
  refine (pif_t (by rw [h4])).trans ?_
  conv => lhs; whnf
  refine (callK_r (rd_chest_1_2 f x v u rg hc) (by rfl)).trans ?_
  conv => lhs; whnf
  refine (pif_t h5).trans ?_
  conv => lhs; whnf
  refine (callK_r (rd_chest_1_4 f x v u rg hc) (by rfl)).trans ?_
  conv => lhs; whnf
  refine (callK_r (rd_room_1 _ rg (Nat.le_of_ble_eq_true rfl)) (by rfl)).trans ?_
  conv => lhs; whnf
  refine (pif_t h6).trans ?_
  conv => lhs; whnf
  exact hm
set_option maxHeartbeats 400000 in
theorem ac_s11 (rg : pRg) (f : Nat → Option Nat) (x v u : pLV) (s p q r : Int32) (hc : bOK f rg) (H : Ac1 v) (hz : ¬ v 0 13 + v 0 14 = 0) {T : pOut} (hm : ∃ m, ex k_L_areAccounts m 4 [(2, .int (nI 2)), (1, .int (s + v 0 13)), (5, .int (v 0 13 * 1000 / (v 0 13 + v 0 14))), (4, .int (v 0 14)), (3, .int (v 0 13)), (0, .ref 0)] [] (cw f x v u) rg = some T) : ∃ m, ex k_L_areAccounts m 4 [(2, .int (nI 1)), (1, .int s), (5, .int p), (4, .int q), (3, .int r), (0, .ref 0)] [] (cw f x v u) rg = some T := by
  obtain ⟨m, hm⟩ := hm
  obtain ⟨h1, h2, h3, h4, h5, h6⟩ := H
  have h5 := h5.trans (if_neg hz)
  refine ⟨m + 3, ?_⟩
  conv => lhs; whnf
  refine (pif_f (by decide)).trans ?_
  conv => lhs; whnf
  refine (callK_r (rd_chest_1_0 f x v u rg hc) (by rfl)).trans ?_
  conv => lhs; whnf
  refine (callK_r (rd_chest_1_1 f x v u rg hc) (by rfl)).trans ?_
  conv => lhs; whnf
  refine (pif_f hz).trans ?_
  conv => lhs; whnf
  refine (pif_f hz).trans ?_
  conv => lhs; whnf
  refine (pif_f h1).trans ?_
  conv => lhs; whnf
  refine (pif_f h2).trans ?_
  conv => lhs; whnf
  refine (callK_r (rd_room_1 _ rg (Nat.le_of_ble_eq_true rfl)) (by rfl)).trans ?_
  conv => lhs; whnf
  refine (pif_f h3).trans ?_
  conv => lhs; whnf
  refine (callK_r (rd_chest_1_3 f x v u rg hc) (by rfl)).trans ?_
  conv => lhs; whnf
  refine (callK_r (rd_room_1 _ rg (Nat.le_of_ble_eq_true rfl)) (by rfl)).trans ?_
  conv => lhs; whnf
  refine (pif_t (by rw [h4])).trans ?_
  conv => lhs; whnf
  refine (callK_r (rd_chest_1_2 f x v u rg hc) (by rfl)).trans ?_
  conv => lhs; whnf
  refine (pif_t h5).trans ?_
  conv => lhs; whnf
  refine (callK_r (rd_chest_1_4 f x v u rg hc) (by rfl)).trans ?_
  conv => lhs; whnf
  refine (callK_r (rd_room_1 _ rg (Nat.le_of_ble_eq_true rfl)) (by rfl)).trans ?_
  conv => lhs; whnf
  refine (pif_t h6).trans ?_
  conv => lhs; whnf
  exact hm
set_option maxHeartbeats 400000 in
theorem ac_s20 (rg : pRg) (f : Nat → Option Nat) (x v u : pLV) (s p q r : Int32) (hc : bOK f rg) (H : Ac2 v) (hz : v 0 16 + v 0 17 = 0) {T : pOut} (hm : ∃ m, ex k_L_areAccounts m 4 [(2, .int (nI 3)), (1, .int (s + v 0 16)), (5, .int (0)), (4, .int (v 0 17)), (3, .int (v 0 16)), (0, .ref 0)] [] (cw f x v u) rg = some T) : ∃ m, ex k_L_areAccounts m 4 [(2, .int (nI 2)), (1, .int s), (5, .int p), (4, .int q), (3, .int r), (0, .ref 0)] [] (cw f x v u) rg = some T := by
  obtain ⟨m, hm⟩ := hm
  obtain ⟨h1, h2, h3, h4, h5, h6⟩ := H
  have h5 := h5.trans (if_pos hz)
  refine ⟨m + 3, ?_⟩
  conv => lhs; whnf
  refine (pif_f (by decide)).trans ?_
  conv => lhs; whnf
  refine (callK_r (rd_chest_2_0 f x v u rg hc) (by rfl)).trans ?_
  conv => lhs; whnf
  refine (callK_r (rd_chest_2_1 f x v u rg hc) (by rfl)).trans ?_
  conv => lhs; whnf
  refine (pif_t hz).trans ?_
  conv => lhs; whnf
  refine (pif_f h1).trans ?_
  conv => lhs; whnf
  refine (pif_f h2).trans ?_
  conv => lhs; whnf
  refine (callK_r (rd_room_2 _ rg (Nat.le_of_ble_eq_true rfl)) (by rfl)).trans ?_
  conv => lhs; whnf
  refine (pif_f h3).trans ?_
  conv => lhs; whnf
  refine (callK_r (rd_chest_2_3 f x v u rg hc) (by rfl)).trans ?_
  conv => lhs; whnf
  refine (callK_r (rd_room_2 _ rg (Nat.le_of_ble_eq_true rfl)) (by rfl)).trans ?_
  conv => lhs; whnf
  refine (pif_t (by rw [h4])).trans ?_
  conv => lhs; whnf
  refine (callK_r (rd_chest_2_2 f x v u rg hc) (by rfl)).trans ?_
  conv => lhs; whnf
  refine (pif_t h5).trans ?_
  conv => lhs; whnf
  refine (callK_r (rd_chest_2_4 f x v u rg hc) (by rfl)).trans ?_
  conv => lhs; whnf
  refine (callK_r (rd_room_2 _ rg (Nat.le_of_ble_eq_true rfl)) (by rfl)).trans ?_
  conv => lhs; whnf
  refine (pif_t h6).trans ?_
  conv => lhs; whnf
  exact hm
set_option maxHeartbeats 400000 in
theorem ac_s21 (rg : pRg) (f : Nat → Option Nat) (x v u : pLV) (s p q r : Int32) (hc : bOK f rg) (H : Ac2 v) (hz : ¬ v 0 16 + v 0 17 = 0) {T : pOut} (hm : ∃ m, ex k_L_areAccounts m 4 [(2, .int (nI 3)), (1, .int (s + v 0 16)), (5, .int (v 0 16 * 1000 / (v 0 16 + v 0 17))), (4, .int (v 0 17)), (3, .int (v 0 16)), (0, .ref 0)] [] (cw f x v u) rg = some T) : ∃ m, ex k_L_areAccounts m 4 [(2, .int (nI 2)), (1, .int s), (5, .int p), (4, .int q), (3, .int r), (0, .ref 0)] [] (cw f x v u) rg = some T := by
  obtain ⟨m, hm⟩ := hm
  obtain ⟨h1, h2, h3, h4, h5, h6⟩ := H
  have h5 := h5.trans (if_neg hz)
  refine ⟨m + 3, ?_⟩
  conv => lhs; whnf
  refine (pif_f (by decide)).trans ?_
  conv => lhs; whnf
  refine (callK_r (rd_chest_2_0 f x v u rg hc) (by rfl)).trans ?_
  conv => lhs; whnf
  refine (callK_r (rd_chest_2_1 f x v u rg hc) (by rfl)).trans ?_
  conv => lhs; whnf
  refine (pif_f hz).trans ?_
  conv => lhs; whnf
  refine (pif_f hz).trans ?_
  conv => lhs; whnf
  refine (pif_f h1).trans ?_
  conv => lhs; whnf
  refine (pif_f h2).trans ?_
  conv => lhs; whnf
  refine (callK_r (rd_room_2 _ rg (Nat.le_of_ble_eq_true rfl)) (by rfl)).trans ?_
  conv => lhs; whnf
  refine (pif_f h3).trans ?_
  conv => lhs; whnf
  refine (callK_r (rd_chest_2_3 f x v u rg hc) (by rfl)).trans ?_
  conv => lhs; whnf
  refine (callK_r (rd_room_2 _ rg (Nat.le_of_ble_eq_true rfl)) (by rfl)).trans ?_
  conv => lhs; whnf
  refine (pif_t (by rw [h4])).trans ?_
  conv => lhs; whnf
  refine (callK_r (rd_chest_2_2 f x v u rg hc) (by rfl)).trans ?_
  conv => lhs; whnf
  refine (pif_t h5).trans ?_
  conv => lhs; whnf
  refine (callK_r (rd_chest_2_4 f x v u rg hc) (by rfl)).trans ?_
  conv => lhs; whnf
  refine (callK_r (rd_room_2 _ rg (Nat.le_of_ble_eq_true rfl)) (by rfl)).trans ?_
  conv => lhs; whnf
  refine (pif_t h6).trans ?_
  conv => lhs; whnf
  exact hm
set_option maxHeartbeats 400000 in
theorem ac_s30 (rg : pRg) (f : Nat → Option Nat) (x v u : pLV) (s p q r : Int32) (hc : bOK f rg) (H : Ac3 v) (hz : v 0 19 + v 0 20 = 0) {T : pOut} (hm : ∃ m, ex k_L_areAccounts m 4 [(2, .int (nI 4)), (1, .int (s + v 0 19)), (5, .int (0)), (4, .int (v 0 20)), (3, .int (v 0 19)), (0, .ref 0)] [] (cw f x v u) rg = some T) : ∃ m, ex k_L_areAccounts m 4 [(2, .int (nI 3)), (1, .int s), (5, .int p), (4, .int q), (3, .int r), (0, .ref 0)] [] (cw f x v u) rg = some T := by
  obtain ⟨m, hm⟩ := hm
  obtain ⟨h1, h2, h3, h4, h5, h6⟩ := H
  have h5 := h5.trans (if_pos hz)
  refine ⟨m + 3, ?_⟩
  conv => lhs; whnf
  refine (pif_f (by decide)).trans ?_
  conv => lhs; whnf
  refine (callK_r (rd_chest_3_0 f x v u rg hc) (by rfl)).trans ?_
  conv => lhs; whnf
  refine (callK_r (rd_chest_3_1 f x v u rg hc) (by rfl)).trans ?_
  conv => lhs; whnf
  refine (pif_t hz).trans ?_
  conv => lhs; whnf
  refine (pif_f h1).trans ?_
  conv => lhs; whnf
  refine (pif_f h2).trans ?_
  conv => lhs; whnf
  refine (callK_r (rd_room_3 _ rg (Nat.le_of_ble_eq_true rfl)) (by rfl)).trans ?_
  conv => lhs; whnf
  refine (pif_f h3).trans ?_
  conv => lhs; whnf
  refine (callK_r (rd_chest_3_3 f x v u rg hc) (by rfl)).trans ?_
  conv => lhs; whnf
  refine (callK_r (rd_room_3 _ rg (Nat.le_of_ble_eq_true rfl)) (by rfl)).trans ?_
  conv => lhs; whnf
  refine (pif_t (by rw [h4])).trans ?_
  conv => lhs; whnf
  refine (callK_r (rd_chest_3_2 f x v u rg hc) (by rfl)).trans ?_
  conv => lhs; whnf
  refine (pif_t h5).trans ?_
  conv => lhs; whnf
  refine (callK_r (rd_chest_3_4 f x v u rg hc) (by rfl)).trans ?_
  conv => lhs; whnf
  refine (callK_r (rd_room_3 _ rg (Nat.le_of_ble_eq_true rfl)) (by rfl)).trans ?_
  conv => lhs; whnf
  refine (pif_t h6).trans ?_
  conv => lhs; whnf
  exact hm
set_option maxHeartbeats 400000 in
theorem ac_s31 (rg : pRg) (f : Nat → Option Nat) (x v u : pLV) (s p q r : Int32) (hc : bOK f rg) (H : Ac3 v) (hz : ¬ v 0 19 + v 0 20 = 0) {T : pOut} (hm : ∃ m, ex k_L_areAccounts m 4 [(2, .int (nI 4)), (1, .int (s + v 0 19)), (5, .int (v 0 19 * 1000 / (v 0 19 + v 0 20))), (4, .int (v 0 20)), (3, .int (v 0 19)), (0, .ref 0)] [] (cw f x v u) rg = some T) : ∃ m, ex k_L_areAccounts m 4 [(2, .int (nI 3)), (1, .int s), (5, .int p), (4, .int q), (3, .int r), (0, .ref 0)] [] (cw f x v u) rg = some T := by
  obtain ⟨m, hm⟩ := hm
  obtain ⟨h1, h2, h3, h4, h5, h6⟩ := H
  have h5 := h5.trans (if_neg hz)
  refine ⟨m + 3, ?_⟩
  conv => lhs; whnf
  refine (pif_f (by decide)).trans ?_
  conv => lhs; whnf
  refine (callK_r (rd_chest_3_0 f x v u rg hc) (by rfl)).trans ?_
  conv => lhs; whnf
  refine (callK_r (rd_chest_3_1 f x v u rg hc) (by rfl)).trans ?_
  conv => lhs; whnf
  refine (pif_f hz).trans ?_
  conv => lhs; whnf
  refine (pif_f hz).trans ?_
  conv => lhs; whnf
  refine (pif_f h1).trans ?_
  conv => lhs; whnf
  refine (pif_f h2).trans ?_
  conv => lhs; whnf
  refine (callK_r (rd_room_3 _ rg (Nat.le_of_ble_eq_true rfl)) (by rfl)).trans ?_
  conv => lhs; whnf
  refine (pif_f h3).trans ?_
  conv => lhs; whnf
  refine (callK_r (rd_chest_3_3 f x v u rg hc) (by rfl)).trans ?_
  conv => lhs; whnf
  refine (callK_r (rd_room_3 _ rg (Nat.le_of_ble_eq_true rfl)) (by rfl)).trans ?_
  conv => lhs; whnf
  refine (pif_t (by rw [h4])).trans ?_
  conv => lhs; whnf
  refine (callK_r (rd_chest_3_2 f x v u rg hc) (by rfl)).trans ?_
  conv => lhs; whnf
  refine (pif_t h5).trans ?_
  conv => lhs; whnf
  refine (callK_r (rd_chest_3_4 f x v u rg hc) (by rfl)).trans ?_
  conv => lhs; whnf
  refine (callK_r (rd_room_3 _ rg (Nat.le_of_ble_eq_true rfl)) (by rfl)).trans ?_
  conv => lhs; whnf
  refine (pif_t h6).trans ?_
  conv => lhs; whnf
  exact hm
set_option maxHeartbeats 800000 in
theorem ac_e0 (rg : pRg) (f : Nat → Option Nat) (x v u : pLV) (s p q r : Int32) (hc : bOK f rg) (hs : fibV v = s) (hp : sumP (v 2) 4 = v 2 0 + v 2 1 + v 2 2 + v 2 3) (hb : 400 + v 0 22 + v 0 23 = (v 2 0 + v 2 1 + v 2 2 + v 2 3) + v 0 24 + v 0 25 + s) (hz : (v 2 0 + v 2 1 + v 2 2 + v 2 3) + v 0 26 = 0) : ∃ m, ex k_L_areAccounts m 4 [(2, .int (nI 4)), (1, .int s), (5, .int p), (4, .int q), (3, .int r), (0, .ref 0)] [] (cw f x v u) rg = some (some (.int 1), cw f x v u, rg) := by
  have hq : fcL (psI (sumP (v 2) 4) (sumP (v 2) 4 + v 0 26)) FP.fconst0 = 0 := by
    rw [show FP.fconst0 = psI (sumP (v 2) 4) (sumP (v 2) 4 + v 0 26) from by rw [hp]; exact (if_pos hz).symm]
    exact fcL_self (psI_n _ _)
  refine ⟨12, ?_⟩
  conv => lhs; whnf
  refine (pif_t (by decide)).trans ?_
  conv => lhs; whnf
  refine (callK_r ((rd_paper f x v u 0 rg hc).trans (by rw [pap_0])) (by rfl)).trans ?_
  conv => lhs; whnf
  refine (callK_r ((rd_paper f x v u 1 rg hc).trans (by rw [pap_1])) (by rfl)).trans ?_
  conv => lhs; whnf
  refine (callK_r ((rd_paper f x v u 2 rg hc).trans (by rw [pap_2])) (by rfl)).trans ?_
  conv => lhs; whnf
  refine (callK_r ((rd_paper f x v u 3 rg hc).trans (by rw [pap_3])) (by rfl)).trans ?_
  conv => lhs; whnf
  refine (callK_r ((rd_account f x v u 7 rg hc).trans (by rw [acc_7])) (by rfl)).trans ?_
  conv => lhs; whnf
  refine (callK_r ((rd_account f x v u 5 rg hc).trans (by rw [acc_5])) (by rfl)).trans ?_
  conv => lhs; whnf
  refine (pif_t hs).trans ?_
  conv => lhs; whnf
  refine (callK_r ((rd_account f x v u 2 rg hc).trans (by rw [acc_2])) (by rfl)).trans ?_
  conv => lhs; whnf
  refine (pif_t hp).trans ?_
  conv => lhs; whnf
  refine (callK_r ((rd_account f x v u 6 rg hc).trans (by rw [acc_6])) (by rfl)).trans ?_
  conv => lhs; whnf
  refine (pif_t rfl).trans ?_
  conv => lhs; whnf
  refine (callK_r ((rd_paper f x v u 4 rg hc).trans (by rw [pap_4])) (by rfl)).trans ?_
  conv => lhs; whnf
  refine (pif_t rfl).trans ?_
  conv => lhs; whnf
  refine (callK_r ((rd_account f x v u 8 rg hc).trans (by rw [acc_8])) (by rfl)).trans ?_
  conv => lhs; whnf
  refine (pif_t rfl).trans ?_
  conv => lhs; whnf
  refine (pif_f (by decide)).trans ?_
  conv => lhs; whnf
  refine (callK_r ((rd_account f x v u 6 rg hc).trans (by rw [acc_6])) (by rfl)).trans ?_
  conv => lhs; whnf
  refine (callK_r ((rd_account f x v u 0 rg hc).trans (by rw [acc_0])) (by rfl)).trans ?_
  conv => lhs; whnf
  refine (callK_r ((rd_account f x v u 1 rg hc).trans (by rw [acc_1])) (by rfl)).trans ?_
  conv => lhs; whnf
  refine (callK_r ((rd_account f x v u 3 rg hc).trans (by rw [acc_3])) (by rfl)).trans ?_
  conv => lhs; whnf
  refine (callK_r ((rd_account f x v u 4 rg hc).trans (by rw [acc_4])) (by rfl)).trans ?_
  conv => lhs; whnf
  refine (pif_t hb).trans ?_
  conv => lhs; whnf
  refine (pif_f (by decide)).trans ?_
  conv => lhs; whnf
  refine (callK_r (rd_share f x v u rg hc) (by rfl)).trans ?_
  conv => lhs; whnf
  refine (pif_t hz).trans ?_
  conv => lhs; whnf
  refine (pif_t hq).trans ?_
  conv => lhs; whnf
  exact pif_t (Or.inr rfl)
set_option maxHeartbeats 800000 in
theorem ac_e1 (rg : pRg) (f : Nat → Option Nat) (x v u : pLV) (s p q r : Int32) (hc : bOK f rg) (hs : fibV v = s) (hp : sumP (v 2) 4 = v 2 0 + v 2 1 + v 2 2 + v 2 3) (hb : 400 + v 0 22 + v 0 23 = (v 2 0 + v 2 1 + v 2 2 + v 2 3) + v 0 24 + v 0 25 + s) (hz : ¬ (v 2 0 + v 2 1 + v 2 2 + v 2 3) + v 0 26 = 0) : ∃ m, ex k_L_areAccounts m 4 [(2, .int (nI 4)), (1, .int s), (5, .int p), (4, .int q), (3, .int r), (0, .ref 0)] [] (cw f x v u) rg = some (some (.int 1), cw f x v u, rg) := by
  have hq : fcL (psI (sumP (v 2) 4) (sumP (v 2) 4 + v 0 26)) (FP.fdiv (FP.i2f (v 2 0 + v 2 1 + v 2 2 + v 2 3)) (FP.i2f ((v 2 0 + v 2 1 + v 2 2 + v 2 3) + v 0 26))) = 0 := by
    rw [show FP.fdiv (FP.i2f (v 2 0 + v 2 1 + v 2 2 + v 2 3)) (FP.i2f ((v 2 0 + v 2 1 + v 2 2 + v 2 3) + v 0 26)) = psI (sumP (v 2) 4) (sumP (v 2) 4 + v 0 26) from by rw [hp]; exact (if_neg hz).symm]
    exact fcL_self (psI_n _ _)
  refine ⟨12, ?_⟩
  conv => lhs; whnf
  refine (pif_t (by decide)).trans ?_
  conv => lhs; whnf
  refine (callK_r ((rd_paper f x v u 0 rg hc).trans (by rw [pap_0])) (by rfl)).trans ?_
  conv => lhs; whnf
  refine (callK_r ((rd_paper f x v u 1 rg hc).trans (by rw [pap_1])) (by rfl)).trans ?_
  conv => lhs; whnf
  refine (callK_r ((rd_paper f x v u 2 rg hc).trans (by rw [pap_2])) (by rfl)).trans ?_
  conv => lhs; whnf
  refine (callK_r ((rd_paper f x v u 3 rg hc).trans (by rw [pap_3])) (by rfl)).trans ?_
  conv => lhs; whnf
  refine (callK_r ((rd_account f x v u 7 rg hc).trans (by rw [acc_7])) (by rfl)).trans ?_
  conv => lhs; whnf
  refine (callK_r ((rd_account f x v u 5 rg hc).trans (by rw [acc_5])) (by rfl)).trans ?_
  conv => lhs; whnf
  refine (pif_t hs).trans ?_
  conv => lhs; whnf
  refine (callK_r ((rd_account f x v u 2 rg hc).trans (by rw [acc_2])) (by rfl)).trans ?_
  conv => lhs; whnf
  refine (pif_t hp).trans ?_
  conv => lhs; whnf
  refine (callK_r ((rd_account f x v u 6 rg hc).trans (by rw [acc_6])) (by rfl)).trans ?_
  conv => lhs; whnf
  refine (pif_t rfl).trans ?_
  conv => lhs; whnf
  refine (callK_r ((rd_paper f x v u 4 rg hc).trans (by rw [pap_4])) (by rfl)).trans ?_
  conv => lhs; whnf
  refine (pif_t rfl).trans ?_
  conv => lhs; whnf
  refine (callK_r ((rd_account f x v u 8 rg hc).trans (by rw [acc_8])) (by rfl)).trans ?_
  conv => lhs; whnf
  refine (pif_t rfl).trans ?_
  conv => lhs; whnf
  refine (pif_f (by decide)).trans ?_
  conv => lhs; whnf
  refine (callK_r ((rd_account f x v u 6 rg hc).trans (by rw [acc_6])) (by rfl)).trans ?_
  conv => lhs; whnf
  refine (callK_r ((rd_account f x v u 0 rg hc).trans (by rw [acc_0])) (by rfl)).trans ?_
  conv => lhs; whnf
  refine (callK_r ((rd_account f x v u 1 rg hc).trans (by rw [acc_1])) (by rfl)).trans ?_
  conv => lhs; whnf
  refine (callK_r ((rd_account f x v u 3 rg hc).trans (by rw [acc_3])) (by rfl)).trans ?_
  conv => lhs; whnf
  refine (callK_r ((rd_account f x v u 4 rg hc).trans (by rw [acc_4])) (by rfl)).trans ?_
  conv => lhs; whnf
  refine (pif_t hb).trans ?_
  conv => lhs; whnf
  refine (pif_f (by decide)).trans ?_
  conv => lhs; whnf
  refine (callK_r (rd_share f x v u rg hc) (by rfl)).trans ?_
  conv => lhs; whnf
  refine (pif_f hz).trans ?_
  conv => lhs; whnf
  refine (pif_t (fdiv_ok _ _ hz)).trans ?_
  conv => lhs; whnf
  refine (pif_t hq).trans ?_
  conv => lhs; whnf
  exact pif_t (Or.inr rfl)
set_option maxHeartbeats 400000 in
set_option maxRecDepth 100000 in
theorem run_L_areAccounts (rg : pRg) (f : Nat → Option Nat) (x v u : pLV) (hc : bOK f rg ∧ AccC v) : ∃ fu, ex k_L_areAccounts fu 0 [(0, .ref 0)] [] (cw f x v u) rg = some (some (.int (1)), cw f (x) (v) (u), rg) := by
  obtain ⟨hc, H0, H1, H2, H3, hb⟩ := hc
  have hp : sumP (v 2) 4 = v 2 0 + v 2 1 + v 2 2 + v 2 3 := by
    show 0 + v 2 0 + v 2 1 + v 2 2 + v 2 3 = _
    rw [Int32.zero_add]
  have hs : fibV v = 0 + v 0 10 + v 0 13 + v 0 16 + v 0 19 := by
    rw [Int32.zero_add]
    rfl
  have hb2 : 400 + v 0 22 + v 0 23 = (v 2 0 + v 2 1 + v 2 2 + v 2 3) + v 0 24 + v 0 25 + (0 + v 0 10 + v 0 13 + v 0 16 + v 0 19) := by rw [← hp, ← hs]; exact hb
  have g4 : ∀ p q r : Int32, ∃ m, ex k_L_areAccounts m 4 [(2, .int (nI 4)), (1, .int (0 + v 0 10 + v 0 13 + v 0 16 + v 0 19)), (5, .int p), (4, .int q), (3, .int r), (0, .ref 0)] [] (cw f x v u) rg = some (some (.int 1), cw f x v u, rg) := by
    intro p q r
    by_cases hz : (v 2 0 + v 2 1 + v 2 2 + v 2 3) + v 0 26 = 0
    · exact ac_e0 rg f x v u _ p q r hc hs hp hb2 hz
    · exact ac_e1 rg f x v u _ p q r hc hs hp hb2 hz
  have g3 : ∀ p q r : Int32, ∃ m, ex k_L_areAccounts m 4 [(2, .int (nI 3)), (1, .int (0 + v 0 10 + v 0 13 + v 0 16)), (5, .int p), (4, .int q), (3, .int r), (0, .ref 0)] [] (cw f x v u) rg = some (some (.int 1), cw f x v u, rg) := by
    intro p q r
    by_cases hz : v 0 19 + v 0 20 = 0
    · exact ac_s30 rg f x v u _ p q r hc H3 hz (g4 _ _ _)
    · exact ac_s31 rg f x v u _ p q r hc H3 hz (g4 _ _ _)
  have g2 : ∀ p q r : Int32, ∃ m, ex k_L_areAccounts m 4 [(2, .int (nI 2)), (1, .int (0 + v 0 10 + v 0 13)), (5, .int p), (4, .int q), (3, .int r), (0, .ref 0)] [] (cw f x v u) rg = some (some (.int 1), cw f x v u, rg) := by
    intro p q r
    by_cases hz : v 0 16 + v 0 17 = 0
    · exact ac_s20 rg f x v u _ p q r hc H2 hz (g3 _ _ _)
    · exact ac_s21 rg f x v u _ p q r hc H2 hz (g3 _ _ _)
  have g1 : ∀ p q r : Int32, ∃ m, ex k_L_areAccounts m 4 [(2, .int (nI 1)), (1, .int (0 + v 0 10)), (5, .int p), (4, .int q), (3, .int r), (0, .ref 0)] [] (cw f x v u) rg = some (some (.int 1), cw f x v u, rg) := by
    intro p q r
    by_cases hz : v 0 13 + v 0 14 = 0
    · exact ac_s10 rg f x v u _ p q r hc H1 hz (g2 _ _ _)
    · exact ac_s11 rg f x v u _ p q r hc H1 hz (g2 _ _ _)
  have g0 : ∃ m, ex k_L_areAccounts m 4 [(2, .int (nI 0)), (1, .int 0), (0, .ref 0)] [] (cw f x v u) rg = some (some (.int 1), cw f x v u, rg) := by
    by_cases hz : v 0 10 + v 0 11 = 0
    · exact ac_s00 rg f x v u _ hc H0 hz (g1 _ _ _)
    · exact ac_s01 rg f x v u _ hc H0 hz (g1 _ _ _)
  exact ex_at g0 (fun _ => rfl)
theorem ok_F_L_areAccounts (l : Launch) : pFOK l yL_areAccounts (pWs yL_areAccounts cL_areAccounts 6 ((some FieldType.boolean))) rm_L_areAccounts F_L_areAccounts := by
  refine pFOK_all fun args w rg v0 w' rg' h => ?_
  unfold F_L_areAccounts at h
  split at h
  next  =>
    obtain ⟨f, x, v, u, hw, h2⟩ := unB_some h
    clear h
    subst hw
    by_cases hc : bOK f rg ∧ AccC v
    · have h2 := (pif_t hc).symm.trans h2
      cases h2
      exact met_of_ex (by decide) (ok_k_L_areAccounts l) rfl (run_L_areAccounts rg f x v u  hc) (Nat.le_of_ble_eq_true rfl) rfl (Nat.le_of_ble_eq_true rfl) (Nat.le_of_ble_eq_true rfl) (Nat.zero_le _) rfl rfl
    · have h2 := (pif_f hc).symm.trans h2
      cases h2
  next => cases h
theorem cl_L_areAccounts (f : Nat → Option Nat) (x v u : pLV) (rg : pRg) (hc : bOK f rg ∧ AccC (NL v)) : F_L_areAccounts [.ref 0] (cw f x v u) rg = some (some (.int (1)), cw f ((NX x)) ((NL v)) (NL u), rg) := pif_t hc
end
