noncomputable section
/-! THE LAW'S RUN FROM ITS ENTRY -/
def lw_w1 : pWd := lawP 0 x00 iniV iniV (fun _ => iniV)
set_option maxRecDepth 100000 in
set_option maxHeartbeats 4000000 in
theorem law_mk1 (rg : pRg) : F_X8_init [.ref 0] [.inr (8, [.null, .null, .null, .null, .null, .null, .int 0, .null, .int 0, .int 0])] rg = some (none, lw_w1, rg) := by
  rfl
set_option maxRecDepth 100000 in
set_option maxHeartbeats 4000000 in
theorem law_mk2 (rg : pRg) : F_X8_init [.ref 179] (lw_w1 ++ [.inr (8, [.null, .null, .null, .null, .null, .null, .int 0, .null, .int 0, .int 0])]) rg = some (none, lawW x00 iniV iniV (fun _ => iniV) x00 iniV iniV (fun _ => iniV), rg) := by
  rfl
set_option maxRecDepth 100000 in
set_option maxHeartbeats 4000000 in
theorem law_entry {L : Nat} {xs : Nat → Int32} (rg : pRg) (n : Nat) : ex (k_L_law L xs) (n + 1) 0 [(0, .ref 2000000)] [] [] rg = ex (k_L_law L xs) (n + 1) 10 (lsT 0) [] (lawW x00 iniV iniV (fun _ => iniV) x00 iniV iniV (fun _ => iniV)) rg := by
  rfl
theorem law_run {L : Nat} {xs : Nat → Int32} (rg : pRg) (hL : L ≤ 260) : ∃ (x v u : pLV) (h : Nat → pLV) (x2 v2 u2 : pLV) (h2 : Nat → pLV), ∃ n, ex (k_L_law L xs) n 0 [(0, .ref 2000000)] [] [] rg = some (some (.int 1), lawW x v u h x2 v2 u2 h2, rg) := by
  obtain ⟨fu, x, v, u, h, x2, v2, u2, h2, e⟩ := law_loop (xs := xs) rg hL
  exact ⟨x, v, u, h, x2, v2, u2, h2, ex_at ⟨fu, e⟩ (law_entry rg)⟩
end
