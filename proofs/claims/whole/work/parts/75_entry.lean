noncomputable section
/-! THE LAW'S RUN FROM ITS ENTRY -/
def lw_w1 : pWd := lawP x00 iniV iniV (fun _ => iniV)
set_option maxRecDepth 100000 in
set_option maxHeartbeats 4000000 in
theorem law_mkC (rg : pRg) : F_X8_init [.ref 0] [.inr (8, [.null, .null, .null, .null, .null, .null, .int 0, .null, .int 0, .int 0])] rg = some (none, lw_w1, rg) := by
  rfl
set_option maxRecDepth 100000 in
set_option maxHeartbeats 4000000 in
theorem law_mkM (rg : pRg) : F_X9_init [.ref 179] (lw_w1 ++ [.inr (9, [.null, .null, .int 0, .null, .int 0, .null, .int 0, .int 0, .int 0, .int 0, .int 0, .int 0, .int 0, .int 0, .null, .int 0, .int 0, .int 0, .int 0, .int 0, .int 0, .null])]) rg = some (none, lawA x00 iniV iniV (fun _ => iniV) (layM (NM iniM)), rg) := by
  rfl
set_option maxRecDepth 100000 in
set_option maxHeartbeats 4000000 in
theorem law_entry {L : Nat} {xs : Nat → Int32} (rg : pRg) (n : Nat) : ex (k_L_law L xs) (n + 1) 0 [(0, .ref 2000000)] [] [] rg = ex (k_L_law L xs) (n + 1) 10 (lsH 0) [] (lawA x00 iniV iniV (fun _ => iniV) (layM (NM iniM))) rg := by
  rfl
theorem law_run {L : Nat} {xs : Nat → Int32} (rg : pRg) (hL : L ≤ 2048) : ∃ (x v u : pLV) (h : Nat → pLV) (m : pLV), ∃ n, ex (k_L_law L xs) n 0 [(0, .ref 2000000)] [] [] rg = some (some (.int 1), lawA x v u h m, rg) := by
  obtain ⟨fu, x, v, u, h, m, e⟩ := law_loop (xs := xs) rg hL
  exact ⟨x, v, u, h, m, ex_at ⟨fu, e⟩ (law_entry rg)⟩
end
