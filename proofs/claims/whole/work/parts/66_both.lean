noncomputable section
/-! BOTH SIDES OF ONE CALL -/
theorem NHm_i (h : Nat → pLV) {i : Nat} (hi : i < 10) : NHm h i = NL (h i) := by
  match i, hi with
  | 0, _ => rfl
  | 1, _ => rfl
  | 2, _ => rfl
  | 3, _ => rfl
  | 4, _ => rfl
  | 5, _ => rfl
  | 6, _ => rfl
  | 7, _ => rfl
  | 8, _ => rfl
  | 9, _ => rfl
  | i + 10, hi => exact absurd hi (by omega)
theorem RS.n {B : Int} {x v u : pLV} {h : Nat → pLV} {m : pLV} (r : RS B x v u h m) : RS B (NX x) (NL v) (NL u) (NHm h) (NM m) := by
  obtain ⟨r1, r2, r3, r4, ⟨s, q, s1, s2, s3, s4, s5, s6⟩, ⟨i1, i2, i3, i4, i5⟩⟩ := r
  refine ⟨r1, ⟨r2.1, fun i hi => ?_⟩, r3, r4, ⟨s, q, s1, s2, s3, s4, s5, fun t ht => ?_⟩, ⟨i1, i2, i3, i4, i5⟩⟩
  · rw [NHm_i h hi]
    exact r2.2 i hi
  · rw [NHm_i h (by omega)]
    exact s6 t ht
theorem vals_e {i j : Int32} (e : i = j) (w : pWd) (rg : pRg) : (some (some (.int j), w, rg) : Option pOut) = some (some (.int i), w, rg) := by rw [e]
/-- one call on both sides: the same answer, and like states again -/
def BOTH (C : Int) (fc fm : pF) (as : List Value) (x v u : pLV) (h : Nat → pLV) (m : pLV) : Prop := ∃ i : Int32, ∃ x' v' u' : pLV, ∃ h' : Nat → pLV, ∃ m' : pLV, (∀ rg, FC fc (.ref 0 :: as) (lawA x v u h m) rg = some (some (.int i), lawA x' v' u' h' m, rg)) ∧ (∀ rg, FM fm (.ref 179 :: as) (lawA x' v' u' h' m) rg = some (some (.int i), lawA x' v' u' h' m', rg)) ∧ RS C x' v' u' h' m'
theorem begin_T {B : Int} {x v u : pLV} {h : Nat → pLV} {m : pLV} (r : RS B x v u h m) (h0 : 0 ≤ B) (hB : B + 600000 ≤ 2000000000) : BOTH (B + 400000) F_X8_begin F_X9_begin [] x v u h m := by
  have r2 : RS B (NX (NX x)) (NL (NL v)) (NL (NL u)) (NHm h) (NM (NM m)) := r.n
  obtain ⟨e, s, ok⟩ := begin_S r2 h0
  refine ⟨_, _, _, _, _, _, fun rg => FC_eq (cl_X8_begin hs0 (NX x) (NL v) (NL u) (10, NHm h) (hs0_ok _)) rfl rfl, fun rg => FM_eq (rg1 := rg00) ((cl_X9_begin (NM m) rg00 ok).trans (vals_e e _ _)) rfl rfl, s.up (by omega)⟩
theorem set_T {B : Int} {x v u : pLV} {h : Nat → pLV} {m : pLV} (r : RS B x v u h m) (h0 : 0 ≤ B) (hB : B + 600000 ≤ 2000000000) (s_ a : Int32) : BOTH (B + 400000) F_X8_set F_X9_set [.int s_, .int a] x v u h m := by
  have r2 : RS B (NX (NX x)) (NL (NL v)) (NL (NL u)) (NHm h) (NM (NM m)) := r.n
  obtain ⟨e, s, ok⟩ := set_S r2 s_ a
  refine ⟨_, _, _, _, _, _, fun rg => FC_eq (cl_X8_set hs0 (NX x) (NL v) (NL u) s_ a (10, NHm h) (hs0_ok _)) rfl rfl, fun rg => FM_eq (rg1 := rg00) ((cl_X9_set (NM m) s_ a rg00 ok).trans (vals_e e _ _)) rfl rfl, s.up (by omega)⟩
theorem tear_T {B : Int} {x v u : pLV} {h : Nat → pLV} {m : pLV} (r : RS B x v u h m) (h0 : 0 ≤ B) (hB : B + 600000 ≤ 2000000000) (t : Int32) : BOTH (B + 400000) F_X8_tear F_X9_tear [.int t] x v u h m := by
  have r2 : RS B (NX (NX x)) (NL (NL v)) (NL (NL u)) (NHm h) (NM (NM m)) := r.n
  obtain ⟨e, s, ok⟩ := tear_S r2 t
  refine ⟨_, _, _, _, _, _, fun rg => FC_eq (cl_X8_tear hs0 (NX x) (NL v) (NL u) t (10, NHm h) (hs0_ok _)) rfl rfl, fun rg => FM_eq (rg1 := rg00) ((cl_X9_tear (NM m) t rg00 ok).trans (vals_e e _ _)) rfl rfl, s.up (by omega)⟩
theorem change_T {B : Int} {x v u : pLV} {h : Nat → pLV} {m : pLV} (r : RS B x v u h m) (h0 : 0 ≤ B) (hB : B + 600000 ≤ 2000000000) (g : Int32) : BOTH (B + 400000) F_X8_change F_X9_change [.int g] x v u h m := by
  have r2 : RS B (NX (NX x)) (NL (NL v)) (NL (NL u)) (NHm h) (NM (NM m)) := r.n
  obtain ⟨e, s, ok⟩ := change_S r2 g
  refine ⟨_, _, _, _, _, _, fun rg => FC_eq (cl_X8_change hs0 (NX x) (NL v) (NL u) g (10, NHm h) (hs0_ok _)) rfl rfl, fun rg => FM_eq (rg1 := rg00) ((cl_X9_change (NM m) g rg00 ok).trans (vals_e e _ _)) rfl rfl, s.up (by omega)⟩
theorem fill_T {B : Int} {x v u : pLV} {h : Nat → pLV} {m : pLV} (r : RS B x v u h m) (h0 : 0 ≤ B) (hB : B + 600000 ≤ 2000000000) (c a b : Int32) : BOTH (B + 400000) F_X8_fill F_X9_fill [.int c, .int a, .int b] x v u h m := by
  have r2 : RS B (NX (NX x)) (NL (NL v)) (NL (NL u)) (NHm h) (NM (NM m)) := r.n
  obtain ⟨e, s, ok⟩ := fill_S r2 c a b
  refine ⟨_, _, _, _, _, _, fun rg => FC_eq (cl_X8_fill hs0 (NX x) (NL v) (NL u) c a b (10, NHm h) (hs0_ok _)) rfl rfl, fun rg => FM_eq (rg1 := rg00) ((cl_X9_fill (NM m) c a b rg00 ok).trans (vals_e e _ _)) rfl rfl, s.up (by omega)⟩
theorem drain_T {B : Int} {x v u : pLV} {h : Nat → pLV} {m : pLV} (r : RS B x v u h m) (h0 : 0 ≤ B) (hB : B + 600000 ≤ 2000000000) (c a : Int32) : BOTH (B + 400000) F_X8_drain F_X9_drain [.int c, .int a] x v u h m := by
  have r2 : RS B (NX (NX x)) (NL (NL v)) (NL (NL u)) (NHm h) (NM (NM m)) := r.n
  obtain ⟨e, s, ok⟩ := drain_S r2 c a
  refine ⟨_, _, _, _, _, _, fun rg => FC_eq (cl_X8_drain hs0 (NX x) (NL v) (NL u) c a (10, NHm h) (hs0_ok _)) rfl rfl, fun rg => FM_eq (rg1 := rg00) ((cl_X9_drain (NM m) c a rg00 ok).trans (vals_e e _ _)) rfl rfl, s.up (by omega)⟩
theorem run_T {B : Int} {x v u : pLV} {h : Nat → pLV} {m : pLV} (r : RS B x v u h m) (h0 : 0 ≤ B) (hB : B + 600000 ≤ 2000000000) (n : Int32) : BOTH (B + 400000) F_X8_run F_X9_run [.int n] x v u h m := by
  have r2 : RS B (NX (NX x)) (NL (NL v)) (NL (NL u)) (NHm h) (NM (NM m)) := r.n
  obtain ⟨e, s, ok⟩ := run_S r2 n (by omega)
  refine ⟨_, _, _, _, _, _, fun rg => FC_eq (cl_X8_run hs0 (NX x) (NL v) (NL u) n (10, NHm h) (hs0_ok _)) rfl rfl, fun rg => FM_eq (rg1 := rg00) ((cl_X9_run (NM m) n rg00 ok).trans (vals_e e _ _)) rfl rfl, s.up (by omega)⟩
theorem undo_T {B : Int} {x v u : pLV} {h : Nat → pLV} {m : pLV} (r : RS B x v u h m) (h0 : 0 ≤ B) (hB : B + 600000 ≤ 2000000000) : BOTH (B + 400000) F_X8_undo F_X9_undo [] x v u h m := by
  have r2 : RS B (NX (NX x)) (NL (NL v)) (NL (NL u)) (NHm h) (NM (NM m)) := r.n
  obtain ⟨e, s, ok, oq⟩ := undo_S r2
  refine ⟨_, _, _, _, _, _, fun rg => FC_eq (cl_X8_undo hs0 (NX x) (NL v) (NL u) (10, NHm h) ⟨hs0_ok _, oq⟩) rfl rfl, fun rg => FM_eq (rg1 := rg00) ((cl_X9_undo (NM m) rg00 ok).trans (vals_e e _ _)) rfl rfl, s.up (by omega)⟩
theorem write_T {B : Int} {x v u : pLV} {h : Nat → pLV} {m : pLV} (r : RS B x v u h m) (h0 : 0 ≤ B) (hB : B + 600000 ≤ 2000000000) (c : Int32) : BOTH (B + 400000) F_X8_write F_X9_write [.int c] x v u h m := by
  have r2 : RS B (NX (NX x)) (NL (NL v)) (NL (NL u)) (NHm h) (NM (NM m)) := r.n
  obtain ⟨e, s, ok⟩ := write_S r2 c
  refine ⟨_, _, _, _, _, _, fun rg => FC_eq (cl_X8_write hs0 (NX x) (NL v) (NL u) c (10, NHm h) (hs0_ok _)) rfl rfl, fun rg => FM_eq (rg1 := rg00) ((cl_X9_write (NM m) c rg00 ok).trans (vals_e e _ _)) rfl rfl, s.up (by omega)⟩
theorem wipe_T {B : Int} {x v u : pLV} {h : Nat → pLV} {m : pLV} (r : RS B x v u h m) (h0 : 0 ≤ B) (hB : B + 600000 ≤ 2000000000) : BOTH (B + 400000) F_X8_wipe F_X9_wipe [] x v u h m := by
  have r2 : RS B (NX (NX x)) (NL (NL v)) (NL (NL u)) (NHm h) (NM (NM m)) := r.n
  obtain ⟨e, s⟩ := wipe_S r2
  refine ⟨_, _, _, _, _, _, fun rg => FC_eq (cl_X8_wipe hs0 (NX x) (NL v) (NL u) (10, NHm h) (hs0_ok _)) rfl rfl, fun rg => FM_eq (rg1 := rg00) ((cl_X9_wipe (NM m) rg00).trans (vals_e e _ _)) rfl rfl, s.up (by omega)⟩
theorem later_T {B : Int} {x v u : pLV} {h : Nat → pLV} {m : pLV} (r : RS B x v u h m) (h0 : 0 ≤ B) (hB : B + 600000 ≤ 2000000000) (n q : Int32) : BOTH (B + 400000) F_X8_later F_X9_later [.int n, .int q] x v u h m := by
  have r2 : RS B (NX (NX x)) (NL (NL v)) (NL (NL u)) (NHm h) (NM (NM m)) := r.n
  obtain ⟨e, s, ok⟩ := later_S r2 n q hB
  refine ⟨_, _, _, _, _, _, fun rg => FC_eq (cl_X8_later hs0 (NX x) (NL v) (NL u) n q (10, NHm h) (hs0_ok _)) rfl rfl, fun rg => FM_eq (rg1 := rg00) ((cl_X9_later (NM m) n q rg00 ok).trans (vals_e e _ _)) rfl rfl, s.up (by omega)⟩
theorem overflow_T {B : Int} {x v u : pLV} {h : Nat → pLV} {m : pLV} (r : RS B x v u h m) (h0 : 0 ≤ B) (hB : B + 600000 ≤ 2000000000) : BOTH (B + 400000) F_X8_overflow F_X9_overflow [] x v u h m := by
  have r2 : RS B (NX (NX x)) (NL (NL v)) (NL (NL u)) (NHm h) (NM (NM m)) := r.n
  obtain ⟨e, s, ok⟩ := overflow_S r2 hB
  refine ⟨_, _, _, _, _, _, fun rg => FC_eq (cl_X8_overflow hs0 (NX x) (NL v) (NL u) (10, NHm h) (hs0_ok _)) rfl rfl, fun rg => FM_eq (rg1 := rg00) ((cl_X9_overflow (NM m) rg00 ok).trans (vals_e e _ _)) rfl rfl, s.up (by omega)⟩
theorem bestLimit_T {B : Int} {x v u : pLV} {h : Nat → pLV} {m : pLV} (r : RS B x v u h m) (h0 : 0 ≤ B) (hB : B + 600000 ≤ 2000000000) (n : Int32) : BOTH (B + 400000) F_X8_bestLimit F_X9_bestLimit [.int n] x v u h m := by
  have r2 : RS B (NX (NX x)) (NL (NL v)) (NL (NL u)) (NHm h) (NM (NM m)) := r.n
  obtain ⟨e, s, ok⟩ := bestLimit_S r2 n (by omega) h0
  refine ⟨_, _, _, _, _, _, fun rg => FC_eq (cl_X8_bestLimit hs0 (NX x) (NL v) (NL u) n (10, NHm h) (hs0_ok _)) rfl rfl, fun rg => FM_eq (rg1 := rg00) ((cl_X9_bestLimit (NM m) n rg00 ok).trans (vals_e e _ _)) rfl rfl, s.up (by omega)⟩
theorem keep_T {B : Int} {x v u : pLV} {h : Nat → pLV} {m : pLV} (r : RS B x v u h m) (h0 : 0 ≤ B) (hB : B + 600000 ≤ 2000000000) (i : Int32) : BOTH (B + 400000) F_X8_keep F_X9_keep [.int i] x v u h m := by
  have r2 : RS B (NX (NX x)) (NL (NL v)) (NL (NL u)) (NHm h) (NM (NM m)) := r.n
  obtain ⟨e, s⟩ := keep_S r2 i
  refine ⟨_, _, _, _, _, _, fun rg => FC_eq (cl_X8_keep hs0 (NX x) (NL v) (NL u) i (10, NHm h) (hs0_ok _)) rfl rfl, fun rg => FM_eq (rg1 := rg00) ((cl_X9_keep (NM m) i rg00).trans (vals_e e _ _)) rfl rfl, s.up (by omega)⟩
theorem back_T {B : Int} {x v u : pLV} {h : Nat → pLV} {m : pLV} (r : RS B x v u h m) (h0 : 0 ≤ B) (hB : B + 600000 ≤ 2000000000) (i : Int32) : BOTH (B + 400000) F_X8_back F_X9_back [.int i] x v u h m := by
  have r2 : RS B (NX (NX x)) (NL (NL v)) (NL (NL u)) (NHm h) (NM (NM m)) := r.n
  obtain ⟨e, s, ok⟩ := back_S r2 i
  refine ⟨_, _, _, _, _, _, fun rg => FC_eq (cl_X8_back hs0 (NX x) (NL v) (NL u) i (10, NHm h) (hs0_ok _)) rfl rfl, fun rg => FM_eq (rg1 := rg00) ((cl_X9_back (NM m) i rg00 ok).trans (vals_e e _ _)) rfl rfl, s.up (by omega)⟩
theorem plan_T {B : Int} {x v u : pLV} {h : Nat → pLV} {m : pLV} (r : RS B x v u h m) (h0 : 0 ≤ B) (hB : B + 600000 ≤ 2000000000) : BOTH (B + 400000) F_X8_plan F_X9_plan [] x v u h m := by
  have r2 : RS B (NX (NX x)) (NL (NL v)) (NL (NL u)) (NHm h) (NM (NM m)) := r.n
  obtain ⟨e, s, ok, oq⟩ := plan_S r2
  refine ⟨_, _, _, _, _, _, fun rg => FC_eq (cl_X8_plan hs0 (NX x) (NL v) (NL u) (10, NHm h) ⟨hs0_ok _, oq⟩) rfl rfl, fun rg => FM_eq (rg1 := rg00) ((cl_X9_plan (NM m) rg00 ok).trans (vals_e e _ _)) rfl rfl, s.up (by omega)⟩
theorem fault_T {B : Int} {x v u : pLV} {h : Nat → pLV} {m : pLV} (r : RS B x v u h m) (h0 : 0 ≤ B) (hB : B + 600000 ≤ 2000000000) (q : Int32) : BOTH (B + 400000) F_X8_fault F_X9_fault [.int q] x v u h m := by
  have r2 : RS B (NX (NX x)) (NL (NL v)) (NL (NL u)) (NHm h) (NM (NM m)) := r.n
  have e := fault_S r2 q
  refine ⟨_, _, _, _, _, _, fun rg => FC_eq (cl_X8_fault hs0 (NX x) (NL v) (NL u) q (10, NHm h) (hs0_ok _)) rfl rfl, fun rg => FM_eq (rg1 := rg00) ((cl_X9_fault (NM m) q rg00).trans (vals_e e _ _)) rfl rfl, r2.up (by omega)⟩
theorem setting_T {B : Int} {x v u : pLV} {h : Nat → pLV} {m : pLV} (r : RS B x v u h m) (h0 : 0 ≤ B) (hB : B + 600000 ≤ 2000000000) (s : Int32) : BOTH (B + 400000) F_X8_setting F_X9_setting [.int s] x v u h m := by
  have r2 : RS B (NX (NX x)) (NL (NL v)) (NL (NL u)) (NHm h) (NM (NM m)) := r.n
  have e := setting_S r2 s
  refine ⟨_, _, _, _, _, _, fun rg => FC_eq (cl_X8_setting hs0 (NX x) (NL v) (NL u) s (10, NHm h) (hs0_ok _)) rfl rfl, fun rg => FM_eq (rg1 := rg00) ((cl_X9_setting (NM m) s rg00).trans (vals_e e _ _)) rfl rfl, r2.up (by omega)⟩
theorem paper_T {B : Int} {x v u : pLV} {h : Nat → pLV} {m : pLV} (r : RS B x v u h m) (h0 : 0 ≤ B) (hB : B + 600000 ≤ 2000000000) (g : Int32) : BOTH (B + 400000) F_X8_paper F_X9_paper [.int g] x v u h m := by
  have r2 : RS B (NX (NX x)) (NL (NL v)) (NL (NL u)) (NHm h) (NM (NM m)) := r.n
  have e := paper_S r2 g
  refine ⟨_, _, _, _, _, _, fun rg => FC_eq (cl_X8_paper hs0 (NX x) (NL v) (NL u) g (10, NHm h) (hs0_ok _)) rfl rfl, fun rg => FM_eq (rg1 := rg00) ((cl_X9_paper (NM m) g rg00).trans (vals_e e _ _)) rfl rfl, r2.up (by omega)⟩
theorem account_T {B : Int} {x v u : pLV} {h : Nat → pLV} {m : pLV} (r : RS B x v u h m) (h0 : 0 ≤ B) (hB : B + 600000 ≤ 2000000000) (q : Int32) : BOTH (B + 400000) F_X8_account F_X9_account [.int q] x v u h m := by
  have r2 : RS B (NX (NX x)) (NL (NL v)) (NL (NL u)) (NHm h) (NM (NM m)) := r.n
  have e := account_S r2 q
  refine ⟨_, _, _, _, _, _, fun rg => FC_eq (cl_X8_account hs0 (NX x) (NL v) (NL u) q (10, NHm h) (hs0_ok _)) rfl rfl, fun rg => FM_eq (rg1 := rg00) ((cl_X9_account (NM m) q rg00).trans (vals_e e _ _)) rfl rfl, r2.up (by omega)⟩
theorem chest_T {B : Int} {x v u : pLV} {h : Nat → pLV} {m : pLV} (r : RS B x v u h m) (h0 : 0 ≤ B) (hB : B + 600000 ≤ 2000000000) (c a : Int32) : BOTH (B + 400000) F_X8_chest F_X9_chest [.int c, .int a] x v u h m := by
  have r2 : RS B (NX (NX x)) (NL (NL v)) (NL (NL u)) (NHm h) (NM (NM m)) := r.n
  have e := chest_S r2 c a
  refine ⟨_, _, _, _, _, _, fun rg => FC_eq (cl_X8_chest hs0 (NX x) (NL v) (NL u) c a (10, NHm h) (hs0_ok _)) rfl rfl, fun rg => FM_eq (rg1 := rg00) ((cl_X9_chest (NM m) c a rg00).trans (vals_e e _ _)) rfl rfl, r2.up (by omega)⟩
theorem told_T {B : Int} {x v u : pLV} {h : Nat → pLV} {m : pLV} (r : RS B x v u h m) (h0 : 0 ≤ B) (hB : B + 600000 ≤ 2000000000) (q : Int32) : BOTH (B + 400000) F_X8_told F_X9_told [.int q] x v u h m := by
  have r2 : RS B (NX (NX x)) (NL (NL v)) (NL (NL u)) (NHm h) (NM (NM m)) := r.n
  obtain ⟨e, ok⟩ := told_S r2 q
  refine ⟨_, _, _, _, _, _, fun rg => FC_eq (cl_X8_told hs0 (NX x) (NL v) (NL u) q (10, NHm h) (hs0_ok _)) rfl rfl, fun rg => FM_eq (rg1 := rg00) ((cl_X9_told (NM m) q rg00 ok).trans (vals_e e _ _)) rfl rfl, r2.up (by omega)⟩
theorem entry_T {B : Int} {x v u : pLV} {h : Nat → pLV} {m : pLV} (r : RS B x v u h m) (h0 : 0 ≤ B) (hB : B + 600000 ≤ 2000000000) (e_ a : Int32) : BOTH (B + 400000) F_X8_entry F_X9_entry [.int e_, .int a] x v u h m := by
  have r2 : RS B (NX (NX x)) (NL (NL v)) (NL (NL u)) (NHm h) (NM (NM m)) := r.n
  obtain ⟨e, ok⟩ := entry_S r2 e_ a
  refine ⟨_, _, _, _, _, _, fun rg => FC_eq (cl_X8_entry hs0 (NX x) (NL v) (NL u) e_ a (10, NHm h) (hs0_ok _)) rfl rfl, fun rg => FM_eq (rg1 := rg00) ((cl_X9_entry (NM m) e_ a rg00 ok).trans (vals_e e _ _)) rfl rfl, r2.up (by omega)⟩
end
