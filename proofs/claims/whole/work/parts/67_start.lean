noncomputable section
/-! BOTH SIDES: the share of paper, and the start -/
theorem share_T {B : Int} {x v u : pLV} {h : Nat → pLV} {m : pLV} (r : RS B x v u h m) : ∃ f : UInt32, ∃ x' v' u' : pLV, ∃ h' : Nat → pLV, ∃ m' : pLV, vf_n32 f ∧ (∀ rg, FC F_X8_paperShare [.ref 0] (lawA x v u h m) rg = some (some (.float f), lawA x' v' u' h' m, rg)) ∧ (∀ rg, FM F_X9_paperShare [.ref 179] (lawA x' v' u' h' m) rg = some (some (.float f), lawA x' v' u' h' m', rg)) ∧ RS B x' v' u' h' m' := by
  have r2 : RS B (NX (NX x)) (NL (NL v)) (NL (NL u)) (NHm h) (NM (NM m)) := r.n
  have e : psI (apM (NM (NM m))) (apM (NM (NM m)) + NM (NM m) 1 34) = psI (sumP (NL (NL v) 2) 4) (sumP (NL (NL v) 2) 4 + NL (NL v) 0 26) := by
    have e34 : NM (NM m) 1 34 = NL (NL v) 0 26 := r2.1.1 34 (by omega)
    rw [ap_eq r2.1, e34]
  refine ⟨_, _, _, _, _, _, psI_n _ _, fun rg => FC_eq (cl_X8_paperShare hs0 (NX x) (NL v) (NL u) (10, NHm h) (hs0_ok _)) rfl rfl, fun rg => FM_eq (rg1 := rg00) ((cl_X9_paperShare (NM m) rg00).trans ?_) rfl rfl, r2⟩
  rw [e]
def x00 : pLV := fun _ => z0
theorem iniV_rm : IRm iniV := ⟨rfl, rfl, rfl, rfl⟩
theorem RC_0 : RC 0 iniV (layM (NM iniM) 1) := by
  intro j hj
  match j, hj with
  | 0, _ => exact rfl
  | 1, _ => exact rfl
  | 2, _ => exact rfl
  | 3, _ => exact rfl
  | 4, _ => exact rfl
  | 5, _ => exact rfl
  | 6, _ => exact rfl
  | 7, _ => exact rfl
  | 8, _ => exact rfl
  | 9, _ => exact rfl
  | 10, _ => exact rfl
  | 11, _ => exact rfl
  | 12, _ => exact rfl
  | 13, _ => exact rfl
  | 14, _ => exact rfl
  | 15, _ => exact rfl
  | 16, _ => exact rfl
  | 17, _ => exact rfl
  | 18, _ => exact rfl
  | 19, _ => exact rfl
  | 20, _ => exact rfl
  | 21, _ => exact rfl
  | 22, _ => exact rfl
  | 23, _ => exact rfl
  | 24, _ => exact rfl
  | 25, _ => exact rfl
  | 26, _ => exact rfl
  | 27, _ => exact rfl
  | 28, _ => exact rfl
  | 29, _ => exact rfl
  | 30, _ => exact rfl
  | 31, _ => exact rfl
  | 32, _ => exact rfl
  | 33, _ => exact rfl
  | 34, _ => exact rfl
  | 35, _ => exact rfl
  | 36, _ => exact rfl
  | 37, _ => exact rfl
  | 38, _ => exact rfl
  | 39, _ => exact rfl
  | j + 40, hj => exact absurd hj (by omega)
theorem SN_0 : SN 0 iniV (layM (NM iniM) 1) := by
  have c1 : CH 20000 (400 : Int32) 9600 := ⟨by decide, by decide, by decide⟩
  have c2 : CH 30000 (0 : Int32) 0 := ⟨by decide, by decide, by decide⟩
  have c3 : CH 10000 (0 : Int32) 0 := ⟨by decide, by decide, by decide⟩
  have c4 : IB 0 3 (0 : Int32) := ⟨by decide, by decide⟩
  have c5 : IB 0 3000 (0 : Int32) := ⟨by decide, by decide⟩
  have c6 : IB 0 9 (0 : Int32) := ⟨by decide, by decide⟩
  have c7 : IB 0 20 (0 : Int32) := ⟨by decide, by decide⟩
  have z0 : (0 : Int) ≤ (0 : Int32).toInt := by decide
  have s0 : IB 0 200 (40 : Int32) := ⟨by decide, by decide⟩
  have s1 : IB 0 5000 (960 : Int32) := ⟨by decide, by decide⟩
  have s2 : IB 0 2000 (500 : Int32) := ⟨by decide, by decide⟩
  have s3 : IB 0 1000 (300 : Int32) := ⟨by decide, by decide⟩
  have s5 : IB 0 8 (3 : Int32) := ⟨by decide, by decide⟩
  have s7 : IB 0 2000 (500 : Int32) := ⟨by decide, by decide⟩
  have s8 : IB 0 20 (5 : Int32) := ⟨by decide, by decide⟩
  have sz : ((0 : Int32).toInt + (0 : Int32).toInt + (0 : Int32).toInt + (0 : Int32).toInt) ≤ 0 := by decide
  exact ⟨RC_0, fun j hj => absurd hj (Nat.not_lt_zero j), ⟨rfl, fun k hk => absurd hk (Nat.not_lt_zero k)⟩, ⟨iniV_rm, ⟨c1, c2, c3, c3⟩, ⟨s0, s1, s2, s3, s5, s7, s8⟩, ⟨c4, z0, z0, c5, c6, c7⟩, fun k hk => absurd hk (Nat.not_lt_zero k), ⟨z0, z0, z0, z0, sz⟩⟩, z0⟩
theorem RS_0 : RS 0 x00 iniV iniV (fun _ => iniV) (layM (NM iniM)) :=
  ⟨SN_0, ⟨iniV_rm, fun _ _ => iniV_rm⟩, ⟨0, Nat.zero_le _, rfl, rfl, fun j hj => absurd hj (Nat.not_lt_zero j)⟩, Or.inl ⟨rfl, rfl, rfl⟩, ⟨0, 0, Nat.zero_le _, by omega, rfl, rfl, rfl, fun t ht => absurd ht (Nat.not_lt_zero t)⟩, ⟨Or.inl rfl, Or.inl rfl, rfl, fun e => absurd e (by decide), fun e => absurd e (by decide)⟩⟩
end
