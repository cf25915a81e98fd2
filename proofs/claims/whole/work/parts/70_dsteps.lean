noncomputable section
/-! THE LAW'S OWN STEPS: doubles -/
def lremDK {R : Type} : pLs → Nat → (pLs → R) → R
  | [], _, c => c []
  | q :: l, i, c => match Nat.beq q.1 i with
    | true => lremDK l i c
    | false => match Nat.beq q.1 (i + 1) with
      | true => lremDK l i c
      | false => match Nat.beq (q.1 + 1) i with
        | true => (match Nat.beq q.2.category 2 with
          | true => lremDK l i c
          | false => lremDK l i (fun l' => c (q :: l')))
        | false => lremDK l i (fun l' => c (q :: l'))
def lremD (l : pLs) (i : Nat) : pLs := lremDK l i (fun l' => l')
theorem lremDK_eq {R : Type} : ∀ (l : pLs) (i : Nat) (c : pLs → R), lremDK l i c = c (lremD l i)
  | [], _, _ => rfl
  | q :: l, i, c => by
    unfold lremD lremDK
    split
    · exact lremDK_eq l i c
    · split
      · exact lremDK_eq l i c
      · split
        · split
          · exact lremDK_eq l i c
          · rw [lremDK_eq l i (fun l' => c (q :: l')), lremDK_eq l i (fun l' => q :: l')]
        · rw [lremDK_eq l i (fun l' => c (q :: l')), lremDK_eq l i (fun l' => q :: l')]
theorem beq_ff {a b : Nat} (h : Nat.beq a b = false) : ¬ a = b := fun e => by
  rw [e, Nat.beq_refl] at h
  cases h
theorem lremD_mem : ∀ {l : pLs} {i : Nat} {q : Nat × Value}, q ∈ lremD l i → q ∈ l ∧ ¬ q.1 = i ∧ ¬ q.1 = i + 1 ∧ ¬ (q.1 + 1 = i ∧ q.2.category = 2)
  | [], _, _, h => by cases h
  | x :: l, i, q, h => by
    have rc0 : q ∈ lremD l i → q ∈ x :: l ∧ ¬ q.1 = i ∧ ¬ q.1 = i + 1 ∧ ¬ (q.1 + 1 = i ∧ q.2.category = 2) := fun h' => by
      have := lremD_mem (l := l) (i := i) (q := q) h'
      exact ⟨List.mem_cons_of_mem _ this.1, this.2⟩
    unfold lremD lremDK at h
    split at h
    next => exact rc0 h
    next b1 =>
      split at h
      next => exact rc0 h
      next b2 =>
        split at h
        next b3 =>
          split at h
          next => exact rc0 h
          next b4 =>
            rw [lremDK_eq] at h
            rcases List.mem_cons.mp h with rfl | h
            · exact ⟨List.mem_cons_self, beq_ff b1, beq_ff b2, fun e => beq_ff b4 e.2⟩
            · exact rc0 h
        next b3 =>
          rw [lremDK_eq] at h
          rcases List.mem_cons.mp h with rfl | h
          · exact ⟨List.mem_cons_self, beq_ff b1, beq_ff b2, fun e => beq_ff b3 e.1⟩
          · exact rc0 h
theorem pl_putD {lsA : Array Slot} {nL : Nat} {α : Nat → Nat} {ls : pLs} {i : Nat} {v : Value} (h : lv_has lsA nL ((i, cv α v) :: (ls.map (fun q => (q.1, cv α q.2))).filter (fun q => !(q.1 == i) && (!(q.1 == i + 1) && !(q.1 + 1 == i && q.2.category == 2))))) : lv_has lsA nL (((i, v) :: lremD ls i).map (fun q => (q.1, cv α q.2))) := by
  refine pl_sub h fun q hq => ?_
  rw [List.map_cons] at hq
  rcases List.mem_cons.mp hq with rfl | hq
  · exact List.mem_cons_self
  · obtain ⟨x, hx, rfl⟩ := List.mem_map.mp hq
    obtain ⟨h1, h2, h3, h4⟩ := lremD_mem hx
    refine List.mem_cons_of_mem _ (List.mem_filter.mpr ⟨List.mem_map.mpr ⟨x, h1, rfl⟩, ?_⟩)
    have e1 : (x.1 == i) = false := by simpa using h2
    have e2 : (x.1 == i + 1) = false := by simpa using h3
    have e3 : (x.1 + 1 == i && (cv α x.2).category == 2) = false := by
      rw [cv_cat]
      simpa using h4
    show (!(x.1 == i) && (!(x.1 == i + 1) && !(x.1 + 1 == i && (cv α x.2).category == 2))) = true
    rw [e1, e2, e3]
    rfl
def oF2d : pEn := fun ls st w rg k _ => match st with
  | .float x :: st' => pif (vf_n64 (FP.f2d x)) (k ls (.double (FP.f2d x) :: st') w rg) none
  | _ => none
def oDload (i : Nat) : pEn := fun ls st w rg k _ => match lget ls i with
  | some (.double x) => k ls (.double x :: st) w rg
  | _ => none
def oDstore (i : Nat) : pEn := fun ls st w rg k _ => match st with
  | .double x :: st' => lremDK ls i (fun ls' => k ((i, .double x) :: ls') st' w rg)
  | _ => none
/-- how two doubles compare -/
def dcL (x y : UInt64) : Int32 := Op.cmpValue (FP.dcmp x y) .l
def oDcmpL : pEn := fun ls st w rg k _ => match st with
  | .double y :: .double x :: st' => k ls (.int (dcL x y) :: st') w rg
  | _ => none
section ST
variable {l : Launch} {R : Room} {cc : ByteArray} {own : String} {nL cap : Nat} {ret : Option FieldType} {pcOf : Nat → Nat} {i : Nat}
theorem okF2d (hd : decode cc (pcOf i) = .ok (.f2d, 1)) (hp : pcOf (i + 1) = pcOf i + 1) : EOK l cc own nL ret R cap pcOf i oF2d := by
  intro p e s m args below meth c D κ α A sz L0 Lm r Qc out C hR ls st w rg k j h hk hj H locs lsA hP hz h0 h1 hr hS hl
  obtain ⟨hx, hb, hml, hown, hts, hret, hlk, hKE, hA, hin, hAk, hfr, hLm⟩ := id C
  unfold oF2d at h
  split at h
  next x st' =>
    by_cases hv : vf_n64 (FP.f2d x)
    · have h := (pif_t hv).symm.trans h
      have g := hk _ _ _ _ h H locs lsA hP hz h0 h1 hr hS hl
      rw [hp] at g
      exact lv_f2d hx hb hd hv g
    · have h := (pif_f hv).symm.trans h
      cases h
  next => cases h
theorem okDload {n : Nat} (hd : decode cc (pcOf i) = .ok (.dload n, 2)) (hp : pcOf (i + 1) = pcOf i + 2) : EOK l cc own nL ret R cap pcOf i (oDload n) := by
  intro p e s m args below meth c D κ α A sz L0 Lm r Qc out C hR ls st w rg k j h hk hj H locs lsA hP hz h0 h1 hr hS hl
  obtain ⟨hx, hb, hml, hown, hts, hret, hlk, hKE, hA, hin, hAk, hfr, hLm⟩ := id C
  unfold oDload at h
  split at h
  next x hx0 =>
    have g := hk _ _ _ _ h H locs lsA hP hz h0 h1 hr hS hl
    rw [hp] at g
    exact lv_dload hx hb hd (pl_at hl hx0) g
  next => cases h
theorem okDstore {n : Nat} (hd : decode cc (pcOf i) = .ok (.dstore n, 2)) (hp : pcOf (i + 1) = pcOf i + 2) (hnL : n + 1 < nL) : EOK l cc own nL ret R cap pcOf i (oDstore n) := by
  intro p e s m args below meth c D κ α A sz L0 Lm r Qc out C hR ls st w rg k j h hk hj H locs lsA hP hz h0 h1 hr hS hl
  obtain ⟨hx, hb, hml, hown, hts, hret, hlk, hKE, hA, hin, hAk, hfr, hLm⟩ := id C
  unfold oDstore at h
  split at h
  next x st' =>
    rw [lremDK_eq] at h
    refine lv_dstore hx hb hd hl hnL rfl (fun ls2 hl2 => ?_)
    have g := hk _ _ _ _ h H locs ls2 hP hz h0 h1 hr hS (pl_putD (v := .double x) hl2)
    rw [hp] at g
    exact g
  next => cases h
theorem okDcmpL (hd : decode cc (pcOf i) = .ok (.dcmp .l, 1)) (hp : pcOf (i + 1) = pcOf i + 1) : EOK l cc own nL ret R cap pcOf i oDcmpL := by
  intro p e s m args below meth c D κ α A sz L0 Lm r Qc out C hR ls st w rg k j h hk hj H locs lsA hP hz h0 h1 hr hS hl
  obtain ⟨hx, hb, hml, hown, hts, hret, hlk, hKE, hA, hin, hAk, hfr, hLm⟩ := id C
  unfold oDcmpL at h
  split at h
  next y x st' =>
    have g := hk _ _ _ _ h H locs lsA hP hz h0 h1 hr hS hl
    rw [hp] at g
    exact lv_dcmp hx hb hd g
  next => cases h
end ST
end
