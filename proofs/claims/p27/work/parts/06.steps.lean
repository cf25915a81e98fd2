noncomputable section
/-! ONE THEOREM A STEP (the plain ones are laid by a program of mine) -/
theorem pl_at {lsA : Array Slot} {nL : Nat} {α : Nat → Nat} {ls : pLs} {i : Nat} {v : Value} (h : lv_has lsA nL (ls.map (fun q => (q.1, cv α q.2)))) (hx : lget ls i = some v) : lsA[i]? = some (.val (cv α v)) :=
  h.2.2 (i, cv α v) (List.mem_map.mpr ⟨(i, v), lget_mem hx, rfl⟩)
theorem pl_sub {lsA : Array Slot} {nL : Nat} {l l' : List (Nat × Value)} (h : lv_has lsA nL l) (hs : ∀ q ∈ l', q ∈ l) : lv_has lsA nL l' := ⟨h.1, h.2.1, fun q hq => h.2.2 q (hs q hq)⟩
theorem pl_put {lsA : Array Slot} {nL : Nat} {α : Nat → Nat} {ls : pLs} {i : Nat} {v : Value} (h : lv_has lsA nL ((i, cv α v) :: (ls.map (fun q => (q.1, cv α q.2))).filter (fun q => !(q.1 == i) && !(q.1 + 1 == i && q.2.category == 2)))) : lv_has lsA nL (((i, v) :: lrem ls i).map (fun q => (q.1, cv α q.2))) := by
  refine pl_sub h fun q hq => ?_
  rw [List.map_cons] at hq
  rcases List.mem_cons.mp hq with rfl | hq
  · exact List.mem_cons_self
  · obtain ⟨x, hx, rfl⟩ := List.mem_map.mp hq
    obtain ⟨h1, h2, h3⟩ := lrem_mem hx
    refine List.mem_cons_of_mem _ (List.mem_filter.mpr ⟨List.mem_map.mpr ⟨x, h1, rfl⟩, ?_⟩)
    have e1 : (x.1 == i) = false := by simpa using h2
    have e2 : ((cv α x.2).category == 2) = false := by rw [cv_cat]; simpa using h3
    simp [e1, e2]
section ST
variable {l : Launch} {R : Room} {cc : ByteArray} {own : String} {nL cap : Nat} {ret : Option FieldType} {pcOf : Nat → Nat} {i : Nat}
set_option maxHeartbeats 1000000 in
theorem okIconst {n : Int} {v : Int32} (hd : decode cc (pcOf i) = .ok (.iconst n, 1)) (hp : pcOf (i + 1) = pcOf i + 1) (hv : Int32.ofInt n = v) : EOK l cc own nL ret R cap pcOf i (oConst v) := by
  intro p e s m args below meth c D κ α A sz L0 Lm r Qc out C hR ls st w rg k j h hk hj H locs lsA hP hz h0 h1 hr hS hl
  obtain ⟨hx, hb, hml, hown, hts, hret, hlk, hKE, hA, hin, hAk, hfr, hLm⟩ := id C
  have g := hk _ _ _ _ h H locs lsA hP hz h0 h1 hr hS hl; rw [hp] at g; exact lv_iconst hx hb hd hv g
set_option maxHeartbeats 1000000 in
theorem okBipush {n : Int} {v : Int32} (hd : decode cc (pcOf i) = .ok (.bipush n, 2)) (hp : pcOf (i + 1) = pcOf i + 2) (hv : (Int8.ofInt n).toInt32 = v) : EOK l cc own nL ret R cap pcOf i (oConst v) := by
  intro p e s m args below meth c D κ α A sz L0 Lm r Qc out C hR ls st w rg k j h hk hj H locs lsA hP hz h0 h1 hr hS hl
  obtain ⟨hx, hb, hml, hown, hts, hret, hlk, hKE, hA, hin, hAk, hfr, hLm⟩ := id C
  have g := hk _ _ _ _ h H locs lsA hP hz h0 h1 hr hS hl; rw [hp] at g; exact lv_bipush hx hb hd hv g
set_option maxHeartbeats 1000000 in
theorem okSipush {n : Int} {v : Int32} (hd : decode cc (pcOf i) = .ok (.sipush n, 3)) (hp : pcOf (i + 1) = pcOf i + 3) (hv : (Int16.ofInt n).toInt32 = v) : EOK l cc own nL ret R cap pcOf i (oConst v) := by
  intro p e s m args below meth c D κ α A sz L0 Lm r Qc out C hR ls st w rg k j h hk hj H locs lsA hP hz h0 h1 hr hS hl
  obtain ⟨hx, hb, hml, hown, hts, hret, hlk, hKE, hA, hin, hAk, hfr, hLm⟩ := id C
  have g := hk _ _ _ _ h H locs lsA hP hz h0 h1 hr hS hl; rw [hp] at g; exact lv_sipush hx hb hd hv g
set_option maxHeartbeats 1000000 in
theorem okLdc {idx : Nat} {v : Int32} (hd : decode cc (pcOf i) = .ok (.ldc idx, 2)) (hp : pcOf (i + 1) = pcOf i + 2) (hw : Cond.constant own idx v ∈ pWA) : EOK l cc own nL ret R cap pcOf i (oConst v) := by
  intro p e s m args below meth c D κ α A sz L0 Lm r Qc out C hR ls st w rg k j h hk hj H locs lsA hP hz h0 h1 hr hS hl
  obtain ⟨hx, hb, hml, hown, hts, hret, hlk, hKE, hA, hin, hAk, hfr, hLm⟩ := id C
  have g := hk _ _ _ _ h H locs lsA hP hz h0 h1 hr hS hl; rw [hp] at g; exact lv_ldc hx hb hown (hts _ hw) hd g
set_option maxHeartbeats 1000000 in
theorem okIload_n {k0 : Fin 4} {n : Nat} (hd : decode cc (pcOf i) = .ok (.iload_n k0, 1)) (hp : pcOf (i + 1) = pcOf i + 1) (hn : (k0 : Nat) = n) : EOK l cc own nL ret R cap pcOf i (oIload n) := by
  intro p e s m args below meth c D κ α A sz L0 Lm r Qc out C hR ls st w rg k j h hk hj H locs lsA hP hz h0 h1 hr hS hl
  obtain ⟨hx, hb, hml, hown, hts, hret, hlk, hKE, hA, hin, hAk, hfr, hLm⟩ := id C
  unfold oIload at h
  split at h
  next x hx0 => have g := hk _ _ _ _ h H locs lsA hP hz h0 h1 hr hS hl; rw [hp] at g; exact lv_iload_n hx hb hd hn (pl_at hl hx0) g
  next => cases h
set_option maxHeartbeats 1000000 in
theorem okIload {n : Nat} (hd : decode cc (pcOf i) = .ok (.iload n, 2)) (hp : pcOf (i + 1) = pcOf i + 2) : EOK l cc own nL ret R cap pcOf i (oIload n) := by
  intro p e s m args below meth c D κ α A sz L0 Lm r Qc out C hR ls st w rg k j h hk hj H locs lsA hP hz h0 h1 hr hS hl
  obtain ⟨hx, hb, hml, hown, hts, hret, hlk, hKE, hA, hin, hAk, hfr, hLm⟩ := id C
  unfold oIload at h
  split at h
  next x hx0 => have g := hk _ _ _ _ h H locs lsA hP hz h0 h1 hr hS hl; rw [hp] at g; exact lv_iload hx hb hd (pl_at hl hx0) g
  next => cases h
set_option maxHeartbeats 1000000 in
theorem okAload_n {k0 : Fin 4} {n : Nat} (hd : decode cc (pcOf i) = .ok (.aload_n k0, 1)) (hp : pcOf (i + 1) = pcOf i + 1) (hn : (k0 : Nat) = n) : EOK l cc own nL ret R cap pcOf i (oAload n) := by
  intro p e s m args below meth c D κ α A sz L0 Lm r Qc out C hR ls st w rg k j h hk hj H locs lsA hP hz h0 h1 hr hS hl
  obtain ⟨hx, hb, hml, hown, hts, hret, hlk, hKE, hA, hin, hAk, hfr, hLm⟩ := id C
  unfold oAload at h
  split at h
  next x hx0 => have g := hk _ _ _ _ h H locs lsA hP hz h0 h1 hr hS hl; rw [hp] at g; exact lv_aload_n hx hb hd hn (pl_at hl hx0) g
  next => cases h
set_option maxHeartbeats 1000000 in
theorem okAload {n : Nat} (hd : decode cc (pcOf i) = .ok (.aload n, 2)) (hp : pcOf (i + 1) = pcOf i + 2) : EOK l cc own nL ret R cap pcOf i (oAload n) := by
  intro p e s m args below meth c D κ α A sz L0 Lm r Qc out C hR ls st w rg k j h hk hj H locs lsA hP hz h0 h1 hr hS hl
  obtain ⟨hx, hb, hml, hown, hts, hret, hlk, hKE, hA, hin, hAk, hfr, hLm⟩ := id C
  unfold oAload at h
  split at h
  next x hx0 => have g := hk _ _ _ _ h H locs lsA hP hz h0 h1 hr hS hl; rw [hp] at g; exact lv_aload hx hb hd (pl_at hl hx0) g
  next => cases h
set_option maxHeartbeats 1000000 in
theorem okIstore_n {k0 : Fin 4} {n : Nat} (hd : decode cc (pcOf i) = .ok (.istore_n k0, 1)) (hp : pcOf (i + 1) = pcOf i + 1) (hn : (k0 : Nat) = n) (hnL : n < nL) : EOK l cc own nL ret R cap pcOf i (oIstore n) := by
  intro p e s m args below meth c D κ α A sz L0 Lm r Qc out C hR ls st w rg k j h hk hj H locs lsA hP hz h0 h1 hr hS hl
  obtain ⟨hx, hb, hml, hown, hts, hret, hlk, hKE, hA, hin, hAk, hfr, hLm⟩ := id C
  unfold oIstore at h
  split at h
  next x st' =>
    rw [lremK_eq] at h
    refine lv_istore_n hx hb hd hn hl hnL rfl (fun ls2 hl2 => ?_)
    have g := hk _ _ _ _ h H locs ls2 hP hz h0 h1 hr hS (pl_put (v := .int x) hl2)
    rw [hp] at g
    exact g
  next => cases h
set_option maxHeartbeats 1000000 in
theorem okIstore {n : Nat} (hd : decode cc (pcOf i) = .ok (.istore n, 2)) (hp : pcOf (i + 1) = pcOf i + 2) (hnL : n < nL) : EOK l cc own nL ret R cap pcOf i (oIstore n) := by
  intro p e s m args below meth c D κ α A sz L0 Lm r Qc out C hR ls st w rg k j h hk hj H locs lsA hP hz h0 h1 hr hS hl
  obtain ⟨hx, hb, hml, hown, hts, hret, hlk, hKE, hA, hin, hAk, hfr, hLm⟩ := id C
  unfold oIstore at h
  split at h
  next x st' =>
    rw [lremK_eq] at h
    refine lv_istore hx hb hd hl hnL rfl (fun ls2 hl2 => ?_)
    have g := hk _ _ _ _ h H locs ls2 hP hz h0 h1 hr hS (pl_put (v := .int x) hl2)
    rw [hp] at g
    exact g
  next => cases h
set_option maxHeartbeats 1000000 in
theorem okAstore_n {k0 : Fin 4} {n : Nat} (hd : decode cc (pcOf i) = .ok (.astore_n k0, 1)) (hp : pcOf (i + 1) = pcOf i + 1) (hn : (k0 : Nat) = n) (hnL : n < nL) : EOK l cc own nL ret R cap pcOf i (oAstore n) := by
  intro p e s m args below meth c D κ α A sz L0 Lm r Qc out C hR ls st w rg k j h hk hj H locs lsA hP hz h0 h1 hr hS hl
  obtain ⟨hx, hb, hml, hown, hts, hret, hlk, hKE, hA, hin, hAk, hfr, hLm⟩ := id C
  unfold oAstore at h
  split at h
  next x st' =>
    rw [lremK_eq] at h
    refine lv_astore_n hx hb hd hn hl hnL rfl (fun ls2 hl2 => ?_)
    have g := hk _ _ _ _ h H locs ls2 hP hz h0 h1 hr hS (pl_put (v := .ref x) hl2)
    rw [hp] at g
    exact g
  next => cases h
set_option maxHeartbeats 1000000 in
theorem okAstore {n : Nat} (hd : decode cc (pcOf i) = .ok (.astore n, 2)) (hp : pcOf (i + 1) = pcOf i + 2) (hnL : n < nL) : EOK l cc own nL ret R cap pcOf i (oAstore n) := by
  intro p e s m args below meth c D κ α A sz L0 Lm r Qc out C hR ls st w rg k j h hk hj H locs lsA hP hz h0 h1 hr hS hl
  obtain ⟨hx, hb, hml, hown, hts, hret, hlk, hKE, hA, hin, hAk, hfr, hLm⟩ := id C
  unfold oAstore at h
  split at h
  next x st' =>
    rw [lremK_eq] at h
    refine lv_astore hx hb hd hl hnL rfl (fun ls2 hl2 => ?_)
    have g := hk _ _ _ _ h H locs ls2 hP hz h0 h1 hr hS (pl_put (v := .ref x) hl2)
    rw [hp] at g
    exact g
  next => cases h
set_option maxHeartbeats 1000000 in
theorem okIinc {n : Nat} {z : Int} {v : Int32} (hd : decode cc (pcOf i) = .ok (.iinc n z, 3)) (hp : pcOf (i + 1) = pcOf i + 3) (hv : Int32.ofInt z = v) (hnL : n < nL) : EOK l cc own nL ret R cap pcOf i (oIinc n v) := by
  intro p e s m args below meth c D κ α A sz L0 Lm r Qc out C hR ls st w rg k j h hk hj H locs lsA hP hz h0 h1 hr hS hl
  obtain ⟨hx, hb, hml, hown, hts, hret, hlk, hKE, hA, hin, hAk, hfr, hLm⟩ := id C
  unfold oIinc at h
  split at h
  next x hx0 =>
    rw [lremK_eq] at h
    obtain ⟨q, hq⟩ := List.getElem?_of_mem (List.mem_map.mpr ⟨(n, Value.int x), lget_mem hx0, rfl⟩ : (n, Value.int x) ∈ ls.map (fun q => (q.1, cv α q.2)))
    refine lv_iinc (v := x + v) hx hb hd hl hq (by rw [hv]) hnL rfl (fun ls2 hl2 => ?_)
    have g := hk _ _ _ _ h H locs ls2 hP hz h0 h1 hr hS (pl_put (v := .int (x + v)) hl2)
    rw [hp] at g
    exact g
  next => cases h
set_option maxHeartbeats 1000000 in
theorem okAdd (hd : decode cc (pcOf i) = .ok (.iadd, 1)) (hp : pcOf (i + 1) = pcOf i + 1) : EOK l cc own nL ret R cap pcOf i oAdd := by
  intro p e s m args below meth c D κ α A sz L0 Lm r Qc out C hR ls st w rg k j h hk hj H locs lsA hP hz h0 h1 hr hS hl
  obtain ⟨hx, hb, hml, hown, hts, hret, hlk, hKE, hA, hin, hAk, hfr, hLm⟩ := id C
  unfold oAdd at h
  split at h
  next y x st' => have g := hk _ _ _ _ h H locs lsA hP hz h0 h1 hr hS hl; rw [hp] at g; exact lv_iadd hx hb hd g
  next => cases h
set_option maxHeartbeats 1000000 in
theorem okSub (hd : decode cc (pcOf i) = .ok (.isub, 1)) (hp : pcOf (i + 1) = pcOf i + 1) : EOK l cc own nL ret R cap pcOf i oSub := by
  intro p e s m args below meth c D κ α A sz L0 Lm r Qc out C hR ls st w rg k j h hk hj H locs lsA hP hz h0 h1 hr hS hl
  obtain ⟨hx, hb, hml, hown, hts, hret, hlk, hKE, hA, hin, hAk, hfr, hLm⟩ := id C
  unfold oSub at h
  split at h
  next y x st' => have g := hk _ _ _ _ h H locs lsA hP hz h0 h1 hr hS hl; rw [hp] at g; exact lv_isub hx hb hd g
  next => cases h
set_option maxHeartbeats 1000000 in
theorem okMul (hd : decode cc (pcOf i) = .ok (.imul, 1)) (hp : pcOf (i + 1) = pcOf i + 1) : EOK l cc own nL ret R cap pcOf i oMul := by
  intro p e s m args below meth c D κ α A sz L0 Lm r Qc out C hR ls st w rg k j h hk hj H locs lsA hP hz h0 h1 hr hS hl
  obtain ⟨hx, hb, hml, hown, hts, hret, hlk, hKE, hA, hin, hAk, hfr, hLm⟩ := id C
  unfold oMul at h
  split at h
  next y x st' => have g := hk _ _ _ _ h H locs lsA hP hz h0 h1 hr hS hl; rw [hp] at g; exact lv_imul hx hb hd g
  next => cases h
set_option maxHeartbeats 1000000 in
theorem okAnd (hd : decode cc (pcOf i) = .ok (.iand, 1)) (hp : pcOf (i + 1) = pcOf i + 1) : EOK l cc own nL ret R cap pcOf i oAnd := by
  intro p e s m args below meth c D κ α A sz L0 Lm r Qc out C hR ls st w rg k j h hk hj H locs lsA hP hz h0 h1 hr hS hl
  obtain ⟨hx, hb, hml, hown, hts, hret, hlk, hKE, hA, hin, hAk, hfr, hLm⟩ := id C
  unfold oAnd at h
  split at h
  next y x st' => have g := hk _ _ _ _ h H locs lsA hP hz h0 h1 hr hS hl; rw [hp] at g; exact lv_iand hx hb hd g
  next => cases h
set_option maxHeartbeats 1000000 in
theorem okOr (hd : decode cc (pcOf i) = .ok (.ior, 1)) (hp : pcOf (i + 1) = pcOf i + 1) : EOK l cc own nL ret R cap pcOf i oOr := by
  intro p e s m args below meth c D κ α A sz L0 Lm r Qc out C hR ls st w rg k j h hk hj H locs lsA hP hz h0 h1 hr hS hl
  obtain ⟨hx, hb, hml, hown, hts, hret, hlk, hKE, hA, hin, hAk, hfr, hLm⟩ := id C
  unfold oOr at h
  split at h
  next y x st' => have g := hk _ _ _ _ h H locs lsA hP hz h0 h1 hr hS hl; rw [hp] at g; exact lv_ior hx hb hd g
  next => cases h
set_option maxHeartbeats 1000000 in
theorem okDiv (hd : decode cc (pcOf i) = .ok (.idiv, 1)) (hp : pcOf (i + 1) = pcOf i + 1) : EOK l cc own nL ret R cap pcOf i oDiv := by
  intro p e s m args below meth c D κ α A sz L0 Lm r Qc out C hR ls st w rg k j h hk hj H locs lsA hP hz h0 h1 hr hS hl
  obtain ⟨hx, hb, hml, hown, hts, hret, hlk, hKE, hA, hin, hAk, hfr, hLm⟩ := id C
  unfold oDiv at h
  split at h
  next y x st' =>
    by_cases hy : y = 0
    · have h := (pif_t hy).symm.trans h; cases h
    · have h := (pif_f hy).symm.trans h
      have g := hk _ _ _ _ h H locs lsA hP hz h0 h1 hr hS hl; rw [hp] at g; exact lv_idiv hx hb hd hy g
  next => cases h
set_option maxHeartbeats 1000000 in
theorem okDivL (hd : decode cc (pcOf i) = .ok (.idiv, 1)) (hp : pcOf (i + 1) = pcOf i + 1) : EOK l cc own nL ret R cap pcOf i oDivL := by
  intro p e s m args below meth c D κ α A sz L0 Lm r Qc out C hR ls st w rg k j h hk hj H locs lsA hP hz h0 h1 hr hS hl
  obtain ⟨hx, hb, hml, hown, hts, hret, hlk, hKE, hA, hin, hAk, hfr, hLm⟩ := id C
  unfold oDivL at h
  split at h
  next y x st' =>
    split at h
    next => cases h
    next hy => have g := hk _ _ _ _ h H locs lsA hP hz h0 h1 hr hS hl; rw [hp] at g; exact lv_idiv hx hb hd (of_decide_eq_false hy) g
  next => cases h
set_option maxHeartbeats 1000000 in
theorem okI2l (hd : decode cc (pcOf i) = .ok (.i2l, 1)) (hp : pcOf (i + 1) = pcOf i + 1) : EOK l cc own nL ret R cap pcOf i oI2l := by
  intro p e s m args below meth c D κ α A sz L0 Lm r Qc out C hR ls st w rg k j h hk hj H locs lsA hP hz h0 h1 hr hS hl
  obtain ⟨hx, hb, hml, hown, hts, hret, hlk, hKE, hA, hin, hAk, hfr, hLm⟩ := id C
  unfold oI2l at h
  split at h
  next x st' => have g := hk _ _ _ _ h H locs lsA hP hz h0 h1 hr hS hl; rw [hp] at g; exact lv_i2l hx hb hd rfl g
  next => cases h
set_option maxHeartbeats 1000000 in
theorem okL2i (hd : decode cc (pcOf i) = .ok (.l2i, 1)) (hp : pcOf (i + 1) = pcOf i + 1) : EOK l cc own nL ret R cap pcOf i oL2i := by
  intro p e s m args below meth c D κ α A sz L0 Lm r Qc out C hR ls st w rg k j h hk hj H locs lsA hP hz h0 h1 hr hS hl
  obtain ⟨hx, hb, hml, hown, hts, hret, hlk, hKE, hA, hin, hAk, hfr, hLm⟩ := id C
  unfold oL2i at h
  split at h
  next x st' => have g := hk _ _ _ _ h H locs lsA hP hz h0 h1 hr hS hl; rw [hp] at g; exact lv_l2i hx hb hd rfl g
  next => cases h
set_option maxHeartbeats 1000000 in
theorem okLmul (hd : decode cc (pcOf i) = .ok (.lmul, 1)) (hp : pcOf (i + 1) = pcOf i + 1) : EOK l cc own nL ret R cap pcOf i oLmul := by
  intro p e s m args below meth c D κ α A sz L0 Lm r Qc out C hR ls st w rg k j h hk hj H locs lsA hP hz h0 h1 hr hS hl
  obtain ⟨hx, hb, hml, hown, hts, hret, hlk, hKE, hA, hin, hAk, hfr, hLm⟩ := id C
  unfold oLmul at h
  split at h
  next y x st' => have g := hk _ _ _ _ h H locs lsA hP hz h0 h1 hr hS hl; rw [hp] at g; exact lv_lmul hx hb hd g
  next => cases h
set_option maxHeartbeats 1000000 in
theorem okLdiv (hd : decode cc (pcOf i) = .ok (.ldiv, 1)) (hp : pcOf (i + 1) = pcOf i + 1) : EOK l cc own nL ret R cap pcOf i oLdiv := by
  intro p e s m args below meth c D κ α A sz L0 Lm r Qc out C hR ls st w rg k j h hk hj H locs lsA hP hz h0 h1 hr hS hl
  obtain ⟨hx, hb, hml, hown, hts, hret, hlk, hKE, hA, hin, hAk, hfr, hLm⟩ := id C
  unfold oLdiv at h
  split at h
  next y x st' =>
    by_cases hy : y = 0
    · have h := (pif_t hy).symm.trans h; cases h
    · have h := (pif_f hy).symm.trans h
      have g := hk _ _ _ _ h H locs lsA hP hz h0 h1 hr hS hl; rw [hp] at g; exact lv_ldiv hx hb hd hy g
  next => cases h
set_option maxHeartbeats 1000000 in
theorem okDup (hd : decode cc (pcOf i) = .ok (.dup, 1)) (hp : pcOf (i + 1) = pcOf i + 1) : EOK l cc own nL ret R cap pcOf i oDup := by
  intro p e s m args below meth c D κ α A sz L0 Lm r Qc out C hR ls st w rg k j h hk hj H locs lsA hP hz h0 h1 hr hS hl
  obtain ⟨hx, hb, hml, hown, hts, hret, hlk, hKE, hA, hin, hAk, hfr, hLm⟩ := id C
  unfold oDup at h
  split at h
  next x st' => have g := hk _ _ _ _ h H locs lsA hP hz h0 h1 hr hS hl; rw [hp] at g; exact lv_dup hx hb hd rfl g
  next x st' => have g := hk _ _ _ _ h H locs lsA hP hz h0 h1 hr hS hl; rw [hp] at g; exact lv_dup hx hb hd rfl g
  next => cases h
set_option maxHeartbeats 1000000 in
theorem okPop (hd : decode cc (pcOf i) = .ok (.pop, 1)) (hp : pcOf (i + 1) = pcOf i + 1) : EOK l cc own nL ret R cap pcOf i oPop := by
  intro p e s m args below meth c D κ α A sz L0 Lm r Qc out C hR ls st w rg k j h hk hj H locs lsA hP hz h0 h1 hr hS hl
  obtain ⟨hx, hb, hml, hown, hts, hret, hlk, hKE, hA, hin, hAk, hfr, hLm⟩ := id C
  unfold oPop at h
  split at h
  next x st' => have g := hk _ _ _ _ h H locs lsA hP hz h0 h1 hr hS hl; rw [hp] at g; exact lv_pop hx hb hd rfl g
  next x st' => have g := hk _ _ _ _ h H locs lsA hP hz h0 h1 hr hS hl; rw [hp] at g; exact lv_pop hx hb hd rfl g
  next => cases h
set_option maxHeartbeats 1000000 in
theorem okDup2 (hd : decode cc (pcOf i) = .ok (.dup2, 1)) (hp : pcOf (i + 1) = pcOf i + 1) : EOK l cc own nL ret R cap pcOf i oDup2 := by
  intro p e s m args below meth c D κ α A sz L0 Lm r Qc out C hR ls st w rg k j h hk hj H locs lsA hP hz h0 h1 hr hS hl
  obtain ⟨hx, hb, hml, hown, hts, hret, hlk, hKE, hA, hin, hAk, hfr, hLm⟩ := id C
  unfold oDup2 at h
  split at h
  next x y st' => have g := hk _ _ _ _ h H locs lsA hP hz h0 h1 hr hS hl; rw [hp] at g; exact lv_dup2_11 hx hb hd rfl rfl g
  next => cases h
set_option maxHeartbeats 1000000 in
theorem okGoto {off : Int} {t : Nat} (hd : decode cc (pcOf i) = .ok (.goto off, 3)) (ht : (pcOf i : Int) + off = (pcOf t : Int)) : EOK l cc own nL ret R cap pcOf i (oGoto t) := by
  intro p e s m args below meth c D κ α A sz L0 Lm r Qc out C hR ls st w rg k j h hk hj H locs lsA hP hz h0 h1 hr hS hl
  obtain ⟨hx, hb, hml, hown, hts, hret, hlk, hKE, hA, hin, hAk, hfr, hLm⟩ := id C
  exact lv_goto hx hb hd ht (hj _ _ _ _ _ h H locs lsA hP hz h0 h1 hr hS hl)
set_option maxHeartbeats 1000000 in
theorem okIfeq {off : Int} {t : Nat} (hd : decode cc (pcOf i) = .ok (.ifCond .eq off, 3)) (hp : pcOf (i + 1) = pcOf i + 3) (ht : (pcOf i : Int) + off = (pcOf t : Int)) : EOK l cc own nL ret R cap pcOf i (oIfeq t) := by
  intro p e s m args below meth c D κ α A sz L0 Lm r Qc out C hR ls st w rg k j h hk hj H locs lsA hP hz h0 h1 hr hS hl
  obtain ⟨hx, hb, hml, hown, hts, hret, hlk, hKE, hA, hin, hAk, hfr, hLm⟩ := id C
  unfold oIfeq at h
  split at h
  next x st' =>
    refine lv_if_eq hx hb hd ht (fun hc => ?_) (fun hc => ?_)
    · have h := (pif_t hc).symm.trans h
      exact hj _ _ _ _ _ h H locs lsA hP hz h0 h1 hr hS hl
    · have h := (pif_f hc).symm.trans h
      have g := hk _ _ _ _ h H locs lsA hP hz h0 h1 hr hS hl; rw [hp] at g; exact g
  next => cases h
set_option maxHeartbeats 1000000 in
theorem okIfne {off : Int} {t : Nat} (hd : decode cc (pcOf i) = .ok (.ifCond .ne off, 3)) (hp : pcOf (i + 1) = pcOf i + 3) (ht : (pcOf i : Int) + off = (pcOf t : Int)) : EOK l cc own nL ret R cap pcOf i (oIfne t) := by
  intro p e s m args below meth c D κ α A sz L0 Lm r Qc out C hR ls st w rg k j h hk hj H locs lsA hP hz h0 h1 hr hS hl
  obtain ⟨hx, hb, hml, hown, hts, hret, hlk, hKE, hA, hin, hAk, hfr, hLm⟩ := id C
  unfold oIfne at h
  split at h
  next x st' =>
    refine lv_if_ne hx hb hd ht (fun hc => ?_) (fun hc => ?_)
    · have h := (pif_f hc).symm.trans h
      exact hj _ _ _ _ _ h H locs lsA hP hz h0 h1 hr hS hl
    · have h := (pif_t hc).symm.trans h
      have g := hk _ _ _ _ h H locs lsA hP hz h0 h1 hr hS hl; rw [hp] at g; exact g
  next => cases h
set_option maxHeartbeats 1000000 in
theorem okIflt {off : Int} {t : Nat} (hd : decode cc (pcOf i) = .ok (.ifCond .lt off, 3)) (hp : pcOf (i + 1) = pcOf i + 3) (ht : (pcOf i : Int) + off = (pcOf t : Int)) : EOK l cc own nL ret R cap pcOf i (oIflt t) := by
  intro p e s m args below meth c D κ α A sz L0 Lm r Qc out C hR ls st w rg k j h hk hj H locs lsA hP hz h0 h1 hr hS hl
  obtain ⟨hx, hb, hml, hown, hts, hret, hlk, hKE, hA, hin, hAk, hfr, hLm⟩ := id C
  unfold oIflt at h
  split at h
  next x st' =>
    refine lv_if_lt hx hb hd ht (fun hc => ?_) (fun hc => ?_)
    · have h := (pif_t hc).symm.trans h
      exact hj _ _ _ _ _ h H locs lsA hP hz h0 h1 hr hS hl
    · have h := (pif_f hc).symm.trans h
      have g := hk _ _ _ _ h H locs lsA hP hz h0 h1 hr hS hl; rw [hp] at g; exact g
  next => cases h
set_option maxHeartbeats 1000000 in
theorem okIfge {off : Int} {t : Nat} (hd : decode cc (pcOf i) = .ok (.ifCond .ge off, 3)) (hp : pcOf (i + 1) = pcOf i + 3) (ht : (pcOf i : Int) + off = (pcOf t : Int)) : EOK l cc own nL ret R cap pcOf i (oIfge t) := by
  intro p e s m args below meth c D κ α A sz L0 Lm r Qc out C hR ls st w rg k j h hk hj H locs lsA hP hz h0 h1 hr hS hl
  obtain ⟨hx, hb, hml, hown, hts, hret, hlk, hKE, hA, hin, hAk, hfr, hLm⟩ := id C
  unfold oIfge at h
  split at h
  next x st' =>
    refine lv_if_ge hx hb hd ht (fun hc => ?_) (fun hc => ?_)
    · have h := (pif_t hc).symm.trans h
      exact hj _ _ _ _ _ h H locs lsA hP hz h0 h1 hr hS hl
    · have h := (pif_f hc).symm.trans h
      have g := hk _ _ _ _ h H locs lsA hP hz h0 h1 hr hS hl; rw [hp] at g; exact g
  next => cases h
set_option maxHeartbeats 1000000 in
theorem okIfgt {off : Int} {t : Nat} (hd : decode cc (pcOf i) = .ok (.ifCond .gt off, 3)) (hp : pcOf (i + 1) = pcOf i + 3) (ht : (pcOf i : Int) + off = (pcOf t : Int)) : EOK l cc own nL ret R cap pcOf i (oIfgt t) := by
  intro p e s m args below meth c D κ α A sz L0 Lm r Qc out C hR ls st w rg k j h hk hj H locs lsA hP hz h0 h1 hr hS hl
  obtain ⟨hx, hb, hml, hown, hts, hret, hlk, hKE, hA, hin, hAk, hfr, hLm⟩ := id C
  unfold oIfgt at h
  split at h
  next x st' =>
    refine lv_if_gt hx hb hd ht (fun hc => ?_) (fun hc => ?_)
    · have h := (pif_t hc).symm.trans h
      exact hj _ _ _ _ _ h H locs lsA hP hz h0 h1 hr hS hl
    · have h := (pif_f hc).symm.trans h
      have g := hk _ _ _ _ h H locs lsA hP hz h0 h1 hr hS hl; rw [hp] at g; exact g
  next => cases h
set_option maxHeartbeats 1000000 in
theorem okIfle {off : Int} {t : Nat} (hd : decode cc (pcOf i) = .ok (.ifCond .le off, 3)) (hp : pcOf (i + 1) = pcOf i + 3) (ht : (pcOf i : Int) + off = (pcOf t : Int)) : EOK l cc own nL ret R cap pcOf i (oIfle t) := by
  intro p e s m args below meth c D κ α A sz L0 Lm r Qc out C hR ls st w rg k j h hk hj H locs lsA hP hz h0 h1 hr hS hl
  obtain ⟨hx, hb, hml, hown, hts, hret, hlk, hKE, hA, hin, hAk, hfr, hLm⟩ := id C
  unfold oIfle at h
  split at h
  next x st' =>
    refine lv_if_le hx hb hd ht (fun hc => ?_) (fun hc => ?_)
    · have h := (pif_t hc).symm.trans h
      exact hj _ _ _ _ _ h H locs lsA hP hz h0 h1 hr hS hl
    · have h := (pif_f hc).symm.trans h
      have g := hk _ _ _ _ h H locs lsA hP hz h0 h1 hr hS hl; rw [hp] at g; exact g
  next => cases h
set_option maxHeartbeats 1000000 in
theorem okCeq {off : Int} {t : Nat} (hd : decode cc (pcOf i) = .ok (.if_icmp .eq off, 3)) (hp : pcOf (i + 1) = pcOf i + 3) (ht : (pcOf i : Int) + off = (pcOf t : Int)) : EOK l cc own nL ret R cap pcOf i (oCeq t) := by
  intro p e s m args below meth c D κ α A sz L0 Lm r Qc out C hR ls st w rg k j h hk hj H locs lsA hP hz h0 h1 hr hS hl
  obtain ⟨hx, hb, hml, hown, hts, hret, hlk, hKE, hA, hin, hAk, hfr, hLm⟩ := id C
  unfold oCeq at h
  split at h
  next y x st' =>
    refine lv_icmp_eq hx hb hd ht (fun hc => ?_) (fun hc => ?_)
    · have h := (pif_t hc).symm.trans h
      exact hj _ _ _ _ _ h H locs lsA hP hz h0 h1 hr hS hl
    · have h := (pif_f hc).symm.trans h
      have g := hk _ _ _ _ h H locs lsA hP hz h0 h1 hr hS hl; rw [hp] at g; exact g
  next => cases h
set_option maxHeartbeats 1000000 in
theorem okCne {off : Int} {t : Nat} (hd : decode cc (pcOf i) = .ok (.if_icmp .ne off, 3)) (hp : pcOf (i + 1) = pcOf i + 3) (ht : (pcOf i : Int) + off = (pcOf t : Int)) : EOK l cc own nL ret R cap pcOf i (oCne t) := by
  intro p e s m args below meth c D κ α A sz L0 Lm r Qc out C hR ls st w rg k j h hk hj H locs lsA hP hz h0 h1 hr hS hl
  obtain ⟨hx, hb, hml, hown, hts, hret, hlk, hKE, hA, hin, hAk, hfr, hLm⟩ := id C
  unfold oCne at h
  split at h
  next y x st' =>
    refine lv_icmp_ne hx hb hd ht (fun hc => ?_) (fun hc => ?_)
    · have h := (pif_f hc).symm.trans h
      exact hj _ _ _ _ _ h H locs lsA hP hz h0 h1 hr hS hl
    · have h := (pif_t hc).symm.trans h
      have g := hk _ _ _ _ h H locs lsA hP hz h0 h1 hr hS hl; rw [hp] at g; exact g
  next => cases h
set_option maxHeartbeats 1000000 in
theorem okClt {off : Int} {t : Nat} (hd : decode cc (pcOf i) = .ok (.if_icmp .lt off, 3)) (hp : pcOf (i + 1) = pcOf i + 3) (ht : (pcOf i : Int) + off = (pcOf t : Int)) : EOK l cc own nL ret R cap pcOf i (oClt t) := by
  intro p e s m args below meth c D κ α A sz L0 Lm r Qc out C hR ls st w rg k j h hk hj H locs lsA hP hz h0 h1 hr hS hl
  obtain ⟨hx, hb, hml, hown, hts, hret, hlk, hKE, hA, hin, hAk, hfr, hLm⟩ := id C
  unfold oClt at h
  split at h
  next y x st' =>
    refine lv_icmp_lt hx hb hd ht (fun hc => ?_) (fun hc => ?_)
    · have h := (pif_t hc).symm.trans h
      exact hj _ _ _ _ _ h H locs lsA hP hz h0 h1 hr hS hl
    · have h := (pif_f hc).symm.trans h
      have g := hk _ _ _ _ h H locs lsA hP hz h0 h1 hr hS hl; rw [hp] at g; exact g
  next => cases h
set_option maxHeartbeats 1000000 in
theorem okCge {off : Int} {t : Nat} (hd : decode cc (pcOf i) = .ok (.if_icmp .ge off, 3)) (hp : pcOf (i + 1) = pcOf i + 3) (ht : (pcOf i : Int) + off = (pcOf t : Int)) : EOK l cc own nL ret R cap pcOf i (oCge t) := by
  intro p e s m args below meth c D κ α A sz L0 Lm r Qc out C hR ls st w rg k j h hk hj H locs lsA hP hz h0 h1 hr hS hl
  obtain ⟨hx, hb, hml, hown, hts, hret, hlk, hKE, hA, hin, hAk, hfr, hLm⟩ := id C
  unfold oCge at h
  split at h
  next y x st' =>
    refine lv_icmp_ge hx hb hd ht (fun hc => ?_) (fun hc => ?_)
    · have h := (pif_t hc).symm.trans h
      exact hj _ _ _ _ _ h H locs lsA hP hz h0 h1 hr hS hl
    · have h := (pif_f hc).symm.trans h
      have g := hk _ _ _ _ h H locs lsA hP hz h0 h1 hr hS hl; rw [hp] at g; exact g
  next => cases h
set_option maxHeartbeats 1000000 in
theorem okCgt {off : Int} {t : Nat} (hd : decode cc (pcOf i) = .ok (.if_icmp .gt off, 3)) (hp : pcOf (i + 1) = pcOf i + 3) (ht : (pcOf i : Int) + off = (pcOf t : Int)) : EOK l cc own nL ret R cap pcOf i (oCgt t) := by
  intro p e s m args below meth c D κ α A sz L0 Lm r Qc out C hR ls st w rg k j h hk hj H locs lsA hP hz h0 h1 hr hS hl
  obtain ⟨hx, hb, hml, hown, hts, hret, hlk, hKE, hA, hin, hAk, hfr, hLm⟩ := id C
  unfold oCgt at h
  split at h
  next y x st' =>
    refine lv_icmp_gt hx hb hd ht (fun hc => ?_) (fun hc => ?_)
    · have h := (pif_t hc).symm.trans h
      exact hj _ _ _ _ _ h H locs lsA hP hz h0 h1 hr hS hl
    · have h := (pif_f hc).symm.trans h
      have g := hk _ _ _ _ h H locs lsA hP hz h0 h1 hr hS hl; rw [hp] at g; exact g
  next => cases h
set_option maxHeartbeats 1000000 in
theorem okCle {off : Int} {t : Nat} (hd : decode cc (pcOf i) = .ok (.if_icmp .le off, 3)) (hp : pcOf (i + 1) = pcOf i + 3) (ht : (pcOf i : Int) + off = (pcOf t : Int)) : EOK l cc own nL ret R cap pcOf i (oCle t) := by
  intro p e s m args below meth c D κ α A sz L0 Lm r Qc out C hR ls st w rg k j h hk hj H locs lsA hP hz h0 h1 hr hS hl
  obtain ⟨hx, hb, hml, hown, hts, hret, hlk, hKE, hA, hin, hAk, hfr, hLm⟩ := id C
  unfold oCle at h
  split at h
  next y x st' =>
    refine lv_icmp_le hx hb hd ht (fun hc => ?_) (fun hc => ?_)
    · have h := (pif_t hc).symm.trans h
      exact hj _ _ _ _ _ h H locs lsA hP hz h0 h1 hr hS hl
    · have h := (pif_f hc).symm.trans h
      have g := hk _ _ _ _ h H locs lsA hP hz h0 h1 hr hS hl; rw [hp] at g; exact g
  next => cases h
set_option maxHeartbeats 1000000 in
theorem okNonnull {off : Int} (hd : decode cc (pcOf i) = .ok (.ifnull off, 3)) (hp : pcOf (i + 1) = pcOf i + 3) : EOK l cc own nL ret R cap pcOf i oNonnull := by
  intro p e s m args below meth c D κ α A sz L0 Lm r Qc out C hR ls st w rg k j h hk hj H locs lsA hP hz h0 h1 hr hS hl
  obtain ⟨hx, hb, hml, hown, hts, hret, hlk, hKE, hA, hin, hAk, hfr, hLm⟩ := id C
  unfold oNonnull at h
  split at h
  next x st' => have g := hk _ _ _ _ h H locs lsA hP hz h0 h1 hr hS hl; rw [hp] at g; exact lv_ifnull hx hb hd g
  next => cases h
theorem swK_in {R : Type} {x : Int32} {d : Nat} {c : Nat → R} : ∀ {keys : List (Int32 × Nat)}, (∃ q ∈ keys, x = q.1 ∧ swK x keys d c = c q.2) ∨ ((∀ q ∈ keys, ¬ x = q.1) ∧ swK x keys d c = c d)
  | [] => Or.inr ⟨fun q h => absurd h List.not_mem_nil, rfl⟩
  | q :: l => by
    by_cases hx : x = q.1
    · exact Or.inl ⟨q, List.mem_cons_self, hx, pif_t hx⟩
    · rcases swK_in (x := x) (d := d) (c := c) (keys := l) with ⟨y, h1, h2, h3⟩ | ⟨h1, h2⟩
      · exact Or.inl ⟨y, List.mem_cons_of_mem _ h1, h2, (pif_f hx).trans h3⟩
      · exact Or.inr ⟨fun y hy => (List.mem_cons.mp hy).elim (fun e => by rw [e]; exact hx) (h1 y), (pif_f hx).trans h2⟩
set_option maxHeartbeats 1000000 in
theorem okTsw {dflt lo hi : Int} {offs : Array Int} {len : Nat} {keys : List (Int32 × Nat)} {d : Nat} (hd : decode cc (pcOf i) = .ok (.tableswitch dflt lo hi offs, len)) (hks : ∀ q ∈ keys, ¬ q.1.toInt < lo ∧ ¬ hi < q.1.toInt ∧ offs[(q.1.toInt - lo).toNat]? = some ((pcOf q.2 : Int) - (pcOf i : Int))) (hdf : (pcOf i : Int) + dflt = (pcOf d : Int)) (hcv : ∀ z : Int, ¬ z < lo → ¬ hi < z → ∃ q ∈ keys, q.1.toInt = z) : EOK l cc own nL ret R cap pcOf i (oSw keys d) := by
  intro p e s m args below meth c D κ α A sz L0 Lm r Qc out C hR ls st w rg k j h hk hj H locs lsA hP hz h0 h1 hr hS hl
  obtain ⟨hx, hb, hml, hown, hts, hret, hlk, hKE, hA, hin, hAk, hfr, hLm⟩ := id C
  unfold oSw at h
  split at h
  next x st' =>
    rcases swK_in (x := x) (d := d) (c := fun t => j t ls st' w rg) (keys := keys) with ⟨q, h2, h3, h4⟩ | ⟨h2, h3⟩
    · rw [h4] at h
      obtain ⟨k1, k2, k3⟩ := hks q h2
      rw [← h3] at k1 k2 k3
      exact lv_tableIn hx hb hd k1 k2 k3 (by omega) (hj _ _ _ _ _ h H locs lsA hP hz h0 h1 hr hS hl)
    · rw [h3] at h
      refine lv_tableOut hx hb hd ?_ hdf (hj _ _ _ _ _ h H locs lsA hP hz h0 h1 hr hS hl)
      by_cases q1 : x.toInt < lo
      · exact Or.inl q1
      · by_cases q2 : hi < x.toInt
        · exact Or.inr q2
        · obtain ⟨q, q3, q4⟩ := hcv _ q1 q2
          exact absurd (Int32.toInt_inj.mp q4.symm) (h2 q q3)
  next => cases h
theorem ls_off {R : Type} {x : Int32} {dd : Nat} {c : Nat → R} {d : Int} {g : Nat → Int} : ∀ {keys : List (Int32 × Nat)}, (∃ q ∈ keys, swK x keys dd c = c q.2 ∧ Op.lookupswitch.offset (keys.map (fun q => (q.1.toInt, g q.2))) d x.toInt = g q.2) ∨ (swK x keys dd c = c dd ∧ Op.lookupswitch.offset (keys.map (fun q => (q.1.toInt, g q.2))) d x.toInt = d)
  | [] => Or.inr ⟨rfl, rfl⟩
  | q :: l => by
    by_cases hx : x = q.1
    · refine Or.inl ⟨q, List.mem_cons_self, pif_t hx, ?_⟩
      rw [List.map_cons, Op.lookupswitch.offset_cons, if_pos (by rw [hx])]
    · rcases ls_off (x := x) (dd := dd) (c := c) (d := d) (g := g) (keys := l) with ⟨y, h1, h2, h3⟩ | ⟨h1, h2⟩
      · refine Or.inl ⟨y, List.mem_cons_of_mem _ h1, (pif_f hx).trans h2, ?_⟩
        rw [List.map_cons, lv_osw hx rfl]; exact h3
      · refine Or.inr ⟨(pif_f hx).trans h1, ?_⟩
        rw [List.map_cons, lv_osw hx rfl]; exact h2
set_option maxHeartbeats 1000000 in
theorem okLsw {dflt : Int} {ps : Array (Int × Int)} {len : Nat} {keys : List (Int32 × Nat)} {d : Nat} (hd : decode cc (pcOf i) = .ok (.lookupswitch dflt ps, len)) (hso : (ps.toList.zip (ps.toList.drop 1)).all (fun (a, next) => a.1 < next.1) = true) (hks : keys.map (fun q => (q.1.toInt, (pcOf q.2 : Int) - (pcOf i : Int))) = ps.toList) (hdf : (pcOf i : Int) + dflt = (pcOf d : Int)) : EOK l cc own nL ret R cap pcOf i (oSw keys d) := by
  intro p e s m args below meth c D κ α A sz L0 Lm r Qc out C hR ls st w rg k j h hk hj H locs lsA hP hz h0 h1 hr hS hl
  obtain ⟨hx, hb, hml, hown, hts, hret, hlk, hKE, hA, hin, hAk, hfr, hLm⟩ := id C
  unfold oSw at h
  split at h
  next x st' =>
    rcases ls_off (x := x) (dd := d) (c := fun t => j t ls st' w rg) (d := dflt) (g := fun t => (pcOf t : Int) - (pcOf i : Int)) (keys := keys) with ⟨q, h2, h3, h4⟩ | ⟨h3, h4⟩
    · rw [h3] at h
      rw [hks] at h4
      exact lv_lookup hx hb hd hso h4 (by omega) (hj _ _ _ _ _ h H locs lsA hP hz h0 h1 hr hS hl)
    · rw [h3] at h
      rw [hks] at h4
      exact lv_lookup hx hb hd hso h4 hdf (hj _ _ _ _ _ h H locs lsA hP hz h0 h1 hr hS hl)
  next => cases h
set_option maxHeartbeats 1000000 in
theorem okShl (hd : decode cc (pcOf i) = .ok (.ishl, 1)) (hp : pcOf (i + 1) = pcOf i + 1) : EOK l cc own nL ret R cap pcOf i oShl := by
  intro p e s m args below meth c D κ α A sz L0 Lm r Qc out C hR ls st w rg k j h hk hj H locs lsA hP hz h0 h1 hr hS hl
  obtain ⟨hx, hb, hml, hown, hts, hret, hlk, hKE, hA, hin, hAk, hfr, hLm⟩ := id C
  unfold oShl at h
  split at h
  next y x st' => have g := hk _ _ _ _ h H locs lsA hP hz h0 h1 hr hS hl; rw [hp] at g; exact lv_ishl hx hb hd g
  next => cases h
set_option maxHeartbeats 1000000 in
theorem okShr (hd : decode cc (pcOf i) = .ok (.ishr, 1)) (hp : pcOf (i + 1) = pcOf i + 1) : EOK l cc own nL ret R cap pcOf i oShr := by
  intro p e s m args below meth c D κ α A sz L0 Lm r Qc out C hR ls st w rg k j h hk hj H locs lsA hP hz h0 h1 hr hS hl
  obtain ⟨hx, hb, hml, hown, hts, hret, hlk, hKE, hA, hin, hAk, hfr, hLm⟩ := id C
  unfold oShr at h
  split at h
  next y x st' => have g := hk _ _ _ _ h H locs lsA hP hz h0 h1 hr hS hl; rw [hp] at g; exact lv_ishr hx hb hd g
  next => cases h
end ST
end
