noncomputable section
/-! FRAMES: a callee is handed the cells that its arguments reach; what it leaves is put back -/
def rg00 : pRg := (0, fun _ _ _ => 0)
def nats : List Nat := [0, 1, 2, 3, 4, 5, 6, 7, 8, 9, 10, 11, 12, 13, 14, 15, 16, 17, 18, 19, 20, 21, 22, 23, 24, 25, 26, 27, 28, 29, 30, 31, 32, 33, 34, 35, 36, 37, 38, 39, 40, 41, 42, 43, 44, 45, 46, 47, 48, 49, 50, 51, 52, 53, 54, 55, 56, 57, 58, 59, 60, 61, 62, 63]
def lk {X : Type} : List (Nat × Nat) → Nat → (Nat → Option X) → Option X
  | [], _, _ => none
  | q :: t, p, c => match Nat.beq q.1 p with
    | true => c q.2
    | false => lk t p c
def rnV {X : Type} (t : List (Nat × Nat)) (v : Value) (c : Value → Option X) : Option X := match v with
  | .ref p => match Nat.ble 1000000 p with
    | true => c (.ref p)
    | false => lk t p (fun j => c (.ref j))
  | .int x => c (.int x)
  | .null => c .null
  | _ => none
def rnL {X : Type} (t : List (Nat × Nat)) : List Value → (List Value → Option X) → Option X
  | [], c => c []
  | v :: l, c => rnV t v (fun v' => rnL t l (fun l' => c (v' :: l')))
def rnE {X : Type} (t : List (Nat × Nat)) (e : va_E) (c : va_E → Option X) : Option X := match e with
  | .inr (i, fs) => rnL t fs (fun fs' => c (.inr (i, fs')))
  | .inl (k, n, .inl f) => c (.inl (k, n, .inl f))
  | _ => none
def rnW {X : Type} (t : List (Nat × Nat)) : pWd → (pWd → Option X) → Option X
  | [], c => c []
  | e :: w, c => rnE t e (fun e' => rnW t w (fun w' => c (e' :: w')))
def zipK {X : Type} : List Nat → List Nat → (List (Nat × Nat) → X) → X
  | a :: l, b :: m, c => zipK l m (fun t => c ((a, b) :: t))
  | _, _, c => c []
def getsK {X : Type} (w : pWd) : List Nat → (pWd → Option X) → Option X
  | [], c => c []
  | p :: π, c => match wget w p with
    | some e => getsK w π (fun w' => c (e :: w'))
    | none => none
def scatK {X : Type} : pWd → List Nat → pWd → (pWd → X) → X
  | w, p :: π, e :: es, c => wsetK w p e (fun w' => scatK w' π es c)
  | w, _, _, c => c w
def memB : Nat → List Nat → Bool
  | _, [] => false
  | a, b :: l => match Nat.beq a b with
    | true => true
    | false => memB a l
def ndB : List Nat → Bool
  | [] => true
  | a :: l => match memB a l with
    | true => false
    | false => ndB l
/-- the references of values that are no constants -/
def refsK {X : Type} : List Value → (List Nat → X) → X
  | [], c => c []
  | .ref p :: l, c => match Nat.ble 1000000 p with
    | true => refsK l c
    | false => refsK l (fun r => c (p :: r))
  | _ :: l, c => refsK l c
def appK {X : Type} : List Nat → List Nat → (List Nat → X) → X
  | [], m, c => c m
  | a :: l, m, c => appK l m (fun r => c (a :: r))
/-- the places that are reached, each once, in the order of the fields (acc: those found, the last first) -/
def reachK {X : Type} (w : pWd) : Nat → List Nat → List Nat → (List Nat → Option X) → Option X
  | 0, _, _, _ => none
  | _ + 1, [], acc, c => appK [] acc c
  | n + 1, p :: ps, acc, c => match memB p acc with
    | true => reachK w n ps acc c
    | false => match wget w p with
      | some (.inr (_, fs)) => refsK fs (fun r => appK r ps (fun ps' => appK acc [p] (fun acc' => reachK w n ps' acc' c)))
      | some (.inl _) => appK acc [p] (fun acc' => reachK w n ps acc' c)
      | none => none
abbrev pG : Type := List Value → pWd → Option (Option Value × pWd)
def rnO {X : Type} (t : List (Nat × Nat)) (v : Option Value) (c : Option Value → Option X) : Option X := match v with
  | none => c none
  | some u => rnV t u (fun u' => c (some u'))
def frN (G : pG) : pF := fun args w rg => refsK args (fun r => reachK w 60 r [] (fun π => match ndB π with
  | false => none
  | true => getsK w π (fun cells => zipK π nats (fun t => rnL t args (fun args0 => rnW t cells (fun w0 => match G args0 w0 with
    | none => none
    | some (v0, w1) => match Nat.beq w1.length w0.length with
      | false => none
      | true => zipK nats π (fun t' => rnW t' w1 (fun w1' => rnO t' v0 (fun v => scatK w π w1' (fun w' => some (v, w', rg)))))))))))
theorem lk_some {X : Type} : ∀ {t : List (Nat × Nat)} {p : Nat} {c : Nat → Option X} {o : X}, lk t p c = some o → ∃ j, (p, j) ∈ t ∧ c j = some o
  | [], _, _, _, h => by cases h
  | q :: t, p, c, o, h => by
    unfold lk at h
    split at h
    next hb =>
      have := Nat.eq_of_beq_eq_true hb
      exact ⟨q.2, by rw [← this]; exact List.mem_cons_self, h⟩
    next =>
      obtain ⟨j, h1, h2⟩ := lk_some h
      exact ⟨j, List.mem_cons_of_mem _ h1, h2⟩
section RN
variable {X : Type} {ρ : Nat → Nat} {t : List (Nat × Nat)}
theorem rnV_some (h1 : ∀ q ∈ t, ρ q.2 = q.1) (h2 : ∀ k, 1000000 ≤ k → ρ k = k) {v : Value} {c : Value → Option X} {o : X} (h : rnV t v c = some o) : ∃ v0, cv ρ v0 = v ∧ c v0 = some o := by
  unfold rnV at h
  split at h
  next p =>
    split at h
    next hb => exact ⟨.ref p, by show Value.ref (ρ p) = _; rw [h2 p (Nat.le_of_ble_eq_true hb)], h⟩
    next =>
      obtain ⟨j, k1, k2⟩ := lk_some h
      exact ⟨.ref j, by show Value.ref (ρ j) = _; rw [h1 _ k1], k2⟩
  next x => exact ⟨.int x, rfl, h⟩
  next => exact ⟨.null, rfl, h⟩
  next => cases h
theorem rnL_some (h1 : ∀ q ∈ t, ρ q.2 = q.1) (h2 : ∀ k, 1000000 ≤ k → ρ k = k) : ∀ {l : List Value} {c : List Value → Option X} {o : X}, rnL t l c = some o → ∃ l0, l0.map (cv ρ) = l ∧ c l0 = some o
  | [], c, o, h => ⟨[], rfl, h⟩
  | v :: l, c, o, h => by
    obtain ⟨v0, k1, k2⟩ := rnV_some h1 h2 h
    obtain ⟨l0, k3, k4⟩ := rnL_some h1 h2 k2
    exact ⟨v0 :: l0, by rw [List.map_cons, k1, k3], k4⟩
theorem rnE_some (h1 : ∀ q ∈ t, ρ q.2 = q.1) (h2 : ∀ k, 1000000 ≤ k → ρ k = k) {x : va_E} {c : va_E → Option X} {o : X} (h : rnE t x c = some o) : ∃ x0, re ρ x0 = x ∧ c x0 = some o := by
  unfold rnE at h
  split at h
  next i fs =>
    obtain ⟨l0, k1, k2⟩ := rnL_some h1 h2 h
    exact ⟨.inr (i, l0), by show Sum.inr (i, l0.map (cv ρ)) = _; rw [k1], k2⟩
  next k n f => exact ⟨.inl (k, n, .inl f), rfl, h⟩
  next => cases h
theorem rnW_some (h1 : ∀ q ∈ t, ρ q.2 = q.1) (h2 : ∀ k, 1000000 ≤ k → ρ k = k) : ∀ {l : pWd} {c : pWd → Option X} {o : X}, rnW t l c = some o → ∃ l0, l0.map (re ρ) = l ∧ c l0 = some o
  | [], c, o, h => ⟨[], rfl, h⟩
  | v :: l, c, o, h => by
    obtain ⟨v0, k1, k2⟩ := rnE_some h1 h2 h
    obtain ⟨l0, k3, k4⟩ := rnW_some h1 h2 k2
    exact ⟨v0 :: l0, by rw [List.map_cons, k1, k3], k4⟩
theorem rnV_back (h1 : ∀ q ∈ t, ρ q.1 = q.2) (h2 : ∀ k, 1000000 ≤ k → ρ k = k) {v : Value} {c : Value → Option X} {o : X} (h : rnV t v c = some o) : c (cv ρ v) = some o := by
  unfold rnV at h
  split at h
  next p =>
    split at h
    next hb => show c (.ref (ρ p)) = _; rw [h2 p (Nat.le_of_ble_eq_true hb)]; exact h
    next =>
      obtain ⟨j, k1, k2⟩ := lk_some h
      show c (.ref (ρ p)) = _
      rw [h1 _ k1]; exact k2
  next x => exact h
  next => exact h
  next => cases h
theorem rnL_back (h1 : ∀ q ∈ t, ρ q.1 = q.2) (h2 : ∀ k, 1000000 ≤ k → ρ k = k) : ∀ {l : List Value} {c : List Value → Option X} {o : X}, rnL t l c = some o → c (l.map (cv ρ)) = some o
  | [], c, o, h => h
  | v :: l, c, o, h => by
    have k2 := rnV_back h1 h2 h
    exact rnL_back (l := l) (c := fun l' => c (cv ρ v :: l')) h1 h2 k2
theorem rnE_back (h1 : ∀ q ∈ t, ρ q.1 = q.2) (h2 : ∀ k, 1000000 ≤ k → ρ k = k) {x : va_E} {c : va_E → Option X} {o : X} (h : rnE t x c = some o) : c (re ρ x) = some o := by
  unfold rnE at h
  split at h
  next i fs => exact rnL_back h1 h2 h
  next k n f => exact h
  next => cases h
theorem rnW_back (h1 : ∀ q ∈ t, ρ q.1 = q.2) (h2 : ∀ k, 1000000 ≤ k → ρ k = k) : ∀ {l : pWd} {c : pWd → Option X} {o : X}, rnW t l c = some o → c (l.map (re ρ)) = some o
  | [], c, o, h => h
  | v :: l, c, o, h => by
    have k2 := rnE_back h1 h2 h
    exact rnW_back (l := l) (c := fun l' => c (re ρ v :: l')) h1 h2 k2
theorem rnO_back (h1 : ∀ q ∈ t, ρ q.1 = q.2) (h2 : ∀ k, 1000000 ≤ k → ρ k = k) {v : Option Value} {c : Option Value → Option X} {o : X} (h : rnO t v c = some o) : c (v.map (cv ρ)) = some o := by
  unfold rnO at h
  split at h
  next => exact h
  next u => exact rnV_back h1 h2 h
end RN
theorem zipK_eq {X : Type} : ∀ (l m : List Nat) (c : List (Nat × Nat) → X), zipK l m c = c (l.zip m)
  | [], _, _ => by unfold zipK; rfl
  | _ :: _, [], _ => by unfold zipK; rfl
  | a :: l, b :: m, c => by
    show zipK l m (fun t => c ((a, b) :: t)) = _
    rw [zipK_eq l m]; rfl
theorem getsK_some {X : Type} {w : pWd} : ∀ {π : List Nat} {c : pWd → Option X} {o : X}, getsK w π c = some o → ∃ cells, cells.length = π.length ∧ (∀ j x, wget cells j = some x → ∃ p, π[j]? = some p ∧ wget w p = some x) ∧ c cells = some o
  | [], c, o, h => ⟨[], rfl, fun j x hx => (by cases hx), h⟩
  | p :: π, c, o, h => by
    unfold getsK at h
    split at h
    next x hx =>
      obtain ⟨cells, k1, k2, k3⟩ := getsK_some h
      refine ⟨x :: cells, by simp [k1], fun j y hy => ?_, k3⟩
      cases j with
      | zero => exact ⟨p, rfl, by rw [hx]; exact hy⟩
      | succ j =>
        obtain ⟨q, z1, z2⟩ := k2 j y hy
        exact ⟨q, by simpa using z1, z2⟩
    next => cases h
def scat (w : pWd) (π : List Nat) (es : pWd) : pWd := scatK w π es (fun w' => w')
theorem scatK_eq {X : Type} : ∀ (w : pWd) (π : List Nat) (es : pWd) (c : pWd → X), scatK w π es c = c (scat w π es)
  | w, [], _, c => by unfold scat scatK; rfl
  | w, _ :: _, [], c => by unfold scat scatK; rfl
  | w, p :: π, x :: es, c => by
    show wsetK w p x (fun w' => scatK w' π es c) = c (wsetK w p x (fun w' => scatK w' π es (fun w' => w')))
    rw [wsetK_eq, wsetK_eq, scatK_eq _ π es c]
    rfl
theorem scat_cons (w : pWd) (p : Nat) (π : List Nat) (x : va_E) (es : pWd) : scat w (p :: π) (x :: es) = scat (wset w p x) π es := by
  show wsetK w p x (fun w' => scatK w' π es (fun w' => w')) = _
  rw [wsetK_eq]; rfl
theorem memB_mem : ∀ {a : Nat} {l : List Nat}, memB a l = false → a ∉ l
  | _, [], _ => List.not_mem_nil
  | a, b :: l, h => by
    unfold memB at h
    split at h
    next => cases h
    next hb =>
      intro hm
      rcases List.mem_cons.mp hm with rfl | hm
      · rw [Nat.beq_refl] at hb; cases hb
      · exact memB_mem h hm
theorem ndB_nd : ∀ {l : List Nat}, ndB l = true → l.Nodup
  | [], _ => List.nodup_nil
  | a :: l, h => by
    unfold ndB at h
    split at h
    next => cases h
    next hb => exact List.nodup_cons.mpr ⟨memB_mem hb, ndB_nd h⟩
theorem scat_spec : ∀ (π : List Nat) (w es : pWd), π.length = es.length → π.Nodup → (∀ p ∈ π, p < w.length) →
    (scat w π es).length = w.length ∧ (∀ j p x, π[j]? = some p → wget es j = some x → wget (scat w π es) p = some x) ∧ (∀ k, k ∉ π → wget (scat w π es) k = wget w k)
  | [], w, es, _, _, _ => by
    have : scat w [] es = w := by unfold scat scatK; rfl
    rw [this]
    exact ⟨rfl, fun j p x h _ => by simp at h, fun k _ => rfl⟩
  | p0 :: π, w, [], h, _, _ => by simp at h
  | p0 :: π, w, x0 :: es, h, hn, hl => by
    rw [scat_cons]
    obtain ⟨hn1, hn2⟩ := List.nodup_cons.mp hn
    obtain ⟨k1, k2, k3⟩ := scat_spec π (wset w p0 x0) es (by simpa using h) hn2 (fun p hp => by rw [wset_len]; exact hl p (List.mem_cons_of_mem _ hp))
    obtain ⟨y0, hy0⟩ := wget_ex (hl p0 List.mem_cons_self)
    refine ⟨by rw [k1, wset_len], fun j p x hj hx => ?_, fun k hk => ?_⟩
    · cases j with
      | zero =>
        cases hj
        cases hx
        rw [k3 p0 hn1, wget_wset x0 p0 hy0, if_pos rfl]
      | succ j => exact k2 j p x (by simpa using hj) hx
    · have q1 : k ∉ π := fun z => hk (List.mem_cons_of_mem _ z)
      have q2 : ¬ k = p0 := fun z => hk (by rw [z]; exact List.mem_cons_self)
      rw [k3 k q1, wget_wset x0 k hy0, if_neg q2]
theorem cellOf_00 {w : pWd} {j : Nat} {x : va_E} (h : cellOf w rg00 j = some x) : wget w j = some x := by
  unfold cellOf at h
  split at h
  next y hy => rw [hy]; exact h
  next =>
    unfold rgCell at h
    split at h
    next hh => have : rg00.1 = 0 := rfl; omega
    next => cases h
theorem wget_map {ρ : Nat → Nat} : ∀ {w : pWd} {j : Nat}, wget (w.map (re ρ)) j = (wget w j).map (re ρ)
  | [], _ => rfl
  | _ :: _, 0 => rfl
  | _ :: w, j + 1 => wget_map (w := w) (j := j)
theorem nats_at : ∀ j, j < 64 → nats[j]? = some j := by decide
theorem zip_nats {π : List Nat} (h : π.length ≤ 64) {q : Nat × Nat} (hq : q ∈ π.zip nats) : π[q.2]? = some q.1 := by
  obtain ⟨i, hi⟩ := List.getElem?_of_mem hq
  rw [List.getElem?_zip_eq_some] at hi
  have hl : i < π.length := (List.getElem?_eq_some_iff.mp hi.1).1
  have := nats_at i (by omega)
  rw [this] at hi
  have e := Option.some.inj hi.2
  rw [← e]; exact hi.1
theorem zip_nats' {π : List Nat} (h : π.length ≤ 64) {q : Nat × Nat} (hq : q ∈ nats.zip π) : π[q.1]? = some q.2 := by
  obtain ⟨i, hi⟩ := List.getElem?_of_mem hq
  rw [List.getElem?_zip_eq_some] at hi
  have hl : i < π.length := (List.getElem?_eq_some_iff.mp hi.2).1
  have := nats_at i (by omega)
  rw [this] at hi
  have e := Option.some.inj hi.1
  rw [← e]; exact hi.2
theorem refsK_eq {X : Type} : ∀ (l : List Value) (c : List Nat → X), ∃ r, refsK l c = c r
  | [], c => ⟨[], rfl⟩
  | v :: l, c => by
    cases v with
    | ref p =>
      unfold refsK
      split
      · exact refsK_eq l c
      · obtain ⟨r, hr⟩ := refsK_eq l (fun r => c (p :: r))
        exact ⟨p :: r, hr⟩
    | _ => exact refsK_eq l c
theorem appK_eq {X : Type} : ∀ (l m : List Nat) (c : List Nat → X), appK l m c = c (l ++ m)
  | [], _, _ => rfl
  | a :: l, m, c => by
    show appK l m (fun r => c (a :: r)) = _
    rw [appK_eq l m]; rfl
theorem reachK_some {X : Type} {w : pWd} : ∀ {n : Nat} {ps acc : List Nat} {c : List Nat → Option X} {o : X}, (∀ p ∈ acc, p < w.length) → reachK w n ps acc c = some o → ∃ π, (∀ p ∈ π, p < w.length) ∧ c π = some o
  | 0, _, _, _, _, _, h => by cases h
  | n + 1, [], acc, c, o, ha, h => ⟨acc, ha, h⟩
  | n + 1, p :: ps, acc, c, o, ha, h => by
    unfold reachK at h
    split at h
    next => exact reachK_some ha h
    next =>
      split at h
      next k fs hw =>
        obtain ⟨r, hr⟩ := refsK_eq fs (fun r => appK r ps (fun ps' => appK acc [p] (fun acc' => reachK w n ps' acc' c)))
        rw [hr, appK_eq, appK_eq] at h
        refine reachK_some (fun q hq => ?_) h
        rcases List.mem_append.mp hq with z | z
        · exact ha q z
        · rw [List.mem_singleton.mp z]; exact wget_lt hw
      next hw =>
        rw [appK_eq] at h
        refine reachK_some (fun q hq => ?_) h
        rcases List.mem_append.mp hq with z | z
        · exact ha q z
        · rw [List.mem_singleton.mp z]; exact wget_lt hw
      next => cases h
theorem nd_inj {l : List Nat} (h : l.Nodup) {j j' p : Nat} (h1 : l[j]? = some p) (h2 : l[j']? = some p) : j = j' := by
  obtain ⟨a1, a2⟩ := List.getElem?_eq_some_iff.mp h1
  obtain ⟨b1, b2⟩ := List.getElem?_eq_some_iff.mp h2
  have hp := List.pairwise_iff_getElem.mp h
  rcases Nat.lt_trichotomy j j' with z | z | z
  · exact absurd (a2.trans b2.symm) (hp j j' a1 b1 z)
  · exact z
  · exact absurd (b2.trans a2.symm) (hp j' j b1 a1 z)
/-- a callee that is handed what its arguments reach -/
theorem fr_spec {G : pG} (hs : ∀ args0 w0 v0 w1, G args0 w0 = some (v0, w1) → w0.length ≤ 64) {args : List Value} {w : pWd} {rg : pRg} {v : Option Value} {w' : pWd} {rg' : pRg} (h : frN G args w rg = some (v, w', rg')) :
    ∃ (ρ : Nat → Nat) (args0 : List Value) (w0 : pWd) (v0 : Option Value) (w1 : pWd), G args0 w0 = some (v0, w1) ∧ pFr ρ w rg w0 rg00 w1 rg00 w' rg' ∧ args0.map (cv ρ) = args ∧ v = v0.map (cv ρ) := by
  unfold frN at h
  obtain ⟨r, hr⟩ := refsK_eq args (fun r => reachK w 60 r [] (fun π => match ndB π with
  | false => none
  | true => getsK w π (fun cells => zipK π nats (fun t => rnL t args (fun args0 => rnW t cells (fun w0 => match G args0 w0 with
    | none => none
    | some (v0, w1) => match Nat.beq w1.length w0.length with
      | false => none
      | true => zipK nats π (fun t' => rnW t' w1 (fun w1' => rnO t' v0 (fun v => scatK w π w1' (fun w' => some (v, w', rg)))))))))))
  rw [hr] at h
  obtain ⟨π, hπ, h⟩ := reachK_some (fun p hp => absurd hp List.not_mem_nil) h
  split at h
  next => cases h
  next hnd =>
    have hnd := ndB_nd hnd
    obtain ⟨cells, hc1, hc2, h⟩ := getsK_some h
    rw [zipK_eq] at h
    by_cases hl : π.length ≤ 64
    · have hρ0 : ∃ ρ : Nat → Nat, (∀ j p, π[j]? = some p → ρ j = p) ∧ ∀ k, π.length ≤ k → ρ k = k := by
        refine ⟨fun j => if h : j < π.length then π[j] else j, fun j p hj => ?_, fun k hk => ?_⟩
        · have h1 := (List.getElem?_eq_some_iff.mp hj)
          obtain ⟨h2, h3⟩ := h1
          show (if h : j < π.length then π[j] else j) = p
          rw [dif_pos h2]; exact h3
        · show (if h : k < π.length then π[k] else k) = k
          rw [dif_neg (by omega)]
      obtain ⟨ρ, hρ, hρ2⟩ := hρ0
      have hb : ∀ k, 1000000 ≤ k → ρ k = k := fun k hk => hρ2 k (by omega)
      have ht : ∀ q ∈ π.zip nats, ρ q.2 = q.1 := fun q hq => hρ _ _ (zip_nats hl hq)
      have ht' : ∀ q ∈ nats.zip π, ρ q.1 = q.2 := fun q hq => hρ _ _ (zip_nats' hl hq)
      obtain ⟨args0, ha1, h⟩ := rnL_some ht hb h
      obtain ⟨w0, hw1, h⟩ := rnW_some ht hb h
      split at h
      next => cases h
      next v0 w1 hg =>
        split at h
        next => cases h
        next hlen =>
          have hlen : w1.length = w0.length := Nat.eq_of_beq_eq_true hlen
          rw [zipK_eq] at h
          have h := rnW_back ht' hb h
          have h := rnO_back ht' hb h
          rw [scatK_eq] at h
          cases h
          have hw0 : w0.length = π.length := by
            have := congrArg List.length hw1
            rw [List.length_map] at this
            omega
          obtain ⟨s1, s2, s3⟩ := scat_spec π w (w1.map (re ρ)) (by rw [List.length_map]; omega) hnd hπ
          have hdm : ∀ {n j}, pDm n rg00.1 j → j < n := fun {n j} hj => by
            rcases hj with z | z
            · exact z
            · have : rg00.1 = 0 := rfl
              omega
          have hat : ∀ j, j < π.length → ∃ p, π[j]? = some p ∧ ρ j = p ∧ p < w.length := fun j hj => by
            have h1 : π[j]? = some π[j] := List.getElem?_eq_getElem hj
            exact ⟨π[j], h1, hρ j _ h1, hπ _ (List.getElem_mem hj)⟩
          refine ⟨ρ, args0, w0, v0, w1, hg, ⟨fun j x hj => ?_, fun j j' hj hj' e => ?_, fun j hj => ?_, fun j h1 h2 => by omega, fun k x hk => ?_, fun q hq => hb _ ?_, by rw [s1]; omega, rfl⟩, ha1, rfl⟩
          · have h1 := cellOf_00 hj
            have h2 : wget cells j = some (re ρ x) := by rw [← hw1, wget_map, h1]; rfl
            obtain ⟨p, h3, h4⟩ := hc2 j _ h2
            rw [hρ j p h3]
            exact cellOf_get h4
          · obtain ⟨p, q1, q2, q3⟩ := hat j (by have := hdm hj; omega)
            obtain ⟨p', q1', q2', q3'⟩ := hat j' (by have := hdm hj'; omega)
            rw [q2, q2'] at e
            rw [e] at q1
            exact nd_inj hnd q1 q1'
          · obtain ⟨p, q1, q2, q3⟩ := hat j (by have := hdm hj; omega)
            rw [q2]; exact Or.inl q3
          · by_cases hk0 : k ∈ π
            · obtain ⟨j, hj⟩ := List.getElem?_of_mem hk0
              have hjl : j < w1.length := by have := (List.getElem?_eq_some_iff.mp hj).1; omega
              obtain ⟨x0, hx0⟩ := wget_ex hjl
              have h1 : wget (scat w π (w1.map (re ρ))) k = some (re ρ x0) := s2 j k _ hj (by rw [wget_map, hx0]; rfl)
              rw [cellOf_get h1] at hk
              cases hk
              exact Or.inl ⟨j, x0, Or.inl hjl, (hρ j k hj).symm, cellOf_get hx0, rfl⟩
            · refine Or.inr ⟨?_, fun j hj e => ?_⟩
              · unfold cellOf at hk ⊢
                rw [s3 k hk0] at hk
                exact hk
              · obtain ⟨p, q1, q2, q3⟩ := hat j (by have := hdm hj; omega)
                rw [q2] at e
                rw [e] at q1
                exact hk0 (List.mem_of_getElem? q1)
          · simp only [pStat, List.mem_cons, List.not_mem_nil, or_false] at hq
            rcases hq with rfl | rfl | rfl <;> decide
    · exfalso
      -- the callee's picture is as long as π
      have hρ0 : ∃ ρ : Nat → Nat, (∀ q ∈ π.zip nats, ρ q.2 = q.1) ∧ ∀ k, 1000000 ≤ k → ρ k = k := by
        refine ⟨fun j => if h : j < π.length ∧ j < 64 then π[j]'h.1 else j, fun q hq => ?_, fun k hk => ?_⟩
        · obtain ⟨i, hi⟩ := List.getElem?_of_mem hq
          rw [List.getElem?_zip_eq_some] at hi
          have h1 := (List.getElem?_eq_some_iff.mp hi.1)
          have h2 : i < 64 := (List.getElem?_eq_some_iff.mp hi.2).1
          have h3 := nats_at i h2
          rw [h3] at hi
          have e := Option.some.inj hi.2
          rw [← e]
          obtain ⟨z1, z2⟩ := h1
          show (if h : i < π.length ∧ i < 64 then π[i]'h.1 else i) = _
          rw [dif_pos ⟨z1, h2⟩]; exact z2
        · show (if h : k < π.length ∧ k < 64 then π[k]'h.1 else k) = k
          rw [dif_neg (by omega)]
      obtain ⟨ρ, ht, hb⟩ := hρ0
      obtain ⟨args0, ha1, h⟩ := rnL_some ht hb h
      obtain ⟨w0, hw1, h⟩ := rnW_some ht hb h
      split at h
      next => cases h
      next v0 w1 hg =>
        have h1 := hs _ _ _ _ hg
        have := congrArg List.length hw1
        rw [List.length_map] at this
        omega
theorem pFOK_fr {l : Launch} {y : MethodName} {ws : List Cond} {rm : Room} {G : pG} (hG : ∀ args0 w0 v0 w1, G args0 w0 = some (v0, w1) → pCT l y ws rm args0 w0 rg00 (v0, w1, rg00)) (hs : ∀ args0 w0 v0 w1, G args0 w0 = some (v0, w1) → w0.length ≤ 64) : pFOK l y ws rm (frN G) := by
  intro args w rg v w' rg' h
  obtain ⟨ρ, args0, w0, v0, w1, h1, h2, h3, h4⟩ := fr_spec hs h
  exact ⟨ρ, args0, w0, rg00, v0, w1, rg00, hG _ _ _ _ h1, h2, h3, h4⟩
/-- .. and its receiver -/
theorem pRcv_fr {ci : Nat} {G : pG} (hs : ∀ args0 w0 v0 w1, G args0 w0 = some (v0, w1) → w0.length ≤ 64) (hr : ∀ args0 w0 v0 w1, G args0 w0 = some (v0, w1) → ∃ a as' fs, args0 = .ref a :: as' ∧ wget w0 a = some (.inr (ci, fs))) : pRcv ci (frN G) := by
  intro args w rg o h
  obtain ⟨v, w', rg'⟩ := o
  obtain ⟨ρ, args0, w0, v0, w1, h1, h2, h3, h4⟩ := fr_spec hs h
  obtain ⟨a, as', fs, rfl, hw⟩ := hr _ _ _ _ h1
  exact ⟨ρ a, as'.map (cv ρ), fs.map (cv ρ), h3.symm, h2.1 a _ (cellOf_get hw)⟩
/-- a callee that is handed all -/
theorem cv_id (v : Value) : cv (fun k => k) v = v := by cases v <;> rfl
theorem re_id (x : va_E) : re (fun k => k) x = x := by
  rcases x with ⟨c, n, a⟩ | ⟨i, fs⟩
  · rcases a with f | f | f | f | f <;> try rfl
    show Sum.inl (c, n, Sum.inr (Sum.inr (Sum.inr (Sum.inr (fun i => (f i).map (fun k => k)))))) = _
    have : (fun i => (f i).map (fun k => k)) = f := by funext i; cases f i <;> rfl
    rw [this]
  · show Sum.inr (i, fs.map (cv (fun k => k))) = _
    have : fs.map (cv (fun k => k)) = fs := by
      rw [show fs.map (cv (fun k => k)) = fs.map (fun v => v) from List.map_congr_left fun v _ => cv_id v]
      simp
    rw [this]
theorem pFOK_all {l : Launch} {y : MethodName} {ws : List Cond} {rm : Room} {F : pF} (hF : ∀ args w rg v w' rg', F args w rg = some (v, w', rg') → pCT l y ws rm args w rg (v, w', rg')) : pFOK l y ws rm F := by
  intro args w rg v w' rg' h
  have hc := hF _ _ _ _ _ _ h
  obtain ⟨c1, c2, c3, -⟩ := id hc
  dsimp only at c1 c2 c3
  refine ⟨fun k => k, args, w, rg, v, w', rg', hc, ⟨fun j x hj => by rw [re_id]; exact hj, fun j j' _ _ e => e, fun j hj => hj, fun j h1 h2 => (by show j = _; omega), fun k x hk => Or.inl ⟨k, x, ?_, rfl, hk, (re_id x).symm⟩, fun _ _ => rfl, by omega, c1⟩, ?_, ?_⟩
  · rcases cellOf_dom hk with z | z
    · exact Or.inl z
    · exact Or.inr (by rw [← c1]; exact z)
  · rw [show args.map (cv (fun k => k)) = args.map (fun v => v) from List.map_congr_left fun v _ => cv_id v]
    simp
  · cases v with
    | none => rfl
    | some x => exact congrArg some (cv_id x).symm
def AllOK (P : Nat → pEn → Prop) : Nat → List pEn → Prop
  | _, [] => True
  | b, en :: es => P b en ∧ AllOK P (b + 1) es
theorem allOK_b {P : Nat → pEn → Prop} : ∀ {k : List pEn} {b : Nat}, AllOK P b k → ∀ (i : Nat) (en : pEn), k[i]? = some en → P (b + i) en
  | [], _, _, i, en, h => by simp at h
  | x :: k, b, h, 0, en, he => by
    simp at he
    subst he
    exact h.1
  | x :: k, b, h, i + 1, en, he => by
    have := allOK_b (k := k) (b := b + 1) h.2 i en (by simpa using he)
    rw [show b + (i + 1) = b + 1 + i by omega]
    exact this
theorem allOK_at {P : Nat → pEn → Prop} {k : List pEn} (h : AllOK P 0 k) (i : Nat) (en : pEn) (he : k[i]? = some en) : P i en := by
  have := allOK_b h i en he
  rw [Nat.zero_add] at this
  exact this
/-- F of a callee that is handed all, out of G -/
def faN (G : pG) : pF := fun args w rg => match G args w with
  | some (v, w') => some (v, w', rg)
  | none => none
theorem faN_some {G : pG} {args : List Value} {w : pWd} {rg : pRg} {v : Option Value} {w' : pWd} {rg' : pRg} (h : faN G args w rg = some (v, w', rg')) : G args w = some (v, w') ∧ rg' = rg := by
  unfold faN at h
  split at h
  next a b hg => cases h; exact ⟨hg, rfl⟩
  next => cases h
theorem pFOK_fa {l : Launch} {y : MethodName} {ws : List Cond} {rm : Room} {G : pG} (hG : ∀ args0 w0 v0 w1 rg, G args0 w0 = some (v0, w1) → pCT l y ws rm args0 w0 rg (v0, w1, rg)) : pFOK l y ws rm (faN G) := by
  refine pFOK_all fun args w rg v w' rg' h => ?_
  obtain ⟨h1, rfl⟩ := faN_some h
  exact hG _ _ _ _ _ h1
theorem pRcv_fa {ci : Nat} {G : pG} (hr : ∀ args0 w0 v0 w1, G args0 w0 = some (v0, w1) → ∃ a as' fs, args0 = .ref a :: as' ∧ wget w0 a = some (.inr (ci, fs))) : pRcv ci (faN G) := by
  intro args w rg o h
  obtain ⟨v, w', rg'⟩ := o
  obtain ⟨h1, rfl⟩ := faN_some h
  obtain ⟨a, as', fs, e1, hw⟩ := hr _ _ _ _ h1
  exact ⟨a, as', fs, e1, cellOf_get hw⟩
theorem ex_pos {code : List pEn} {n i : Nat} {ls : pLs} {st : pSt} {w : pWd} {rg : pRg} {o : pOut} (h : ex code n i ls st w rg = some o) : ∃ m, n = m + 1 := by
  cases n with
  | zero => cases h
  | succ m => exact ⟨m, rfl⟩
/-- rows of ints count within their length alone -/
def pEq (x y : va_E) : Prop := x = y ∨ ∃ (c n : Nat) (f g : Nat → Int32), x = .inl (c, n, .inl f) ∧ y = .inl (c, n, .inl g) ∧ ∀ j, j < n → f j = g j
theorem pEq.at {D : va_G} {κ : pKap} {α : Nat → Nat} {x y : va_E} (h : pEq x y) {a : Nat} {H : Heap} (hx : va_at D vwCl (a, ce κ α x) H) : va_at D vwCl (a, ce κ α y) H := by
  rcases h with rfl | ⟨c, n, f, g, rfl, rfl, hj⟩
  · exact hx
  · have e : vp_cell (κ c) (n, .inl f) = vp_cell (κ c) (n, .inl g) := by
      rw [vp_cell_i, vp_cell_i]
      unfold arrV
      congr 2
      funext j
      exact congrArg Value.int (hj j.val j.isLt)
    show H[a]? = some (vp_cell (κ c) (n, .inl g))
    rw [← e]; exact hx
def pWEq (w w' : pWd) : Prop := w'.length = w.length ∧ ∀ k x, wget w' k = some x → ∃ y, wget w k = some y ∧ pEq y x
theorem pWEq.cell {w w' : pWd} (h : pWEq w w') {rg : pRg} {k : Nat} {x : va_E} (hx : cellOf w' rg k = some x) : ∃ y, cellOf w rg k = some y ∧ pEq y x := by
  unfold cellOf at hx ⊢
  split at hx
  next z hz =>
    cases hx
    obtain ⟨y, h1, h2⟩ := h.2 k x hz
    rw [h1]
    exact ⟨y, rfl, h2⟩
  next hz =>
    have : wget w k = none := by
      cases e : wget w k with
      | none => rfl
      | some y =>
        have h1 := wget_lt e
        obtain ⟨z, hz2⟩ := wget_ex (w := w') (k := k) (by rw [h.1]; exact h1)
        rw [hz] at hz2; cases hz2
    rw [this]
    exact ⟨x, hx, Or.inl rfl⟩
theorem pCT_eqv {l : Launch} {y : MethodName} {ws : List Cond} {rm : Room} {args : List Value} {w : pWd} {rg : pRg} {v : Option Value} {w1 w2 : pWd} {rg1 : pRg} (h : pCT l y ws rm args w rg (v, w1, rg1)) (he : pWEq w1 w2) : pCT l y ws rm args w rg (v, w2, rg1) := by
  obtain ⟨c1, c2, c3, c4, c5, c6⟩ := h
  dsimp only at c1 c2 c3 c4 c5 c6
  refine ⟨c1, by dsimp only; rw [he.1]; exact c2, by dsimp only; rw [he.1]; exact c3, by dsimp only; rw [he.1]; exact c4, by dsimp only; rw [he.1]; exact c5, fun D κ α sz hi hf => ?_⟩
  dsimp only at hi hf ⊢
  rw [he.1] at hi hf ⊢
  have := c6 D κ α sz hi hf
  intro p e ha hc hk s m args below hf2 hfit a1 a2
  obtain ⟨k, o, h1, h2, h3, h4, h5⟩ := this p e ha hc hk s m args below hf2 hfit a1 a2
  refine ⟨k, o, h1, h2, h3, ?_, h5⟩
  obtain ⟨q1, q2, q3, q4⟩ := h4
  dsimp only at q1 q2 q3
  refine ⟨q1, fun k x hx => ?_, by dsimp only; rw [he.1]; exact q3, q4⟩
  dsimp only at hx
  obtain ⟨z, z1, z2⟩ := he.cell hx
  exact z2.at (q2 k z z1)
end
