noncomputable section
/-! THE LAW'S WORLD: two objects of the class, 179 cells each; b is where one begins -/
theorem pFr_comp {ρ ρ1 : Nat → Nat} {w w0 w00 w11 w1 w' : pWd} {rg rg0 rgA rg11 rg1 rg' : pRg} (a : pFr ρ w rg w0 rg0 w1 rg1 w' rg') (b : pFr ρ1 w0 rg0 w00 rgA w11 rg11 w1 rg1) : pFr (fun j => ρ (ρ1 j)) w rg w00 rgA w11 rg11 w' rg' := by
  obtain ⟨a1, a2, a3, a4, a5, a6, a7, a8⟩ := a
  obtain ⟨b1, b2, b3, b4, b5, b6, b7, b8⟩ := b
  have hd : ∀ j, pDm w11.length rgA.1 j → pDm w1.length rg0.1 (ρ1 j) := by
    intro j hj
    by_cases h0 : pDm w00.length rgA.1 j
    · rcases b3 j h0 with z | z
      · exact Or.inl (by omega)
      · exact Or.inr z
    · rcases hj with z | z
      · have : w00.length ≤ j := by
          rcases Nat.lt_or_ge j w00.length with y | y
          · exact absurd (Or.inl y) h0
          · exact y
        exact Or.inl (by rw [b4 j this z]; omega)
      · exact absurd (Or.inr z) h0
  refine ⟨fun j e h => ?_, fun j j' h h' e => ?_, fun j h => a3 _ (b3 j h), fun j h h' => ?_, fun k e h => ?_, fun q hq => ?_, by omega, a8⟩
  · have := a1 _ _ (b1 j e h)
    rw [show re ρ (re ρ1 e) = re (fun j => ρ (ρ1 j)) e from ce_ce (fun c => c) ρ ρ1 e] at this
    exact this
  · exact b2 j j' h h' (a2 _ _ (hd j h) (hd j' h') e)
  · show ρ (ρ1 j) = _
    rw [b4 j h h', a4 _ (by omega) (by omega)]
    omega
  · rcases a5 k e h with ⟨j, e0, h1, h2, h3, h4⟩ | ⟨h1, h2⟩
    · rcases b5 j e0 h3 with ⟨j1, e1, g1, g2, g3, g4⟩ | ⟨g1, g2⟩
      · refine Or.inl ⟨j1, e1, g1, by rw [h2, g2], g3, ?_⟩
        rw [h4, g4]
        exact ce_ce (fun c => c) ρ ρ1 e1
      · refine Or.inr ⟨?_, fun j1 hj1 ej => ?_⟩
        · rw [h2, h4]
          exact a1 _ _ g1
        · refine g2 j1 hj1 (a2 _ _ (hd j1 hj1) h1 ?_)
          rw [← h2]
          exact ej
    · exact Or.inr ⟨h1, fun j hj => h2 _ (hd j hj)⟩
  · show ρ (ρ1 q.2.1) = _
    rw [b6 q hq, a6 q hq]
theorem pFOK_comp {l : Launch} {y : MethodName} {ws : List Cond} {rm : Room} {F F' : pF} (hF : pFOK l y ws rm F) (h : ∀ args w rg v w' rg', F' args w rg = some (v, w', rg') → ∃ ρ args0 w0 rg0 v0 w1 rg1, F args0 w0 rg0 = some (v0, w1, rg1) ∧ pFr ρ w rg w0 rg0 w1 rg1 w' rg' ∧ args0.map (cv ρ) = args ∧ v = v0.map (cv ρ)) : pFOK l y ws rm F' := by
  intro args w rg v w' rg' hf
  obtain ⟨ρ, args0, w0, rg0, v0, w1, rg1, h1, h2, h3, h4⟩ := h args w rg v w' rg' hf
  obtain ⟨ρ1, args1, w00, rgA, v1, w11, rg11, c, g2, g3, g4⟩ := hF args0 w0 rg0 v0 w1 rg1 h1
  refine ⟨fun j => ρ (ρ1 j), args1, w00, rgA, v1, w11, rg11, c, pFr_comp h2 g2, ?_, ?_⟩
  · rw [← h3, ← g3, List.map_map]
    exact List.map_congr_left fun x _ => (cv_cv ρ ρ1 x).symm
  · rw [h4, g4]
    cases v1 with
    | none => rfl
    | some x => exact congrArg some (cv_cv ρ ρ1 x)
def cut {X : Type} : Nat → pWd → (pWd → pWd → Option X) → Option X
  | 0, w, c => c [] w
  | n + 1, e :: w, c => cut n w (fun a b => c (e :: a) b)
  | _ + 1, [], _ => none
theorem cut_some {X : Type} : ∀ {n : Nat} {w : pWd} {c : pWd → pWd → Option X} {o : X}, cut n w c = some o → ∃ a b, w = a ++ b ∧ c a b = some o ∧ a.length = n
  | 0, w, c, o, h => ⟨[], w, rfl, h, rfl⟩
  | n + 1, e :: w, c, o, h => by
    obtain ⟨a, b, h1, h2, h3⟩ := cut_some (n := n) (w := w) (c := fun a b => c (e :: a) b) h
    exact ⟨e :: a, b, by rw [h1]; rfl, h2, by rw [List.length_cons, h3]⟩
  | _ + 1, [], _, _, h => by cases h
theorem cut_app {X : Type} : ∀ (a w : pWd) (c : pWd → pWd → Option X), cut a.length (a ++ w) c = c a w
  | [], _, _ => rfl
  | e :: a, w, c => cut_app a w (fun a b => c (e :: a) b)
theorem cut_app' {X : Type} {n : Nat} {a w : pWd} {c : pWd → pWd → Option X} (h : a.length = n) : cut n (a ++ w) c = c a w := by
  subst h
  exact cut_app a w c
/-- the history's row of loops in the law's world, and as the class's contracts see it -/
def hsL (b : Nat) : Nat → Option Nat := fun i => (hsF i).map (shQ b)
def hs0 : Nat → Option Nat := fun i => if i < 8 then some (100000 + 14 * i) else none
theorem hs0_ok (h : Nat → pLV) : bOK hs0 (10, h) := ⟨fun i hi => if_pos hi, rfl⟩
def aO (b : Nat) (x : pLV) : va_E := .inr (8, [.ref (b + 1), .ref (b + 15), .ref (b + 29), .ref (b + 143), .ref (b + 158), .ref (b + 173), .int (x 0 0), .ref (b + 174), .int (x 0 1), .int (x 0 2)])
def aT (b : Nat) (x : pLV) : pWd := [.inl (0, 120, .inl (x 1)), .inr (6, [.ref (b + 175), .int (x 0 7), .int (x 0 8), .int (x 0 9)]), .inr (7, [.ref (b + 176), .ref (b + 177), .ref (b + 178), .int (x 0 10)]), .inl (0, 20, .inl (x 2)), .inl (0, 20, .inl (x 3)), .inl (0, 20, .inl (x 4))]
def lawP (b : Nat) (x v u : pLV) (h : Nat → pLV) : pWd := aO b x :: (loopCells (b + 1) v ++ (loopCells (b + 15) u ++ (.inr (3, [.ref (b + 30), .int (x 0 3), .int (x 0 4)]) :: .inl (1, 8, .inr (.inr (.inr (.inr (hsL b))))) :: (loopCells (b + 31) (h 0) ++ (loopCells (b + 45) (h 1) ++ (loopCells (b + 59) (h 2) ++ (loopCells (b + 73) (h 3) ++ (loopCells (b + 87) (h 4) ++ (loopCells (b + 101) (h 5) ++ (loopCells (b + 115) (h 6) ++ (loopCells (b + 129) (h 7) ++ (.inr (4, [.ref (b + 144), .int (x 0 5)]) :: (loopCells (b + 144) (h 8) ++ (.inr (4, [.ref (b + 159), .int (x 0 6)]) :: (loopCells (b + 159) (h 9) ++ (aT b x))))))))))))))))
def mkH (a0 a1 a2 a3 a4 a5 a6 a7 a8 a9 : pLV) : Nat → pLV := fun i => match i with
  | 0 => a0
  | 1 => a1
  | 2 => a2
  | 3 => a3
  | 4 => a4
  | 5 => a5
  | 6 => a6
  | 7 => a7
  | 8 => a8
  | _ => a9
def unZ {X : Type} (b : Nat) (b0 b1 b2 b3 b4 : pWd) (c : pLV → Option X) : Option X := match b0 with
  | [.inr (i0, [.ref q1, .ref q2, .ref q3, .ref q4, .ref q5, .ref q6, .int s0, .ref q7, .int s1, .int s2])] => (match b1 with | [.inr (i1, [.ref q8, .int s3, .int s4]), .inl (i2, n2, .inr (.inr (.inr (.inr f))))] => (match b2 with | [.inr (i3, [.ref q9, .int s5])] => (match b3 with | [.inr (i4, [.ref q10, .int s6])] => (match b4 with | [.inl (i5, n5, .inl f1), .inr (i6, [.ref q11, .int s7, .int s8, .int s9]), .inr (i7, [.ref q12, .ref q13, .ref q14, .int s10]), .inl (i8, n8, .inl f2), .inl (i9, n9, .inl f3), .inl (i10, n10, .inl f4)] => (match chk [i0, q1, q2, q3, q4, q5, q6, q7, i1, q8, i2, n2, i3, q9, i4, q10, i5, n5, i6, q11, i7, q12, q13, q14, i8, n8, i9, n9, i10, n10] [8, b + 1, b + 15, b + 29, b + 143, b + 158, b + 173, b + 174, 3, b + 30, 1, 8, 4, b + 144, 4, b + 159, 0, 120, 6, b + 175, 7, b + 176, b + 177, b + 178, 0, 20, 0, 20, 0, 20] with | true => pif (f = hsL b) (c (mkL [s0, s1, s2, s3, s4, s5, s6, s7, s8, s9, s10] f1 f2 f3 f4 (fun _ => 0) (fun _ => 0))) none | false => none) | _ => none) | _ => none) | _ => none) | _ => none)
  | _ => none
set_option maxHeartbeats 4000000 in
theorem unZ_some {X : Type} {b : Nat} {b0 b1 b2 b3 b4 : pWd} {c : pLV → Option X} {o : X} (h : unZ b b0 b1 b2 b3 b4 c = some o) : ∃ x, b0 = [aO b x] ∧ b1 = [.inr (3, [.ref (b + 30), .int (x 0 3), .int (x 0 4)]), .inl (1, 8, .inr (.inr (.inr (.inr (hsL b)))))] ∧ b2 = [.inr (4, [.ref (b + 144), .int (x 0 5)])] ∧ b3 = [.inr (4, [.ref (b + 159), .int (x 0 6)])] ∧ b4 = aT b x ∧ c x = some o := by
  unfold unZ at h
  split at h
  next i0 q1 q2 q3 q4 q5 q6 s0 q7 s1 s2 =>
    split at h
    next i1 q8 s3 s4 i2 n2 f =>
      split at h
      next i3 q9 s5 =>
        split at h
        next i4 q10 s6 =>
          split at h
          next i5 n5 f1 i6 q11 s7 s8 s9 i7 q12 q13 q14 s10 i8 n8 f2 i9 n9 f3 i10 n10 f4 =>
            split at h
            next hc =>
              have hc := chk_eq hc
              simp only [List.cons.injEq, and_true] at hc
              obtain ⟨rfl, rfl, rfl, rfl, rfl, rfl, rfl, rfl, rfl, rfl, rfl, rfl, rfl, rfl, rfl, rfl, rfl, rfl, rfl, rfl, rfl, rfl, rfl, rfl, rfl, rfl, rfl, rfl, rfl, rfl⟩ := hc
              by_cases hf : f = hsL b
              · have h2 := (pif_t hf).symm.trans h
                clear h
                subst hf
                exact ⟨_, rfl, rfl, rfl, rfl, rfl, h2⟩
              · have h := (pif_f hf).symm.trans h
                cases h
            next => cases h
          next => cases h
        next => cases h
      next => cases h
    next => cases h
  next => cases h
def unP {X : Type} (b : Nat) (w0 : pWd) (c : pLV → pLV → pLV → (Nat → pLV) → Option X) : Option X := cut 1 w0 (fun a0 w1 => cut 14 w1 (fun a1 w2 => unL (b + 1) a1 (fun v => cut 14 w2 (fun a2 w3 => unL (b + 15) a2 (fun u => cut 2 w3 (fun a3 w4 => cut 14 w4 (fun l0 w5 => unL (b + 31) l0 (fun h0 => cut 14 w5 (fun l1 w6 => unL (b + 45) l1 (fun h1 => cut 14 w6 (fun l2 w7 => unL (b + 59) l2 (fun h2 => cut 14 w7 (fun l3 w8 => unL (b + 73) l3 (fun h3 => cut 14 w8 (fun l4 w9 => unL (b + 87) l4 (fun h4 => cut 14 w9 (fun l5 w10 => unL (b + 101) l5 (fun h5 => cut 14 w10 (fun l6 w11 => unL (b + 115) l6 (fun h6 => cut 14 w11 (fun l7 w12 => unL (b + 129) l7 (fun h7 => cut 1 w12 (fun a4 w13 => cut 14 w13 (fun l8 w14 => unL (b + 144) l8 (fun h8 => cut 1 w14 (fun a5 w15 => cut 14 w15 (fun l9 w16 => unL (b + 159) l9 (fun h9 => cut 6 w16 (fun a6 w17 => (match w17 with | [] => unZ b a0 a3 a4 a5 a6 (fun x => c x v u (mkH h0 h1 h2 h3 h4 h5 h6 h7 h8 h9)) | _ => none))))))))))))))))))))))))))))))
set_option maxHeartbeats 4000000 in
set_option maxRecDepth 100000 in
theorem unP_some {X : Type} {b : Nat} {w : pWd} {c : pLV → pLV → pLV → (Nat → pLV) → Option X} {o : X} (h : unP b w c = some o) : ∃ x v u hh, w = lawP b x v u hh ∧ c x v u hh = some o := by
  unfold unP at h
  obtain ⟨a0, w1, e0, h, -⟩ := cut_some h
  obtain ⟨a1, w2, e1, h, -⟩ := cut_some h
  obtain ⟨v, f1, h⟩ := unL_some h
  obtain ⟨a2, w3, e2, h, -⟩ := cut_some h
  obtain ⟨u, f2, h⟩ := unL_some h
  obtain ⟨a3, w4, e3, h, -⟩ := cut_some h
  obtain ⟨l0, w5, g0, h, -⟩ := cut_some h
  obtain ⟨h0, k0, h⟩ := unL_some h
  obtain ⟨l1, w6, g1, h, -⟩ := cut_some h
  obtain ⟨h1, k1, h⟩ := unL_some h
  obtain ⟨l2, w7, g2, h, -⟩ := cut_some h
  obtain ⟨h2, k2, h⟩ := unL_some h
  obtain ⟨l3, w8, g3, h, -⟩ := cut_some h
  obtain ⟨h3, k3, h⟩ := unL_some h
  obtain ⟨l4, w9, g4, h, -⟩ := cut_some h
  obtain ⟨h4, k4, h⟩ := unL_some h
  obtain ⟨l5, w10, g5, h, -⟩ := cut_some h
  obtain ⟨h5, k5, h⟩ := unL_some h
  obtain ⟨l6, w11, g6, h, -⟩ := cut_some h
  obtain ⟨h6, k6, h⟩ := unL_some h
  obtain ⟨l7, w12, g7, h, -⟩ := cut_some h
  obtain ⟨h7, k7, h⟩ := unL_some h
  obtain ⟨a4, w13, e4, h, -⟩ := cut_some h
  obtain ⟨l8, w14, g8, h, -⟩ := cut_some h
  obtain ⟨h8, k8, h⟩ := unL_some h
  obtain ⟨a5, w15, e5, h, -⟩ := cut_some h
  obtain ⟨l9, w16, g9, h, -⟩ := cut_some h
  obtain ⟨h9, k9, h⟩ := unL_some h
  obtain ⟨a6, w17, e6, h, -⟩ := cut_some h
  split at h
  next =>
    obtain ⟨x, z0, z1, z2, z3, z4, h⟩ := unZ_some h
    refine ⟨x, v, u, mkH h0 h1 h2 h3 h4 h5 h6 h7 h8 h9, ?_, h⟩
    rw [e0, e1, e2, e3, g0, g1, g2, g3, g4, g5, g6, g7, e4, g8, e5, g9, e6, f1, f2, k0, k1, k2, k3, k4, k5, k6, k7, k8, k9, z0, z1, z2, z3, z4]
    rfl
  next => cases h
def NHm (h : Nat → pLV) : Nat → pLV := mkH (NL (h 0)) (NL (h 1)) (NL (h 2)) (NL (h 3)) (NL (h 4)) (NL (h 5)) (NL (h 6)) (NL (h 7)) (NL (h 8)) (NL (h 9))
set_option maxHeartbeats 4000000 in
set_option maxRecDepth 100000 in
theorem unP_eq0 {X : Type} (x v u : pLV) (h : Nat → pLV) (c : pLV → pLV → pLV → (Nat → pLV) → Option X) : unP 0 (lawP 0 x v u h) c = c (NX x) (NL v) (NL u) (NHm h) := pif_t rfl
set_option maxHeartbeats 4000000 in
set_option maxRecDepth 100000 in
theorem unP_eq179 {X : Type} (x v u : pLV) (h : Nat → pLV) (c : pLV → pLV → pLV → (Nat → pLV) → Option X) : unP 179 (lawP 179 x v u h) c = c (NX x) (NL v) (NL u) (NHm h) := pif_t rfl
set_option maxRecDepth 100000 in
theorem lawP_len (b : Nat) (x v u : pLV) (h : Nat → pLV) : (lawP b x v u h).length = 179 := rfl
end
