noncomputable section
/-! THE FRAMES OF THE LAW'S CALLS -/
/-- where the class's cells of a contract stand -/
def ρC (j : Nat) : Nat := if j < 31 then j else if j = 31 then 143 else if j = 32 then 158 else if j < 39 then j + 140 else if j < 100000 then j else if j < 100112 then j - 100000 + 31 else if j < 100126 then j - 100112 + 144 else if j < 100140 then j - 100126 + 159 else j
def ρB (b j : Nat) : Nat := if j < 100140 then b + ρC j else j
theorem hsL_eq0 : (fun i => (hs0 i).map (ρB 0)) = hsL 0 := by
  funext i
  match i with
  | 0 => rfl
  | 1 => rfl
  | 2 => rfl
  | 3 => rfl
  | 4 => rfl
  | 5 => rfl
  | 6 => rfl
  | 7 => rfl
  | i + 8 =>
    have h1 : hs0 (i + 8) = none := if_neg (by omega)
    have h2 : hsF (i + 8) = none := by
      unfold hsF
      simp [va_up]
    show (hs0 (i + 8)).map (ρB 0) = (hsF (i + 8)).map (shQ 0)
    rw [h1, h2]
    rfl
set_option maxHeartbeats 4000000 in
set_option maxRecDepth 100000 in
theorem cB0_lo (x v u : pLV) (h : Nat → pLV) : ∀ t, t < 39 → wget (lawP 0 x v u h) (ρC (t)) = (cellOf (cw hs0 x v u) (10, h) (t)).map (re (ρB 0))
  | 0, _ => rfl
  | 1, _ => rfl
  | 2, _ => rfl
  | 3, _ => rfl
  | 4, _ => rfl
  | 5, _ => rfl
  | 6, _ => rfl
  | 7, _ => rfl
  | 8, _ => rfl
  | 9, _ => rfl
  | 10, _ => rfl
  | 11, _ => rfl
  | 12, _ => rfl
  | 13, _ => rfl
  | 14, _ => rfl
  | 15, _ => rfl
  | 16, _ => rfl
  | 17, _ => rfl
  | 18, _ => rfl
  | 19, _ => rfl
  | 20, _ => rfl
  | 21, _ => rfl
  | 22, _ => rfl
  | 23, _ => rfl
  | 24, _ => rfl
  | 25, _ => rfl
  | 26, _ => rfl
  | 27, _ => rfl
  | 28, _ => rfl
  | 29, _ => rfl
  | 31, _ => rfl
  | 32, _ => rfl
  | 33, _ => rfl
  | 34, _ => rfl
  | 35, _ => rfl
  | 36, _ => rfl
  | 37, _ => rfl
  | 38, _ => rfl
  | 30, _ => by
    show some (Sum.inl (1, 8, Sum.inr (Sum.inr (Sum.inr (Sum.inr (hsL 0)))))) = some (Sum.inl (1, 8, Sum.inr (Sum.inr (Sum.inr (Sum.inr (fun i => (hs0 i).map (ρB 0)))))))
    rw [hsL_eq0]
  | t + 39, h => absurd h (by omega)
set_option maxHeartbeats 4000000 in
set_option maxRecDepth 100000 in
theorem cB0_h0 (x v u : pLV) (h : Nat → pLV) : ∀ t, t < 14 → wget (lawP 0 x v u h) (ρC (100000 + t)) = (cellOf (cw hs0 x v u) (10, h) (100000 + t)).map (re (ρB 0))
  | 0, _ => rfl
  | 1, _ => rfl
  | 2, _ => rfl
  | 3, _ => rfl
  | 4, _ => rfl
  | 5, _ => rfl
  | 6, _ => rfl
  | 7, _ => rfl
  | 8, _ => rfl
  | 9, _ => rfl
  | 10, _ => rfl
  | 11, _ => rfl
  | 12, _ => rfl
  | 13, _ => rfl
  | t + 14, h => absurd h (by omega)
set_option maxHeartbeats 4000000 in
set_option maxRecDepth 100000 in
theorem cB0_h1 (x v u : pLV) (h : Nat → pLV) : ∀ t, t < 14 → wget (lawP 0 x v u h) (ρC (100014 + t)) = (cellOf (cw hs0 x v u) (10, h) (100014 + t)).map (re (ρB 0))
  | 0, _ => rfl
  | 1, _ => rfl
  | 2, _ => rfl
  | 3, _ => rfl
  | 4, _ => rfl
  | 5, _ => rfl
  | 6, _ => rfl
  | 7, _ => rfl
  | 8, _ => rfl
  | 9, _ => rfl
  | 10, _ => rfl
  | 11, _ => rfl
  | 12, _ => rfl
  | 13, _ => rfl
  | t + 14, h => absurd h (by omega)
set_option maxHeartbeats 4000000 in
set_option maxRecDepth 100000 in
theorem cB0_h2 (x v u : pLV) (h : Nat → pLV) : ∀ t, t < 14 → wget (lawP 0 x v u h) (ρC (100028 + t)) = (cellOf (cw hs0 x v u) (10, h) (100028 + t)).map (re (ρB 0))
  | 0, _ => rfl
  | 1, _ => rfl
  | 2, _ => rfl
  | 3, _ => rfl
  | 4, _ => rfl
  | 5, _ => rfl
  | 6, _ => rfl
  | 7, _ => rfl
  | 8, _ => rfl
  | 9, _ => rfl
  | 10, _ => rfl
  | 11, _ => rfl
  | 12, _ => rfl
  | 13, _ => rfl
  | t + 14, h => absurd h (by omega)
set_option maxHeartbeats 4000000 in
set_option maxRecDepth 100000 in
theorem cB0_h3 (x v u : pLV) (h : Nat → pLV) : ∀ t, t < 14 → wget (lawP 0 x v u h) (ρC (100042 + t)) = (cellOf (cw hs0 x v u) (10, h) (100042 + t)).map (re (ρB 0))
  | 0, _ => rfl
  | 1, _ => rfl
  | 2, _ => rfl
  | 3, _ => rfl
  | 4, _ => rfl
  | 5, _ => rfl
  | 6, _ => rfl
  | 7, _ => rfl
  | 8, _ => rfl
  | 9, _ => rfl
  | 10, _ => rfl
  | 11, _ => rfl
  | 12, _ => rfl
  | 13, _ => rfl
  | t + 14, h => absurd h (by omega)
set_option maxHeartbeats 4000000 in
set_option maxRecDepth 100000 in
theorem cB0_h4 (x v u : pLV) (h : Nat → pLV) : ∀ t, t < 14 → wget (lawP 0 x v u h) (ρC (100056 + t)) = (cellOf (cw hs0 x v u) (10, h) (100056 + t)).map (re (ρB 0))
  | 0, _ => rfl
  | 1, _ => rfl
  | 2, _ => rfl
  | 3, _ => rfl
  | 4, _ => rfl
  | 5, _ => rfl
  | 6, _ => rfl
  | 7, _ => rfl
  | 8, _ => rfl
  | 9, _ => rfl
  | 10, _ => rfl
  | 11, _ => rfl
  | 12, _ => rfl
  | 13, _ => rfl
  | t + 14, h => absurd h (by omega)
set_option maxHeartbeats 4000000 in
set_option maxRecDepth 100000 in
theorem cB0_h5 (x v u : pLV) (h : Nat → pLV) : ∀ t, t < 14 → wget (lawP 0 x v u h) (ρC (100070 + t)) = (cellOf (cw hs0 x v u) (10, h) (100070 + t)).map (re (ρB 0))
  | 0, _ => rfl
  | 1, _ => rfl
  | 2, _ => rfl
  | 3, _ => rfl
  | 4, _ => rfl
  | 5, _ => rfl
  | 6, _ => rfl
  | 7, _ => rfl
  | 8, _ => rfl
  | 9, _ => rfl
  | 10, _ => rfl
  | 11, _ => rfl
  | 12, _ => rfl
  | 13, _ => rfl
  | t + 14, h => absurd h (by omega)
set_option maxHeartbeats 4000000 in
set_option maxRecDepth 100000 in
theorem cB0_h6 (x v u : pLV) (h : Nat → pLV) : ∀ t, t < 14 → wget (lawP 0 x v u h) (ρC (100084 + t)) = (cellOf (cw hs0 x v u) (10, h) (100084 + t)).map (re (ρB 0))
  | 0, _ => rfl
  | 1, _ => rfl
  | 2, _ => rfl
  | 3, _ => rfl
  | 4, _ => rfl
  | 5, _ => rfl
  | 6, _ => rfl
  | 7, _ => rfl
  | 8, _ => rfl
  | 9, _ => rfl
  | 10, _ => rfl
  | 11, _ => rfl
  | 12, _ => rfl
  | 13, _ => rfl
  | t + 14, h => absurd h (by omega)
set_option maxHeartbeats 4000000 in
set_option maxRecDepth 100000 in
theorem cB0_h7 (x v u : pLV) (h : Nat → pLV) : ∀ t, t < 14 → wget (lawP 0 x v u h) (ρC (100098 + t)) = (cellOf (cw hs0 x v u) (10, h) (100098 + t)).map (re (ρB 0))
  | 0, _ => rfl
  | 1, _ => rfl
  | 2, _ => rfl
  | 3, _ => rfl
  | 4, _ => rfl
  | 5, _ => rfl
  | 6, _ => rfl
  | 7, _ => rfl
  | 8, _ => rfl
  | 9, _ => rfl
  | 10, _ => rfl
  | 11, _ => rfl
  | 12, _ => rfl
  | 13, _ => rfl
  | t + 14, h => absurd h (by omega)
set_option maxHeartbeats 4000000 in
set_option maxRecDepth 100000 in
theorem cB0_h8 (x v u : pLV) (h : Nat → pLV) : ∀ t, t < 14 → wget (lawP 0 x v u h) (ρC (100112 + t)) = (cellOf (cw hs0 x v u) (10, h) (100112 + t)).map (re (ρB 0))
  | 0, _ => rfl
  | 1, _ => rfl
  | 2, _ => rfl
  | 3, _ => rfl
  | 4, _ => rfl
  | 5, _ => rfl
  | 6, _ => rfl
  | 7, _ => rfl
  | 8, _ => rfl
  | 9, _ => rfl
  | 10, _ => rfl
  | 11, _ => rfl
  | 12, _ => rfl
  | 13, _ => rfl
  | t + 14, h => absurd h (by omega)
set_option maxHeartbeats 4000000 in
set_option maxRecDepth 100000 in
theorem cB0_h9 (x v u : pLV) (h : Nat → pLV) : ∀ t, t < 14 → wget (lawP 0 x v u h) (ρC (100126 + t)) = (cellOf (cw hs0 x v u) (10, h) (100126 + t)).map (re (ρB 0))
  | 0, _ => rfl
  | 1, _ => rfl
  | 2, _ => rfl
  | 3, _ => rfl
  | 4, _ => rfl
  | 5, _ => rfl
  | 6, _ => rfl
  | 7, _ => rfl
  | 8, _ => rfl
  | 9, _ => rfl
  | 10, _ => rfl
  | 11, _ => rfl
  | 12, _ => rfl
  | 13, _ => rfl
  | t + 14, h => absurd h (by omega)
theorem cB0_all (x v u : pLV) (h : Nat → pLV) (j : Nat) (hj : pDm 39 10 j) : wget (lawP 0 x v u h) (ρC j) = (cellOf (cw hs0 x v u) (10, h) j).map (re (ρB 0)) := by
  rcases hj with z | ⟨z1, z2⟩
  · exact cB0_lo x v u h j z
  · obtain ⟨i, hi⟩ : ∃ i, (j - 100000) / 14 = i := ⟨_, rfl⟩
    obtain ⟨t, ht⟩ : ∃ t, (j - 100000) % 14 = t := ⟨_, rfl⟩
    have e : j = 100000 + 14 * i + t := by omega
    have ht' : t < 14 := by omega
    have hi' : i < 10 := by omega
    rcases (show i = 0 ∨ i = 1 ∨ i = 2 ∨ i = 3 ∨ i = 4 ∨ i = 5 ∨ i = 6 ∨ i = 7 ∨ i = 8 ∨ i = 9 by omega) with rfl | rfl | rfl | rfl | rfl | rfl | rfl | rfl | rfl | rfl
    · rw [show j = 100000 + t by omega]
      exact cB0_h0 x v u h t ht'
    · rw [show j = 100014 + t by omega]
      exact cB0_h1 x v u h t ht'
    · rw [show j = 100028 + t by omega]
      exact cB0_h2 x v u h t ht'
    · rw [show j = 100042 + t by omega]
      exact cB0_h3 x v u h t ht'
    · rw [show j = 100056 + t by omega]
      exact cB0_h4 x v u h t ht'
    · rw [show j = 100070 + t by omega]
      exact cB0_h5 x v u h t ht'
    · rw [show j = 100084 + t by omega]
      exact cB0_h6 x v u h t ht'
    · rw [show j = 100098 + t by omega]
      exact cB0_h7 x v u h t ht'
    · rw [show j = 100112 + t by omega]
      exact cB0_h8 x v u h t ht'
    · rw [show j = 100126 + t by omega]
      exact cB0_h9 x v u h t ht'
theorem hsL_eq179 : (fun i => (hs0 i).map (ρB 179)) = hsL 179 := by
  funext i
  match i with
  | 0 => rfl
  | 1 => rfl
  | 2 => rfl
  | 3 => rfl
  | 4 => rfl
  | 5 => rfl
  | 6 => rfl
  | 7 => rfl
  | i + 8 =>
    have h1 : hs0 (i + 8) = none := if_neg (by omega)
    have h2 : hsF (i + 8) = none := by
      unfold hsF
      simp [va_up]
    show (hs0 (i + 8)).map (ρB 179) = (hsF (i + 8)).map (shQ 179)
    rw [h1, h2]
    rfl
set_option maxHeartbeats 4000000 in
set_option maxRecDepth 100000 in
theorem cB179_lo (x v u : pLV) (h : Nat → pLV) : ∀ t, t < 39 → wget (lawP 179 x v u h) (ρC (t)) = (cellOf (cw hs0 x v u) (10, h) (t)).map (re (ρB 179))
  | 0, _ => rfl
  | 1, _ => rfl
  | 2, _ => rfl
  | 3, _ => rfl
  | 4, _ => rfl
  | 5, _ => rfl
  | 6, _ => rfl
  | 7, _ => rfl
  | 8, _ => rfl
  | 9, _ => rfl
  | 10, _ => rfl
  | 11, _ => rfl
  | 12, _ => rfl
  | 13, _ => rfl
  | 14, _ => rfl
  | 15, _ => rfl
  | 16, _ => rfl
  | 17, _ => rfl
  | 18, _ => rfl
  | 19, _ => rfl
  | 20, _ => rfl
  | 21, _ => rfl
  | 22, _ => rfl
  | 23, _ => rfl
  | 24, _ => rfl
  | 25, _ => rfl
  | 26, _ => rfl
  | 27, _ => rfl
  | 28, _ => rfl
  | 29, _ => rfl
  | 31, _ => rfl
  | 32, _ => rfl
  | 33, _ => rfl
  | 34, _ => rfl
  | 35, _ => rfl
  | 36, _ => rfl
  | 37, _ => rfl
  | 38, _ => rfl
  | 30, _ => by
    show some (Sum.inl (1, 8, Sum.inr (Sum.inr (Sum.inr (Sum.inr (hsL 179)))))) = some (Sum.inl (1, 8, Sum.inr (Sum.inr (Sum.inr (Sum.inr (fun i => (hs0 i).map (ρB 179)))))))
    rw [hsL_eq179]
  | t + 39, h => absurd h (by omega)
set_option maxHeartbeats 4000000 in
set_option maxRecDepth 100000 in
theorem cB179_h0 (x v u : pLV) (h : Nat → pLV) : ∀ t, t < 14 → wget (lawP 179 x v u h) (ρC (100000 + t)) = (cellOf (cw hs0 x v u) (10, h) (100000 + t)).map (re (ρB 179))
  | 0, _ => rfl
  | 1, _ => rfl
  | 2, _ => rfl
  | 3, _ => rfl
  | 4, _ => rfl
  | 5, _ => rfl
  | 6, _ => rfl
  | 7, _ => rfl
  | 8, _ => rfl
  | 9, _ => rfl
  | 10, _ => rfl
  | 11, _ => rfl
  | 12, _ => rfl
  | 13, _ => rfl
  | t + 14, h => absurd h (by omega)
set_option maxHeartbeats 4000000 in
set_option maxRecDepth 100000 in
theorem cB179_h1 (x v u : pLV) (h : Nat → pLV) : ∀ t, t < 14 → wget (lawP 179 x v u h) (ρC (100014 + t)) = (cellOf (cw hs0 x v u) (10, h) (100014 + t)).map (re (ρB 179))
  | 0, _ => rfl
  | 1, _ => rfl
  | 2, _ => rfl
  | 3, _ => rfl
  | 4, _ => rfl
  | 5, _ => rfl
  | 6, _ => rfl
  | 7, _ => rfl
  | 8, _ => rfl
  | 9, _ => rfl
  | 10, _ => rfl
  | 11, _ => rfl
  | 12, _ => rfl
  | 13, _ => rfl
  | t + 14, h => absurd h (by omega)
set_option maxHeartbeats 4000000 in
set_option maxRecDepth 100000 in
theorem cB179_h2 (x v u : pLV) (h : Nat → pLV) : ∀ t, t < 14 → wget (lawP 179 x v u h) (ρC (100028 + t)) = (cellOf (cw hs0 x v u) (10, h) (100028 + t)).map (re (ρB 179))
  | 0, _ => rfl
  | 1, _ => rfl
  | 2, _ => rfl
  | 3, _ => rfl
  | 4, _ => rfl
  | 5, _ => rfl
  | 6, _ => rfl
  | 7, _ => rfl
  | 8, _ => rfl
  | 9, _ => rfl
  | 10, _ => rfl
  | 11, _ => rfl
  | 12, _ => rfl
  | 13, _ => rfl
  | t + 14, h => absurd h (by omega)
set_option maxHeartbeats 4000000 in
set_option maxRecDepth 100000 in
theorem cB179_h3 (x v u : pLV) (h : Nat → pLV) : ∀ t, t < 14 → wget (lawP 179 x v u h) (ρC (100042 + t)) = (cellOf (cw hs0 x v u) (10, h) (100042 + t)).map (re (ρB 179))
  | 0, _ => rfl
  | 1, _ => rfl
  | 2, _ => rfl
  | 3, _ => rfl
  | 4, _ => rfl
  | 5, _ => rfl
  | 6, _ => rfl
  | 7, _ => rfl
  | 8, _ => rfl
  | 9, _ => rfl
  | 10, _ => rfl
  | 11, _ => rfl
  | 12, _ => rfl
  | 13, _ => rfl
  | t + 14, h => absurd h (by omega)
set_option maxHeartbeats 4000000 in
set_option maxRecDepth 100000 in
theorem cB179_h4 (x v u : pLV) (h : Nat → pLV) : ∀ t, t < 14 → wget (lawP 179 x v u h) (ρC (100056 + t)) = (cellOf (cw hs0 x v u) (10, h) (100056 + t)).map (re (ρB 179))
  | 0, _ => rfl
  | 1, _ => rfl
  | 2, _ => rfl
  | 3, _ => rfl
  | 4, _ => rfl
  | 5, _ => rfl
  | 6, _ => rfl
  | 7, _ => rfl
  | 8, _ => rfl
  | 9, _ => rfl
  | 10, _ => rfl
  | 11, _ => rfl
  | 12, _ => rfl
  | 13, _ => rfl
  | t + 14, h => absurd h (by omega)
set_option maxHeartbeats 4000000 in
set_option maxRecDepth 100000 in
theorem cB179_h5 (x v u : pLV) (h : Nat → pLV) : ∀ t, t < 14 → wget (lawP 179 x v u h) (ρC (100070 + t)) = (cellOf (cw hs0 x v u) (10, h) (100070 + t)).map (re (ρB 179))
  | 0, _ => rfl
  | 1, _ => rfl
  | 2, _ => rfl
  | 3, _ => rfl
  | 4, _ => rfl
  | 5, _ => rfl
  | 6, _ => rfl
  | 7, _ => rfl
  | 8, _ => rfl
  | 9, _ => rfl
  | 10, _ => rfl
  | 11, _ => rfl
  | 12, _ => rfl
  | 13, _ => rfl
  | t + 14, h => absurd h (by omega)
set_option maxHeartbeats 4000000 in
set_option maxRecDepth 100000 in
theorem cB179_h6 (x v u : pLV) (h : Nat → pLV) : ∀ t, t < 14 → wget (lawP 179 x v u h) (ρC (100084 + t)) = (cellOf (cw hs0 x v u) (10, h) (100084 + t)).map (re (ρB 179))
  | 0, _ => rfl
  | 1, _ => rfl
  | 2, _ => rfl
  | 3, _ => rfl
  | 4, _ => rfl
  | 5, _ => rfl
  | 6, _ => rfl
  | 7, _ => rfl
  | 8, _ => rfl
  | 9, _ => rfl
  | 10, _ => rfl
  | 11, _ => rfl
  | 12, _ => rfl
  | 13, _ => rfl
  | t + 14, h => absurd h (by omega)
set_option maxHeartbeats 4000000 in
set_option maxRecDepth 100000 in
theorem cB179_h7 (x v u : pLV) (h : Nat → pLV) : ∀ t, t < 14 → wget (lawP 179 x v u h) (ρC (100098 + t)) = (cellOf (cw hs0 x v u) (10, h) (100098 + t)).map (re (ρB 179))
  | 0, _ => rfl
  | 1, _ => rfl
  | 2, _ => rfl
  | 3, _ => rfl
  | 4, _ => rfl
  | 5, _ => rfl
  | 6, _ => rfl
  | 7, _ => rfl
  | 8, _ => rfl
  | 9, _ => rfl
  | 10, _ => rfl
  | 11, _ => rfl
  | 12, _ => rfl
  | 13, _ => rfl
  | t + 14, h => absurd h (by omega)
set_option maxHeartbeats 4000000 in
set_option maxRecDepth 100000 in
theorem cB179_h8 (x v u : pLV) (h : Nat → pLV) : ∀ t, t < 14 → wget (lawP 179 x v u h) (ρC (100112 + t)) = (cellOf (cw hs0 x v u) (10, h) (100112 + t)).map (re (ρB 179))
  | 0, _ => rfl
  | 1, _ => rfl
  | 2, _ => rfl
  | 3, _ => rfl
  | 4, _ => rfl
  | 5, _ => rfl
  | 6, _ => rfl
  | 7, _ => rfl
  | 8, _ => rfl
  | 9, _ => rfl
  | 10, _ => rfl
  | 11, _ => rfl
  | 12, _ => rfl
  | 13, _ => rfl
  | t + 14, h => absurd h (by omega)
set_option maxHeartbeats 4000000 in
set_option maxRecDepth 100000 in
theorem cB179_h9 (x v u : pLV) (h : Nat → pLV) : ∀ t, t < 14 → wget (lawP 179 x v u h) (ρC (100126 + t)) = (cellOf (cw hs0 x v u) (10, h) (100126 + t)).map (re (ρB 179))
  | 0, _ => rfl
  | 1, _ => rfl
  | 2, _ => rfl
  | 3, _ => rfl
  | 4, _ => rfl
  | 5, _ => rfl
  | 6, _ => rfl
  | 7, _ => rfl
  | 8, _ => rfl
  | 9, _ => rfl
  | 10, _ => rfl
  | 11, _ => rfl
  | 12, _ => rfl
  | 13, _ => rfl
  | t + 14, h => absurd h (by omega)
theorem cB179_all (x v u : pLV) (h : Nat → pLV) (j : Nat) (hj : pDm 39 10 j) : wget (lawP 179 x v u h) (ρC j) = (cellOf (cw hs0 x v u) (10, h) j).map (re (ρB 179)) := by
  rcases hj with z | ⟨z1, z2⟩
  · exact cB179_lo x v u h j z
  · obtain ⟨i, hi⟩ : ∃ i, (j - 100000) / 14 = i := ⟨_, rfl⟩
    obtain ⟨t, ht⟩ : ∃ t, (j - 100000) % 14 = t := ⟨_, rfl⟩
    have e : j = 100000 + 14 * i + t := by omega
    have ht' : t < 14 := by omega
    have hi' : i < 10 := by omega
    rcases (show i = 0 ∨ i = 1 ∨ i = 2 ∨ i = 3 ∨ i = 4 ∨ i = 5 ∨ i = 6 ∨ i = 7 ∨ i = 8 ∨ i = 9 by omega) with rfl | rfl | rfl | rfl | rfl | rfl | rfl | rfl | rfl | rfl
    · rw [show j = 100000 + t by omega]
      exact cB179_h0 x v u h t ht'
    · rw [show j = 100014 + t by omega]
      exact cB179_h1 x v u h t ht'
    · rw [show j = 100028 + t by omega]
      exact cB179_h2 x v u h t ht'
    · rw [show j = 100042 + t by omega]
      exact cB179_h3 x v u h t ht'
    · rw [show j = 100056 + t by omega]
      exact cB179_h4 x v u h t ht'
    · rw [show j = 100070 + t by omega]
      exact cB179_h5 x v u h t ht'
    · rw [show j = 100084 + t by omega]
      exact cB179_h6 x v u h t ht'
    · rw [show j = 100098 + t by omega]
      exact cB179_h7 x v u h t ht'
    · rw [show j = 100112 + t by omega]
      exact cB179_h8 x v u h t ht'
    · rw [show j = 100126 + t by omega]
      exact cB179_h9 x v u h t ht'
theorem ρC_lt {j : Nat} (hj : pDm 39 10 j) : ρC j < 179 := by
  unfold pDm at hj
  unfold ρC
  repeat' split
  all_goals omega
theorem ρC_inj {j j' : Nat} (hj : pDm 39 10 j) (hj' : pDm 39 10 j') (e : ρC j = ρC j') : j = j' := by
  unfold pDm at hj hj'
  unfold ρC at e
  by_cases a1 : j < 31
  · rw [if_pos a1] at e
    repeat' split at e
    all_goals omega
  rw [if_neg a1] at e
  by_cases a2 : j = 31
  · rw [if_pos a2] at e
    repeat' split at e
    all_goals omega
  rw [if_neg a2] at e
  by_cases a3 : j = 32
  · rw [if_pos a3] at e
    repeat' split at e
    all_goals omega
  rw [if_neg a3] at e
  by_cases a4 : j < 39
  · rw [if_pos a4] at e
    repeat' split at e
    all_goals omega
  rw [if_neg a4] at e
  repeat' split at e
  all_goals omega
theorem ρC_sur {k : Nat} (hk : k < 179) : ∃ j, pDm 39 10 j ∧ ρC j = k := by
  by_cases h1 : k < 31
  · exact ⟨k, Or.inl (by omega), if_pos h1⟩
  by_cases h2 : k < 143
  · refine ⟨100000 + (k - 31), Or.inr (by omega), ?_⟩
    unfold ρC
    repeat' split
    all_goals omega
  by_cases h3 : k = 143
  · exact ⟨31, Or.inl (by omega), by rw [h3]; rfl⟩
  by_cases h4 : k < 158
  · refine ⟨100112 + (k - 144), Or.inr (by omega), ?_⟩
    unfold ρC
    repeat' split
    all_goals omega
  by_cases h5 : k = 158
  · exact ⟨32, Or.inl (by omega), by rw [h5]; rfl⟩
  by_cases h6 : k < 173
  · refine ⟨100126 + (k - 159), Or.inr (by omega), ?_⟩
    unfold ρC
    repeat' split
    all_goals omega
  · refine ⟨k - 140, Or.inl (by omega), ?_⟩
    unfold ρC
    repeat' split
    all_goals omega
theorem ρB_at {b j : Nat} (hj : pDm 39 10 j) : ρB b j = b + ρC j := if_pos (by unfold pDm at hj; omega)
theorem ρB_stat (b : Nat) : ∀ q ∈ pStat, ρB b q.2.1 = q.2.1 := by
  intro z hz
  simp only [pStat, List.mem_cons, List.not_mem_nil, or_false] at hz
  rcases hz with rfl | rfl | rfl <;> rfl
theorem cat_at {pre blk post : pWd} {rg : pRg} {b k : Nat} (hb : pre.length = b) (hk : k < blk.length) : cellOf (pre ++ (blk ++ post)) rg (b + k) = wget blk k := by
  obtain ⟨e, he⟩ := wget_ex hk
  have h1 : wget (pre ++ (blk ++ post)) (b + k) = some e := by
    rw [wget_cat, if_neg (by omega), show b + k - pre.length = k by omega, wget_cat, if_pos hk]
    exact he
  rw [cellOf_get h1, he]
theorem cat_out {pre blk blk' post : pWd} {rg : pRg} {b k : Nat} (hb : pre.length = b) (hl : blk.length = blk'.length) (hk : ¬ (b ≤ k ∧ k < b + blk.length)) : cellOf (pre ++ (blk ++ post)) rg k = cellOf (pre ++ (blk' ++ post)) rg k := by
  have h1 : wget (pre ++ (blk ++ post)) k = wget (pre ++ (blk' ++ post)) k := by
    by_cases h : k < pre.length
    · rw [wget_cat, if_pos h, wget_cat, if_pos h]
    · rw [wget_cat, if_neg h, wget_cat, if_neg (by omega), wget_cat, if_neg h, wget_cat, if_neg (by omega), hl]
  unfold cellOf
  rw [h1]
/-- the cells of an object that begins at b are those of its contracts -/
def BOK (b : Nat) : Prop := ∀ (x v u : pLV) (h : Nat → pLV) (j : Nat), pDm 39 10 j → wget (lawP b x v u h) (ρC j) = (cellOf (cw hs0 x v u) (10, h) j).map (re (ρB b))
theorem pFr_B {b : Nat} (hB : BOK b) {pre post : pWd} (hb : pre.length = b) (x v u : pLV) (h : Nat → pLV) (x' v' u' : pLV) (h' : Nat → pLV) (rg : pRg) : pFr (ρB b) (pre ++ (lawP b x v u h ++ post)) rg (cw hs0 x v u) (10, h) (cw hs0 x' v' u') (10, h') (pre ++ (lawP b x' v' u' h' ++ post)) rg := by
  have hdm : ∀ j, pDm (cw hs0 x' v' u').length (10, h).1 j → pDm 39 10 j := fun j hj => hj
  refine ⟨fun j e hj => ?_, fun j j' hj hj' e => ?_, fun j hj => ?_, fun j h1 h2 => ?_, fun k e hk => ?_, ρB_stat b, ?_, rfl⟩
  · have hd : pDm 39 10 j := cellOf_dom hj
    rw [ρB_at hd, cat_at hb (by rw [lawP_len]; exact ρC_lt hd), hB x v u h j hd, hj]
    rfl
  · rw [ρB_at (hdm j hj), ρB_at (hdm j' hj')] at e
    exact ρC_inj (hdm j hj) (hdm j' hj') (by omega)
  · have hd : pDm 39 10 j := hj
    have := ρC_lt hd
    refine Or.inl ?_
    rw [ρB_at hd, List.length_append, List.length_append, lawP_len]
    omega
  · have h1 : 39 ≤ j := h1
    have h2 : j < 39 := h2
    omega
  · by_cases hk1 : b ≤ k ∧ k < b + 179
    · obtain ⟨i, rfl⟩ : ∃ i, k = b + i := ⟨k - b, by omega⟩
      have hi : i < 179 := by omega
      obtain ⟨j, hj, rfl⟩ := ρC_sur hi
      rw [cat_at hb (by rw [lawP_len]; exact hi), hB x' v' u' h' j hj] at hk
      cases he : cellOf (cw hs0 x' v' u') (10, h') j with
      | none => rw [he] at hk; cases hk
      | some e0 =>
        rw [he] at hk
        exact Or.inl ⟨j, e0, hj, (ρB_at hj).symm, he, (Option.some.inj hk).symm⟩
    · refine Or.inr ⟨?_, fun j hj ej => ?_⟩
      · rw [← hk]
        exact cat_out hb (by rw [lawP_len, lawP_len]) (by rw [lawP_len]; exact hk1)
      · have hj' : pDm 39 10 j := hj
        have := ρC_lt hj'
        rw [ρB_at hj'] at ej
        omega
  · rw [List.length_append, List.length_append, List.length_append, List.length_append, lawP_len, lawP_len]
    show _ = _ + (39 - 39)
    omega
/-- no reference -/
def nrO : Option Value → Bool
  | some (.ref _) => false
  | _ => true
theorem nrO_map (ρ : Nat → Nat) {v : Option Value} (h : nrO v = true) : v.map (cv ρ) = v := by
  cases v with
  | none => rfl
  | some x => cases x with
    | ref a => cases h
    | _ => rfl
/-- a call on the object that begins at b -/
def FB (b : Nat) (F : pF) : pF := fun args w rg => match args with
  | .ref r :: as => match Nat.beq r b with
    | true => match intsB as with
      | true => cut b w (fun pre w1 => cut 179 w1 (fun blk post => unP b blk (fun x v u h => match F (.ref 0 :: as) (cw hs0 x v u) (10, h) with
        | some (val, w2, rg1) => match nrO val with
          | true => unB w2 (fun f' x' v' u' => pif (f' = hs0 ∧ rg1.1 = 10) (some (val, pre ++ (lawP b x' v' u' rg1.2 ++ post), rg)) none)
          | false => none
        | none => none)))
      | false => none
    | false => none
  | _ => none
theorem FB_some {b : Nat} {F : pF} {args : List Value} {w : pWd} {rg : pRg} {val : Option Value} {w' : pWd} {rg' : pRg} (hf : FB b F args w rg = some (val, w', rg')) : ∃ as pre post x v u h x' v' u' h', args = .ref b :: as ∧ intsB as = true ∧ pre.length = b ∧ w = pre ++ (lawP b x v u h ++ post) ∧ F (.ref 0 :: as) (cw hs0 x v u) (10, h) = some (val, cw hs0 x' v' u', (10, h')) ∧ nrO val = true ∧ w' = pre ++ (lawP b x' v' u' h' ++ post) ∧ rg' = rg := by
  unfold FB at hf
  split at hf
  next r as =>
    split at hf
    next hr =>
      have hr := Nat.eq_of_beq_eq_true hr
      subst hr
      split at hf
      next hi =>
        obtain ⟨pre, w1, hw, hf, hp⟩ := cut_some hf
        obtain ⟨blk, post, hw1, hf, -⟩ := cut_some hf
        obtain ⟨x, v, u, h, hb, h2⟩ := unP_some hf
        clear hf
        split at h2
        next val0 w2 rg1 hF =>
          split at h2
          next hn =>
            obtain ⟨f', x', v', u', hw2, h3⟩ := unB_some h2
            clear h2
            by_cases hc : f' = hs0 ∧ rg1.1 = 10
            · have h3 := (pif_t hc).symm.trans h3
              cases h3
              obtain ⟨rfl, hr⟩ := hc
              refine ⟨as, pre, post, x, v, u, h, x', v', u', rg1.2, rfl, hi, hp, ?_, ?_, hn, rfl, rfl⟩
              · rw [hw, hw1, hb]
              · rw [hF, hw2]
                obtain ⟨r1, r2⟩ := rg1
                cases hr
                rfl
            · have h3 := (pif_f hc).symm.trans h3
              cases h3
          next => cases h2
        next => cases h2
      next => cases hf
    next => cases hf
  next => cases hf
theorem pFOK_FB {b : Nat} (hB : BOK b) {l : Launch} {y : MethodName} {ws : List Cond} {rm : Room} {F : pF} (hF : pFOK l y ws rm F) : pFOK l y ws rm (FB b F) := by
  refine pFOK_comp hF fun args w rg val w' rg' hf => ?_
  obtain ⟨as, pre, post, x, v, u, h, x', v', u', h', rfl, hi, hp, rfl, h2, hn, rfl, rfl⟩ := FB_some hf
  refine ⟨ρB b, .ref 0 :: as, cw hs0 x v u, (10, h), val, cw hs0 x' v' u', (10, h'), h2, pFr_B hB hp x v u h x' v' u' h' rg', ?_, (nrO_map (ρB b) hn).symm⟩
  show Value.ref (ρB b 0) :: as.map (cv (ρB b)) = _
  rw [intsB_map _ hi]
  rfl
theorem BOK_0 : BOK 0 := cB0_all
theorem BOK_179 : BOK 179 := cB179_all
theorem rc_FB {b : Nat} (F : pF) : pRcv 8 (FB b F) := by
  intro args w rg o hf
  obtain ⟨val, w', rg'⟩ := o
  obtain ⟨as, pre, post, x, v, u, h, x', v', u', h', rfl, hi, hp, rfl, -⟩ := FB_some hf
  have h0 : cellOf (pre ++ (lawP b x v u h ++ post)) rg (b + 0) = wget (lawP b x v u h) 0 := cat_at hp (by rw [lawP_len]; omega)
  exact ⟨_, _, _, rfl, h0⟩
/-- the law's world -/
def lawW (x v u : pLV) (h : Nat → pLV) (x2 v2 u2 : pLV) (h2 : Nat → pLV) : pWd := lawP 0 x v u h ++ lawP 179 x2 v2 u2 h2
theorem lawW_len (x v u : pLV) (h : Nat → pLV) (x2 v2 u2 : pLV) (h2 : Nat → pLV) : (lawW x v u h x2 v2 u2 h2).length = 358 := by
  unfold lawW
  rw [List.length_append, lawP_len, lawP_len]
theorem lawP_nx (b : Nat) (x v u : pLV) (h : Nat → pLV) : lawP b (NX x) (NL v) (NL u) h = lawP b x v u h := rfl
theorem FB_gen {b : Nat} {F : pF} {as : List Value} {x v u : pLV} {h : Nat → pLV} {rg : pRg} {val : Option Value} {x' v' u' : pLV} {h' : Nat → pLV} {pre post : pWd} (hu : ∀ (c : pLV → pLV → pLV → (Nat → pLV) → Option pOut), unP b (lawP b x v u h) c = c (NX x) (NL v) (NL u) (NHm h)) (hp : pre.length = b) (hF : F (.ref 0 :: as) (cw hs0 (NX x) (NL v) (NL u)) (10, NHm h) = some (val, cw hs0 x' v' u', (10, h'))) (hi : intsB as = true) (hn : nrO val = true) : FB b F (.ref b :: as) (pre ++ (lawP b x v u h ++ post)) rg = some (val, pre ++ (lawP b x' v' u' h' ++ post), rg) := by
  unfold FB
  simp only [hi, Nat.beq_refl]
  rw [cut_app' hp, cut_app' (lawP_len b x v u h), hu, hF]
  simp only [hn]
  rw [unB_at, lawP_nx]
  exact pif_t (by simp)
theorem FB_o {F : pF} {as : List Value} {x v u : pLV} {h : Nat → pLV} {x2 v2 u2 : pLV} {h2 : Nat → pLV} {rg : pRg} {val : Option Value} {x' v' u' : pLV} {h' : Nat → pLV} (hF : F (.ref 0 :: as) (cw hs0 (NX x) (NL v) (NL u)) (10, NHm h) = some (val, cw hs0 x' v' u', (10, h'))) (hi : intsB as = true) (hn : nrO val = true) : FB 0 F (.ref 0 :: as) (lawW x v u h x2 v2 u2 h2) rg = some (val, lawW x' v' u' h' x2 v2 u2 h2, rg) :=
  FB_gen (pre := []) (post := lawP 179 x2 v2 u2 h2) (fun c => unP_eq0 x v u h c) rfl hF hi hn
theorem FB_q {F : pF} {as : List Value} {x v u : pLV} {h : Nat → pLV} {x2 v2 u2 : pLV} {h2 : Nat → pLV} {rg : pRg} {val : Option Value} {x' v' u' : pLV} {h' : Nat → pLV} (hF : F (.ref 0 :: as) (cw hs0 (NX x2) (NL v2) (NL u2)) (10, NHm h2) = some (val, cw hs0 x' v' u', (10, h'))) (hi : intsB as = true) (hn : nrO val = true) : FB 179 F (.ref 179 :: as) (lawW x v u h x2 v2 u2 h2) rg = some (val, lawW x v u h x' v' u' h', rg) := by
  have g := FB_gen (b := 179) (pre := lawP 0 x v u h) (post := []) (rg := rg) (fun c => unP_eq179 x2 v2 u2 h2 c) (lawP_len 0 x v u h) hF hi hn
  rw [List.append_nil, List.append_nil] at g
  exact g
end
