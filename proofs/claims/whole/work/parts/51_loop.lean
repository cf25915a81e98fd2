noncomputable section
/-! THE TWO SIDES ARE ALIKE: a loop and the reference's row -/
def encB (bk : Int32) (v : pLV) : List Int32 := [v 1 0, v 1 1, v 1 2, v 1 3, v 1 4, v 1 5, v 1 6, v 1 7, v 1 8, v 0 0, v 0 1, bk, v 0 3, v 0 27, v 0 4, v 0 5, ltC (v 0 28) (v 3 0), v 0 6, v 0 10, v 0 11, v 0 12, v 0 13, v 0 14, v 0 15, v 0 16, v 0 17, v 0 18, v 0 19, v 0 20, v 0 21, v 0 22, v 0 23, v 0 24, v 0 25, v 0 26, v 2 0, v 2 1, v 2 2, v 2 3, v 0 28]
/-- the row's first forty places -/
def RC (bk : Int32) (v : pLV) (f : Nat → Int32) : Prop := ∀ j, j < 40 → f j = sget (encB bk v) j
/-- its measurements -/
def RK (v : pLV) (f : Nat → Int32) : Prop := ∀ j, j < (v 0 28).toNatClampNeg → f (40 + j) = v 3 j
/-- its schedule -/
def RE (v : pLV) (f : Nat → Int32) : Prop := f 49 = v 0 29 ∧ ∀ k, k < (v 0 29).toNatClampNeg → f (50 + 3 * k) = v 4 k ∧ f (50 + 3 * k + 1) = v 5 k ∧ f (50 + 3 * k + 2) = v 6 k
def IB (lo hi : Int) (x : Int32) : Prop := lo ≤ x.toInt ∧ x.toInt ≤ hi
def IRm (v : pLV) : Prop := v 0 30 = 20000 ∧ v 0 31 = 30000 ∧ v 0 32 = 10000 ∧ v 0 33 = 10000
def ICh (v : pLV) : Prop := CH 20000 (v 0 10) (v 0 11) ∧ CH 30000 (v 0 13) (v 0 14) ∧ CH 10000 (v 0 16) (v 0 17) ∧ CH 10000 (v 0 19) (v 0 20)
def ISt (v : pLV) : Prop := IB 0 200 (v 1 0) ∧ IB 0 5000 (v 1 1) ∧ IB 0 2000 (v 1 2) ∧ IB 0 1000 (v 1 3) ∧ IB 0 8 (v 1 5) ∧ IB 0 2000 (v 1 7) ∧ IB 0 20 (v 1 8)
def IGr (v : pLV) : Prop := IB 0 3 (v 0 1) ∧ 0 ≤ (v 0 2).toInt ∧ 0 ≤ (v 0 3).toInt ∧ IB 0 3000 (v 0 27) ∧ IB 0 9 (v 0 28) ∧ IB 0 20 (v 0 29)
def IEn (v : pLV) : Prop := ∀ k, k < (v 0 29).toNatClampNeg → (v 5 k = 1 → IB 0 3 (v 6 k)) ∧ (¬ v 5 k = 0 → ¬ v 5 k = 1 → IB 0 2000 (v 6 k))
def IPa (B : Int) (v : pLV) : Prop := 0 ≤ (v 2 0).toInt ∧ 0 ≤ (v 2 1).toInt ∧ 0 ≤ (v 2 2).toInt ∧ 0 ≤ (v 2 3).toInt ∧ (v 2 0).toInt + (v 2 1).toInt + (v 2 2).toInt + (v 2 3).toInt ≤ B
def Inv (B : Int) (v : pLV) : Prop := IRm v ∧ ICh v ∧ ISt v ∧ IGr v ∧ IEn v ∧ IPa B v
/-- a loop and a row, bk being the row's time of the break -/
def SL (B : Int) (bk : Int32) (v : pLV) (f : Nat → Int32) : Prop := RC bk v f ∧ RK v f ∧ RE v f ∧ Inv B v ∧ 0 ≤ bk.toInt
theorem upd_ne {f : Nat → Int32} {k j : Nat} {x : Int32} (h : j ≠ k) : upd f k x j = f j := by
  unfold upd
  exact if_neg h
theorem SL.nl {B : Int} {bk : Int32} {v : pLV} {f : Nat → Int32} (h : SL B bk v f) : SL B bk (NL v) f := h
/-- what a tick leaves of the reference, but its row and its notes -/
def FR (m m' : pLV) : Prop := m' 2 = m 2 ∧ m' 3 = m 3 ∧ m' 4 = m 4 ∧ m' 5 = m 5 ∧ m' 6 = m 6 ∧ m' 0 2 = m 0 2 ∧ m' 0 4 = m 0 4 ∧ m' 0 6 = m 0 6 ∧ m' 0 7 = m 0 7 ∧ m' 0 8 = m 0 8
theorem FR.rf (m : pLV) : FR m m := ⟨rfl, rfl, rfl, rfl, rfl, rfl, rfl, rfl, rfl, rfl⟩
theorem FR.tr {a b c : pLV} (h : FR a b) (g : FR b c) : FR a c := by
  obtain ⟨a1, a2, a3, a4, a5, a6, a7, a8, a9, a10⟩ := h
  obtain ⟨b1, b2, b3, b4, b5, b6, b7, b8, b9, b10⟩ := g
  exact ⟨b1.trans a1, b2.trans a2, b3.trans a3, b4.trans a4, b5.trans a5, b6.trans a6, b7.trans a7, b8.trans a8, b9.trans a9, b10.trans a10⟩
theorem FR.nm (m : pLV) : FR m (NM m) := FR.rf m
theorem takeM_FR (n : Nat) (m : pLV) (x : Int32) : FR m (takeM n m x) := ⟨rfl, rfl, rfl, rfl, rfl, rfl, rfl, rfl, rfl, rfl⟩
theorem fillM_FR (n : Nat) (m : pLV) (a b : Int32) : FR m (fillM n m a b) := by
  unfold fillM flV
  split
  · exact ⟨rfl, rfl, rfl, rfl, rfl, rfl, rfl, rfl, rfl, rfl⟩
  · exact ⟨rfl, rfl, rfl, rfl, rfl, rfl, rfl, rfl, rfl, rfl⟩
theorem takeM_hi (n : Nat) (m : pLV) (x : Int32) (hn : n < 4) {k : Nat} (hk : 40 ≤ k) : takeM n m x 1 k = m 1 k := by
  show upd (upd (m 1) (18 + 3 * n) _) (19 + 3 * n) _ k = m 1 k
  rw [upd_ne (by omega), upd_ne (by omega)]
theorem fillM_hi (n : Nat) (m : pLV) (a b : Int32) (hn : n < 4) {k : Nat} (hk : 40 ≤ k) : fillM n m a b 1 k = m 1 k := by
  have h1 : flA n m a b 1 k = m 1 k := by
    show upd (upd (m 1) (18 + 3 * n) _) (19 + 3 * n) _ k = m 1 k
    rw [upd_ne (by omega), upd_ne (by omega)]
  unfold fillM flV
  split
  · exact h1
  · show upd (takeM n (NM (vS (NM (flA n m a b)) 11 1)) _ 1) 32 _ k = m 1 k
    rw [upd_ne (by omega), takeM_hi n _ _ hn hk]
    exact h1
/-- rows that are the same from place 40 on -/
theorem RK.hi {v v' : pLV} {f f' : Nat → Int32} (h : RK v f) (e1 : v' 0 28 = v 0 28) (e2 : v' 3 = v 3) (hf : ∀ k, 40 ≤ k → f' k = f k) : RK v' f' := by
  intro j hj
  rw [e1] at hj
  rw [e2, hf _ (by omega)]
  exact h j hj
theorem RE.hi {v v' : pLV} {f f' : Nat → Int32} (h : RE v f) (e1 : v' 0 29 = v 0 29) (e4 : v' 4 = v 4) (e5 : v' 5 = v 5) (e6 : v' 6 = v 6) (hf : ∀ k, 40 ≤ k → f' k = f k) : RE v' f' := by
  refine ⟨by rw [e1, hf _ (by omega)]; exact h.1, fun k hk => ?_⟩
  rw [e1] at hk
  rw [e4, e5, e6, hf _ (by omega), hf _ (by omega), hf _ (by omega)]
  exact h.2 k hk
theorem tm_eq (x s : Int32) : (if x < s then x else s) = mnI x s := by
  unfold mnI
  by_cases h : s < x
  · rw [if_pos h, if_neg (by rw [ilt] at h ⊢; omega)]
  · rw [if_neg h]
    by_cases h2 : x < s
    · rw [if_pos h2]
    · rw [if_neg h2]
      rw [ieq]
      rw [ilt] at h h2
      omega
theorem tf_eq {r : Int} {f g y : Int32} (h : CH r f g) (hr : r ≤ 3000000) : (if f + g = 0 then (0 : Int32) else (y.toInt64 * f.toInt64 / (f + g).toInt64).toInt32) = tkR f g y := by
  have hs := h.sum hr
  obtain ⟨h1, h2, h3⟩ := h
  unfold tkR
  by_cases h0 : f + g = 0
  · rw [if_pos h0, if_neg (by rw [h0]; exact Int32.lt_irrefl)]
  · rw [if_neg h0]
    have : (0 : Int32) < f + g := by
      rw [ilt, Int32.toInt_zero, hs]
      have : ¬ (f + g).toInt = (0 : Int32).toInt := fun q => h0 (ieq.mpr q)
      rw [Int32.toInt_zero, hs] at this
      omega
    rw [if_pos this]
theorem tg_eq {r : Int} {f g y : Int32} (h : CH r f g) (hr : r ≤ 3000000) (hy0 : 0 ≤ y.toInt) (hy : y.toInt ≤ f.toInt + g.toInt) : g - (y - tkR f g y) = tkG f g y := by
  have hs := h.sum hr
  unfold tkG
  by_cases h0 : (0 : Int32) < f + g
  · rw [if_pos h0]
  · rw [if_neg h0]
    have e : tkR f g y = 0 := if_neg h0
    rw [e, Int32.sub_zero]
    have h0' : ¬ (0 : Int32).toInt < (f + g).toInt := fun q => h0 (ilt.mpr q)
    rw [Int32.toInt_zero, hs] at h0'
    have : y = 0 := by
      rw [ieq, Int32.toInt_zero]
      omega
    rw [this, Int32.sub_zero]
/-- chest 0: something is taken -/
def tv0 (v : pLV) (x : Int32) : pLV := vS (vS v 10 (v 0 10 - tkR (v 0 10) (v 0 11) (mnI x ((v 0 10) + (v 0 11))))) 11 (tkG (v 0 10) (v 0 11) (mnI x ((v 0 10) + (v 0 11))))
set_option maxHeartbeats 1000000 in
theorem take_S0 {B : Int} {bk : Int32} {v m : pLV} {x : Int32} (h : SL B bk v (m 1)) (hx : 0 ≤ x.toInt) : SL B bk (tv0 v x) (takeM 0 m x 1) ∧ takeM 0 m x 0 9 = tkR (v 0 10) (v 0 11) (mnI x ((v 0 10) + (v 0 11))) ∧ takeM 0 m x 0 10 = (mnI x ((v 0 10) + (v 0 11))) - tkR (v 0 10) (v 0 11) (mnI x ((v 0 10) + (v 0 11))) := by
  have hc := h.2.2.2.1.2.1.1
  have hs := hc.sum (by omega)
  have hc' := hc
  obtain ⟨c1, c2, c3⟩ := hc'
  have e1 : m 1 18 = v 0 10 := h.1 18 (by omega)
  have e2 : m 1 19 = v 0 11 := h.1 19 (by omega)
  have es : sumM 0 m = v 0 10 + v 0 11 := by
    show m 1 18 + m 1 19 = _
    rw [e1, e2]
  have em : tmM 0 m x = (mnI x ((v 0 10) + (v 0 11))) := by
    unfold tmM
    rw [es]
    exact tm_eq _ _
  have hm := mnI_i x ((v 0 10) + (v 0 11))
  have hm0 : 0 ≤ ((mnI x ((v 0 10) + (v 0 11)))).toInt := by omega
  have hm1 : ((mnI x ((v 0 10) + (v 0 11)))).toInt ≤ ((v 0 10)).toInt + ((v 0 11)).toInt := by omega
  have et : tfM 0 m (tmM 0 m x) = tkR (v 0 10) (v 0 11) (mnI x ((v 0 10) + (v 0 11))) := by
    rw [em]
    unfold tfM
    rw [es, show m 1 (18 + 3 * 0) = v 0 10 from e1]
    exact tf_eq hc (by omega)
  have eF : takeM 0 m x 1 18 = v 0 10 - tkR (v 0 10) (v 0 11) (mnI x ((v 0 10) + (v 0 11))) := by
    show m 1 18 - tfM 0 m (tmM 0 m x) = _
    rw [et, e1]
  have eG : takeM 0 m x 1 19 = tkG (v 0 10) (v 0 11) (mnI x ((v 0 10) + (v 0 11))) := by
    show m 1 19 - (tmM 0 m x - tfM 0 m (tmM 0 m x)) = _
    rw [et, em, e2]
    exact tg_eq hc (by omega) hm0 hm1
  have hcn := take_CH hc (by omega) hm0 hm1
  refine ⟨⟨by
      intro j hj
      match j, hj with
      | 0, _ => exact h.1 0 (Nat.le_of_ble_eq_true rfl)
      | 1, _ => exact h.1 1 (Nat.le_of_ble_eq_true rfl)
      | 2, _ => exact h.1 2 (Nat.le_of_ble_eq_true rfl)
      | 3, _ => exact h.1 3 (Nat.le_of_ble_eq_true rfl)
      | 4, _ => exact h.1 4 (Nat.le_of_ble_eq_true rfl)
      | 5, _ => exact h.1 5 (Nat.le_of_ble_eq_true rfl)
      | 6, _ => exact h.1 6 (Nat.le_of_ble_eq_true rfl)
      | 7, _ => exact h.1 7 (Nat.le_of_ble_eq_true rfl)
      | 8, _ => exact h.1 8 (Nat.le_of_ble_eq_true rfl)
      | 9, _ => exact h.1 9 (Nat.le_of_ble_eq_true rfl)
      | 10, _ => exact h.1 10 (Nat.le_of_ble_eq_true rfl)
      | 11, _ => exact h.1 11 (Nat.le_of_ble_eq_true rfl)
      | 12, _ => exact h.1 12 (Nat.le_of_ble_eq_true rfl)
      | 13, _ => exact h.1 13 (Nat.le_of_ble_eq_true rfl)
      | 14, _ => exact h.1 14 (Nat.le_of_ble_eq_true rfl)
      | 15, _ => exact h.1 15 (Nat.le_of_ble_eq_true rfl)
      | 16, _ => exact h.1 16 (Nat.le_of_ble_eq_true rfl)
      | 17, _ => exact h.1 17 (Nat.le_of_ble_eq_true rfl)
      | 18, _ => exact eF
      | 19, _ => exact eG
      | 20, _ => exact h.1 20 (Nat.le_of_ble_eq_true rfl)
      | 21, _ => exact h.1 21 (Nat.le_of_ble_eq_true rfl)
      | 22, _ => exact h.1 22 (Nat.le_of_ble_eq_true rfl)
      | 23, _ => exact h.1 23 (Nat.le_of_ble_eq_true rfl)
      | 24, _ => exact h.1 24 (Nat.le_of_ble_eq_true rfl)
      | 25, _ => exact h.1 25 (Nat.le_of_ble_eq_true rfl)
      | 26, _ => exact h.1 26 (Nat.le_of_ble_eq_true rfl)
      | 27, _ => exact h.1 27 (Nat.le_of_ble_eq_true rfl)
      | 28, _ => exact h.1 28 (Nat.le_of_ble_eq_true rfl)
      | 29, _ => exact h.1 29 (Nat.le_of_ble_eq_true rfl)
      | 30, _ => exact h.1 30 (Nat.le_of_ble_eq_true rfl)
      | 31, _ => exact h.1 31 (Nat.le_of_ble_eq_true rfl)
      | 32, _ => exact h.1 32 (Nat.le_of_ble_eq_true rfl)
      | 33, _ => exact h.1 33 (Nat.le_of_ble_eq_true rfl)
      | 34, _ => exact h.1 34 (Nat.le_of_ble_eq_true rfl)
      | 35, _ => exact h.1 35 (Nat.le_of_ble_eq_true rfl)
      | 36, _ => exact h.1 36 (Nat.le_of_ble_eq_true rfl)
      | 37, _ => exact h.1 37 (Nat.le_of_ble_eq_true rfl)
      | 38, _ => exact h.1 38 (Nat.le_of_ble_eq_true rfl)
      | 39, _ => exact h.1 39 (Nat.le_of_ble_eq_true rfl)
      | j + 40, hj => exact absurd hj (by omega), h.2.1.hi rfl rfl (fun k hk => takeM_hi 0 m x (by omega) hk), h.2.2.1.hi rfl rfl rfl rfl (fun k hk => takeM_hi 0 m x (by omega) hk), ⟨h.2.2.2.1.1, ⟨hcn, h.2.2.2.1.2.1.2.1, h.2.2.2.1.2.1.2.2.1, h.2.2.2.1.2.1.2.2.2⟩, h.2.2.2.1.2.2⟩, h.2.2.2.2⟩, et, ?_⟩
  show tmM 0 m x - tfM 0 m (tmM 0 m x) = _
  rw [et, em]
set_option maxHeartbeats 1000000 in
theorem fill_S0 {B : Int} {bk : Int32} {v m : pLV} {a b : Int32} (h : SL B bk v (m 1)) (ha : 0 ≤ a.toInt) (hb : 0 ≤ b.toInt) (hab : a.toInt + b.toInt ≤ 1000000) : SL B bk (pourV 0 v a b) (fillM 0 m a b 1) ∧ fillR 0 m a b = pourR 0 v a b ∧ fillM 0 m a b 0 11 = (if (v 0 10) + a + ((v 0 11) + b) - (v 0 30) ≤ 0 then 0 else 1) ∧ fillM 0 m a b 0 12 = m 0 12 := by
  have hc := h.2.2.2.1.2.1.1
  have hR : (v 0 30).toInt = 20000 := by rw [h.2.2.2.1.1.1]; rfl
  have hrm : rmI 0 = (v 0 30) := by rw [h.2.2.2.1.1.1]; rfl
  obtain ⟨p1, p2, p3, p4, p5, p6, p7⟩ := pour_ok hc (by omega) hR ha hb hab (by omega)
  have e1 : m 1 18 = v 0 10 := h.1 18 (by omega)
  have e2 : m 1 19 = v 0 11 := h.1 19 (by omega)
  have e3 : m 1 32 = v 0 24 := h.1 32 (by omega)
  have es : flS 0 (NM (flA 0 m a b)) = (v 0 10) + a + ((v 0 11) + b) - (v 0 30) := by
    show m 1 18 + a + (m 1 19 + b) - rmI 0 = _
    rw [e1, e2, hrm]
  by_cases hs : (v 0 10) + a + ((v 0 11) + b) - (v 0 30) ≤ 0
  · have hq : fillM 0 m a b = vS (NM (flA 0 m a b)) 11 0 := if_pos (by rw [es]; exact hs)
    have hq2 : fillR 0 m a b = 0 := if_pos (by rw [es]; exact hs)
    have r0 : puR (v 0 30) (v 0 10) (v 0 11) a b = 0 := if_pos hs
    have eF : fillM 0 m a b 1 18 = puF (v 0 30) (v 0 10) (v 0 11) a b := by
      rw [hq]
      show m 1 18 + a = _
      unfold puF
      rw [r0, Int32.sub_zero, e1]
    have eG : fillM 0 m a b 1 19 = puG (v 0 30) (v 0 10) (v 0 11) a b := by
      rw [hq]
      show m 1 19 + b = _
      rw [show puG (v 0 30) (v 0 10) (v 0 11) a b = _ from if_pos hs, e2]
    have eS : fillM 0 m a b 1 32 = v 0 24 + pourR 0 v a b := by
      rw [hq]
      show m 1 32 = v 0 24 + puR (v 0 30) (v 0 10) (v 0 11) a b
      rw [r0, Int32.add_zero, e3]
    refine ⟨⟨?_, h.2.1.hi rfl rfl (fun k hk => fillM_hi 0 m a b (by omega) hk), h.2.2.1.hi rfl rfl rfl rfl (fun k hk => fillM_hi 0 m a b (by omega) hk), ⟨h.2.2.2.1.1, ⟨p1, h.2.2.2.1.2.1.2.1, h.2.2.2.1.2.1.2.2.1, h.2.2.2.1.2.1.2.2.2⟩, h.2.2.2.1.2.2⟩, h.2.2.2.2⟩, ?_, ?_, ?_⟩
    · rw [hq] at eF eG eS ⊢
      exact (by
        intro j hj
        match j, hj with
        | 0, _ => exact h.1 0 (Nat.le_of_ble_eq_true rfl)
        | 1, _ => exact h.1 1 (Nat.le_of_ble_eq_true rfl)
        | 2, _ => exact h.1 2 (Nat.le_of_ble_eq_true rfl)
        | 3, _ => exact h.1 3 (Nat.le_of_ble_eq_true rfl)
        | 4, _ => exact h.1 4 (Nat.le_of_ble_eq_true rfl)
        | 5, _ => exact h.1 5 (Nat.le_of_ble_eq_true rfl)
        | 6, _ => exact h.1 6 (Nat.le_of_ble_eq_true rfl)
        | 7, _ => exact h.1 7 (Nat.le_of_ble_eq_true rfl)
        | 8, _ => exact h.1 8 (Nat.le_of_ble_eq_true rfl)
        | 9, _ => exact h.1 9 (Nat.le_of_ble_eq_true rfl)
        | 10, _ => exact h.1 10 (Nat.le_of_ble_eq_true rfl)
        | 11, _ => exact h.1 11 (Nat.le_of_ble_eq_true rfl)
        | 12, _ => exact h.1 12 (Nat.le_of_ble_eq_true rfl)
        | 13, _ => exact h.1 13 (Nat.le_of_ble_eq_true rfl)
        | 14, _ => exact h.1 14 (Nat.le_of_ble_eq_true rfl)
        | 15, _ => exact h.1 15 (Nat.le_of_ble_eq_true rfl)
        | 16, _ => exact h.1 16 (Nat.le_of_ble_eq_true rfl)
        | 17, _ => exact h.1 17 (Nat.le_of_ble_eq_true rfl)
        | 18, _ => exact eF
        | 19, _ => exact eG
        | 20, _ => exact h.1 20 (Nat.le_of_ble_eq_true rfl)
        | 21, _ => exact h.1 21 (Nat.le_of_ble_eq_true rfl)
        | 22, _ => exact h.1 22 (Nat.le_of_ble_eq_true rfl)
        | 23, _ => exact h.1 23 (Nat.le_of_ble_eq_true rfl)
        | 24, _ => exact h.1 24 (Nat.le_of_ble_eq_true rfl)
        | 25, _ => exact h.1 25 (Nat.le_of_ble_eq_true rfl)
        | 26, _ => exact h.1 26 (Nat.le_of_ble_eq_true rfl)
        | 27, _ => exact h.1 27 (Nat.le_of_ble_eq_true rfl)
        | 28, _ => exact h.1 28 (Nat.le_of_ble_eq_true rfl)
        | 29, _ => exact h.1 29 (Nat.le_of_ble_eq_true rfl)
        | 30, _ => exact h.1 30 (Nat.le_of_ble_eq_true rfl)
        | 31, _ => exact h.1 31 (Nat.le_of_ble_eq_true rfl)
        | 32, _ => exact eS
        | 33, _ => exact h.1 33 (Nat.le_of_ble_eq_true rfl)
        | 34, _ => exact h.1 34 (Nat.le_of_ble_eq_true rfl)
        | 35, _ => exact h.1 35 (Nat.le_of_ble_eq_true rfl)
        | 36, _ => exact h.1 36 (Nat.le_of_ble_eq_true rfl)
        | 37, _ => exact h.1 37 (Nat.le_of_ble_eq_true rfl)
        | 38, _ => exact h.1 38 (Nat.le_of_ble_eq_true rfl)
        | 39, _ => exact h.1 39 (Nat.le_of_ble_eq_true rfl)
        | j + 40, hj => exact absurd hj (by omega))
    · rw [hq2]; exact r0.symm
    · rw [hq, if_pos hs]; rfl
    · rw [hq]; rfl
  · have hq : fillM 0 m a b = flW (flT 0 (NM (flA 0 m a b))) := if_neg (by rw [es]; exact hs)
    have hq2 : fillR 0 m a b = flT 0 (NM (flA 0 m a b)) 0 9 := if_neg (by rw [es]; exact hs)
    have hs' := ilt.mp (Int32.not_le.mp hs)
    rw [Int32.toInt_zero] at hs'
    have hc2 : CH 2000000 ((v 0 10) + a) ((v 0 11) + b) := by
      obtain ⟨c1, c2, c3⟩ := hc
      exact ⟨by omega, by omega, by omega⟩
    have hsur : ((v 0 10) + a + ((v 0 11) + b) - (v 0 30)).toInt ≤ ((v 0 10) + a).toInt + ((v 0 11) + b).toInt := by omega
    have em : tmM 0 (NM (vS (NM (flA 0 m a b)) 11 1)) (flS 0 (NM (flA 0 m a b))) = (v 0 10) + a + ((v 0 11) + b) - (v 0 30) := by
      rw [es]
      unfold tmM
      have e4 : sumM 0 (NM (vS (NM (flA 0 m a b)) 11 1)) = (v 0 10) + a + ((v 0 11) + b) := by
        show m 1 18 + a + (m 1 19 + b) = _
        rw [e1, e2]
      rw [e4, tm_eq]
      rw [ieq, mnI_i]
      have := hc2.sum (by omega)
      omega
    have et : tfM 0 (NM (vS (NM (flA 0 m a b)) 11 1)) ((v 0 10) + a + ((v 0 11) + b) - (v 0 30)) = tkR ((v 0 10) + a) ((v 0 11) + b) ((v 0 10) + a + ((v 0 11) + b) - (v 0 30)) := by
      unfold tfM
      have e4 : sumM 0 (NM (vS (NM (flA 0 m a b)) 11 1)) = (v 0 10) + a + ((v 0 11) + b) := by
        show m 1 18 + a + (m 1 19 + b) = _
        rw [e1, e2]
      rw [e4, show (NM (vS (NM (flA 0 m a b)) 11 1)) 1 (18 + 3 * 0) = (v 0 10) + a from by show m 1 18 + a = _; rw [e1]]
      exact tf_eq hc2 (by omega)
    have r0 : puR (v 0 30) (v 0 10) (v 0 11) a b = tkR ((v 0 10) + a) ((v 0 11) + b) ((v 0 10) + a + ((v 0 11) + b) - (v 0 30)) := if_neg hs
    have e9 : flT 0 (NM (flA 0 m a b)) 0 9 = puR (v 0 30) (v 0 10) (v 0 11) a b := by
      show tfM 0 (NM (vS (NM (flA 0 m a b)) 11 1)) (tmM 0 (NM (vS (NM (flA 0 m a b)) 11 1)) (flS 0 (NM (flA 0 m a b)))) = _
      rw [em, et, r0]
    have eF : fillM 0 m a b 1 18 = puF (v 0 30) (v 0 10) (v 0 11) a b := by
      rw [hq]
      show m 1 18 + a - tfM 0 (NM (vS (NM (flA 0 m a b)) 11 1)) (tmM 0 (NM (vS (NM (flA 0 m a b)) 11 1)) (flS 0 (NM (flA 0 m a b)))) = _
      unfold puF
      rw [em, et, r0, e1]
    have eG : fillM 0 m a b 1 19 = puG (v 0 30) (v 0 10) (v 0 11) a b := by
      rw [hq]
      show m 1 19 + b - (tmM 0 (NM (vS (NM (flA 0 m a b)) 11 1)) (flS 0 (NM (flA 0 m a b))) - tfM 0 (NM (vS (NM (flA 0 m a b)) 11 1)) (tmM 0 (NM (vS (NM (flA 0 m a b)) 11 1)) (flS 0 (NM (flA 0 m a b))))) = _
      rw [em, et, e2, show puG (v 0 30) (v 0 10) (v 0 11) a b = _ from if_neg hs]
      exact tg_eq hc2 (by omega) (by omega) hsur
    have eS : fillM 0 m a b 1 32 = v 0 24 + pourR 0 v a b := by
      rw [hq]
      show m 1 32 + flT 0 (NM (flA 0 m a b)) 0 9 = v 0 24 + puR (v 0 30) (v 0 10) (v 0 11) a b
      rw [e9, e3]
    refine ⟨⟨?_, h.2.1.hi rfl rfl (fun k hk => fillM_hi 0 m a b (by omega) hk), h.2.2.1.hi rfl rfl rfl rfl (fun k hk => fillM_hi 0 m a b (by omega) hk), ⟨h.2.2.2.1.1, ⟨p1, h.2.2.2.1.2.1.2.1, h.2.2.2.1.2.1.2.2.1, h.2.2.2.1.2.1.2.2.2⟩, h.2.2.2.1.2.2⟩, h.2.2.2.2⟩, ?_, ?_, ?_⟩
    · rw [hq] at eF eG eS ⊢
      exact (by
        intro j hj
        match j, hj with
        | 0, _ => exact h.1 0 (Nat.le_of_ble_eq_true rfl)
        | 1, _ => exact h.1 1 (Nat.le_of_ble_eq_true rfl)
        | 2, _ => exact h.1 2 (Nat.le_of_ble_eq_true rfl)
        | 3, _ => exact h.1 3 (Nat.le_of_ble_eq_true rfl)
        | 4, _ => exact h.1 4 (Nat.le_of_ble_eq_true rfl)
        | 5, _ => exact h.1 5 (Nat.le_of_ble_eq_true rfl)
        | 6, _ => exact h.1 6 (Nat.le_of_ble_eq_true rfl)
        | 7, _ => exact h.1 7 (Nat.le_of_ble_eq_true rfl)
        | 8, _ => exact h.1 8 (Nat.le_of_ble_eq_true rfl)
        | 9, _ => exact h.1 9 (Nat.le_of_ble_eq_true rfl)
        | 10, _ => exact h.1 10 (Nat.le_of_ble_eq_true rfl)
        | 11, _ => exact h.1 11 (Nat.le_of_ble_eq_true rfl)
        | 12, _ => exact h.1 12 (Nat.le_of_ble_eq_true rfl)
        | 13, _ => exact h.1 13 (Nat.le_of_ble_eq_true rfl)
        | 14, _ => exact h.1 14 (Nat.le_of_ble_eq_true rfl)
        | 15, _ => exact h.1 15 (Nat.le_of_ble_eq_true rfl)
        | 16, _ => exact h.1 16 (Nat.le_of_ble_eq_true rfl)
        | 17, _ => exact h.1 17 (Nat.le_of_ble_eq_true rfl)
        | 18, _ => exact eF
        | 19, _ => exact eG
        | 20, _ => exact h.1 20 (Nat.le_of_ble_eq_true rfl)
        | 21, _ => exact h.1 21 (Nat.le_of_ble_eq_true rfl)
        | 22, _ => exact h.1 22 (Nat.le_of_ble_eq_true rfl)
        | 23, _ => exact h.1 23 (Nat.le_of_ble_eq_true rfl)
        | 24, _ => exact h.1 24 (Nat.le_of_ble_eq_true rfl)
        | 25, _ => exact h.1 25 (Nat.le_of_ble_eq_true rfl)
        | 26, _ => exact h.1 26 (Nat.le_of_ble_eq_true rfl)
        | 27, _ => exact h.1 27 (Nat.le_of_ble_eq_true rfl)
        | 28, _ => exact h.1 28 (Nat.le_of_ble_eq_true rfl)
        | 29, _ => exact h.1 29 (Nat.le_of_ble_eq_true rfl)
        | 30, _ => exact h.1 30 (Nat.le_of_ble_eq_true rfl)
        | 31, _ => exact h.1 31 (Nat.le_of_ble_eq_true rfl)
        | 32, _ => exact eS
        | 33, _ => exact h.1 33 (Nat.le_of_ble_eq_true rfl)
        | 34, _ => exact h.1 34 (Nat.le_of_ble_eq_true rfl)
        | 35, _ => exact h.1 35 (Nat.le_of_ble_eq_true rfl)
        | 36, _ => exact h.1 36 (Nat.le_of_ble_eq_true rfl)
        | 37, _ => exact h.1 37 (Nat.le_of_ble_eq_true rfl)
        | 38, _ => exact h.1 38 (Nat.le_of_ble_eq_true rfl)
        | 39, _ => exact h.1 39 (Nat.le_of_ble_eq_true rfl)
        | j + 40, hj => exact absurd hj (by omega))
    · rw [hq2, e9]; rfl
    · rw [hq, if_neg hs]; rfl
    · rw [hq]; rfl
/-- chest 1: something is taken -/
def tv1 (v : pLV) (x : Int32) : pLV := vS (vS v 13 (v 0 13 - tkR (v 0 13) (v 0 14) (mnI x ((v 0 13) + (v 0 14))))) 14 (tkG (v 0 13) (v 0 14) (mnI x ((v 0 13) + (v 0 14))))
set_option maxHeartbeats 1000000 in
theorem take_S1 {B : Int} {bk : Int32} {v m : pLV} {x : Int32} (h : SL B bk v (m 1)) (hx : 0 ≤ x.toInt) : SL B bk (tv1 v x) (takeM 1 m x 1) ∧ takeM 1 m x 0 9 = tkR (v 0 13) (v 0 14) (mnI x ((v 0 13) + (v 0 14))) ∧ takeM 1 m x 0 10 = (mnI x ((v 0 13) + (v 0 14))) - tkR (v 0 13) (v 0 14) (mnI x ((v 0 13) + (v 0 14))) := by
  have hc := h.2.2.2.1.2.1.2.1
  have hs := hc.sum (by omega)
  have hc' := hc
  obtain ⟨c1, c2, c3⟩ := hc'
  have e1 : m 1 21 = v 0 13 := h.1 21 (by omega)
  have e2 : m 1 22 = v 0 14 := h.1 22 (by omega)
  have es : sumM 1 m = v 0 13 + v 0 14 := by
    show m 1 21 + m 1 22 = _
    rw [e1, e2]
  have em : tmM 1 m x = (mnI x ((v 0 13) + (v 0 14))) := by
    unfold tmM
    rw [es]
    exact tm_eq _ _
  have hm := mnI_i x ((v 0 13) + (v 0 14))
  have hm0 : 0 ≤ ((mnI x ((v 0 13) + (v 0 14)))).toInt := by omega
  have hm1 : ((mnI x ((v 0 13) + (v 0 14)))).toInt ≤ ((v 0 13)).toInt + ((v 0 14)).toInt := by omega
  have et : tfM 1 m (tmM 1 m x) = tkR (v 0 13) (v 0 14) (mnI x ((v 0 13) + (v 0 14))) := by
    rw [em]
    unfold tfM
    rw [es, show m 1 (18 + 3 * 1) = v 0 13 from e1]
    exact tf_eq hc (by omega)
  have eF : takeM 1 m x 1 21 = v 0 13 - tkR (v 0 13) (v 0 14) (mnI x ((v 0 13) + (v 0 14))) := by
    show m 1 21 - tfM 1 m (tmM 1 m x) = _
    rw [et, e1]
  have eG : takeM 1 m x 1 22 = tkG (v 0 13) (v 0 14) (mnI x ((v 0 13) + (v 0 14))) := by
    show m 1 22 - (tmM 1 m x - tfM 1 m (tmM 1 m x)) = _
    rw [et, em, e2]
    exact tg_eq hc (by omega) hm0 hm1
  have hcn := take_CH hc (by omega) hm0 hm1
  refine ⟨⟨by
      intro j hj
      match j, hj with
      | 0, _ => exact h.1 0 (Nat.le_of_ble_eq_true rfl)
      | 1, _ => exact h.1 1 (Nat.le_of_ble_eq_true rfl)
      | 2, _ => exact h.1 2 (Nat.le_of_ble_eq_true rfl)
      | 3, _ => exact h.1 3 (Nat.le_of_ble_eq_true rfl)
      | 4, _ => exact h.1 4 (Nat.le_of_ble_eq_true rfl)
      | 5, _ => exact h.1 5 (Nat.le_of_ble_eq_true rfl)
      | 6, _ => exact h.1 6 (Nat.le_of_ble_eq_true rfl)
      | 7, _ => exact h.1 7 (Nat.le_of_ble_eq_true rfl)
      | 8, _ => exact h.1 8 (Nat.le_of_ble_eq_true rfl)
      | 9, _ => exact h.1 9 (Nat.le_of_ble_eq_true rfl)
      | 10, _ => exact h.1 10 (Nat.le_of_ble_eq_true rfl)
      | 11, _ => exact h.1 11 (Nat.le_of_ble_eq_true rfl)
      | 12, _ => exact h.1 12 (Nat.le_of_ble_eq_true rfl)
      | 13, _ => exact h.1 13 (Nat.le_of_ble_eq_true rfl)
      | 14, _ => exact h.1 14 (Nat.le_of_ble_eq_true rfl)
      | 15, _ => exact h.1 15 (Nat.le_of_ble_eq_true rfl)
      | 16, _ => exact h.1 16 (Nat.le_of_ble_eq_true rfl)
      | 17, _ => exact h.1 17 (Nat.le_of_ble_eq_true rfl)
      | 18, _ => exact h.1 18 (Nat.le_of_ble_eq_true rfl)
      | 19, _ => exact h.1 19 (Nat.le_of_ble_eq_true rfl)
      | 20, _ => exact h.1 20 (Nat.le_of_ble_eq_true rfl)
      | 21, _ => exact eF
      | 22, _ => exact eG
      | 23, _ => exact h.1 23 (Nat.le_of_ble_eq_true rfl)
      | 24, _ => exact h.1 24 (Nat.le_of_ble_eq_true rfl)
      | 25, _ => exact h.1 25 (Nat.le_of_ble_eq_true rfl)
      | 26, _ => exact h.1 26 (Nat.le_of_ble_eq_true rfl)
      | 27, _ => exact h.1 27 (Nat.le_of_ble_eq_true rfl)
      | 28, _ => exact h.1 28 (Nat.le_of_ble_eq_true rfl)
      | 29, _ => exact h.1 29 (Nat.le_of_ble_eq_true rfl)
      | 30, _ => exact h.1 30 (Nat.le_of_ble_eq_true rfl)
      | 31, _ => exact h.1 31 (Nat.le_of_ble_eq_true rfl)
      | 32, _ => exact h.1 32 (Nat.le_of_ble_eq_true rfl)
      | 33, _ => exact h.1 33 (Nat.le_of_ble_eq_true rfl)
      | 34, _ => exact h.1 34 (Nat.le_of_ble_eq_true rfl)
      | 35, _ => exact h.1 35 (Nat.le_of_ble_eq_true rfl)
      | 36, _ => exact h.1 36 (Nat.le_of_ble_eq_true rfl)
      | 37, _ => exact h.1 37 (Nat.le_of_ble_eq_true rfl)
      | 38, _ => exact h.1 38 (Nat.le_of_ble_eq_true rfl)
      | 39, _ => exact h.1 39 (Nat.le_of_ble_eq_true rfl)
      | j + 40, hj => exact absurd hj (by omega), h.2.1.hi rfl rfl (fun k hk => takeM_hi 1 m x (by omega) hk), h.2.2.1.hi rfl rfl rfl rfl (fun k hk => takeM_hi 1 m x (by omega) hk), ⟨h.2.2.2.1.1, ⟨h.2.2.2.1.2.1.1, hcn, h.2.2.2.1.2.1.2.2.1, h.2.2.2.1.2.1.2.2.2⟩, h.2.2.2.1.2.2⟩, h.2.2.2.2⟩, et, ?_⟩
  show tmM 1 m x - tfM 1 m (tmM 1 m x) = _
  rw [et, em]
set_option maxHeartbeats 1000000 in
theorem fill_S1 {B : Int} {bk : Int32} {v m : pLV} {a b : Int32} (h : SL B bk v (m 1)) (ha : 0 ≤ a.toInt) (hb : 0 ≤ b.toInt) (hab : a.toInt + b.toInt ≤ 1000000) : SL B bk (pourV 1 v a b) (fillM 1 m a b 1) ∧ fillR 1 m a b = pourR 1 v a b ∧ fillM 1 m a b 0 11 = (if (v 0 13) + a + ((v 0 14) + b) - (v 0 31) ≤ 0 then 0 else 1) ∧ fillM 1 m a b 0 12 = m 0 12 := by
  have hc := h.2.2.2.1.2.1.2.1
  have hR : (v 0 31).toInt = 30000 := by rw [h.2.2.2.1.1.2.1]; rfl
  have hrm : rmI 1 = (v 0 31) := by rw [h.2.2.2.1.1.2.1]; rfl
  obtain ⟨p1, p2, p3, p4, p5, p6, p7⟩ := pour_ok hc (by omega) hR ha hb hab (by omega)
  have e1 : m 1 21 = v 0 13 := h.1 21 (by omega)
  have e2 : m 1 22 = v 0 14 := h.1 22 (by omega)
  have e3 : m 1 32 = v 0 24 := h.1 32 (by omega)
  have es : flS 1 (NM (flA 1 m a b)) = (v 0 13) + a + ((v 0 14) + b) - (v 0 31) := by
    show m 1 21 + a + (m 1 22 + b) - rmI 1 = _
    rw [e1, e2, hrm]
  by_cases hs : (v 0 13) + a + ((v 0 14) + b) - (v 0 31) ≤ 0
  · have hq : fillM 1 m a b = vS (NM (flA 1 m a b)) 11 0 := if_pos (by rw [es]; exact hs)
    have hq2 : fillR 1 m a b = 0 := if_pos (by rw [es]; exact hs)
    have r0 : puR (v 0 31) (v 0 13) (v 0 14) a b = 0 := if_pos hs
    have eF : fillM 1 m a b 1 21 = puF (v 0 31) (v 0 13) (v 0 14) a b := by
      rw [hq]
      show m 1 21 + a = _
      unfold puF
      rw [r0, Int32.sub_zero, e1]
    have eG : fillM 1 m a b 1 22 = puG (v 0 31) (v 0 13) (v 0 14) a b := by
      rw [hq]
      show m 1 22 + b = _
      rw [show puG (v 0 31) (v 0 13) (v 0 14) a b = _ from if_pos hs, e2]
    have eS : fillM 1 m a b 1 32 = v 0 24 + pourR 1 v a b := by
      rw [hq]
      show m 1 32 = v 0 24 + puR (v 0 31) (v 0 13) (v 0 14) a b
      rw [r0, Int32.add_zero, e3]
    refine ⟨⟨?_, h.2.1.hi rfl rfl (fun k hk => fillM_hi 1 m a b (by omega) hk), h.2.2.1.hi rfl rfl rfl rfl (fun k hk => fillM_hi 1 m a b (by omega) hk), ⟨h.2.2.2.1.1, ⟨h.2.2.2.1.2.1.1, p1, h.2.2.2.1.2.1.2.2.1, h.2.2.2.1.2.1.2.2.2⟩, h.2.2.2.1.2.2⟩, h.2.2.2.2⟩, ?_, ?_, ?_⟩
    · rw [hq] at eF eG eS ⊢
      exact (by
        intro j hj
        match j, hj with
        | 0, _ => exact h.1 0 (Nat.le_of_ble_eq_true rfl)
        | 1, _ => exact h.1 1 (Nat.le_of_ble_eq_true rfl)
        | 2, _ => exact h.1 2 (Nat.le_of_ble_eq_true rfl)
        | 3, _ => exact h.1 3 (Nat.le_of_ble_eq_true rfl)
        | 4, _ => exact h.1 4 (Nat.le_of_ble_eq_true rfl)
        | 5, _ => exact h.1 5 (Nat.le_of_ble_eq_true rfl)
        | 6, _ => exact h.1 6 (Nat.le_of_ble_eq_true rfl)
        | 7, _ => exact h.1 7 (Nat.le_of_ble_eq_true rfl)
        | 8, _ => exact h.1 8 (Nat.le_of_ble_eq_true rfl)
        | 9, _ => exact h.1 9 (Nat.le_of_ble_eq_true rfl)
        | 10, _ => exact h.1 10 (Nat.le_of_ble_eq_true rfl)
        | 11, _ => exact h.1 11 (Nat.le_of_ble_eq_true rfl)
        | 12, _ => exact h.1 12 (Nat.le_of_ble_eq_true rfl)
        | 13, _ => exact h.1 13 (Nat.le_of_ble_eq_true rfl)
        | 14, _ => exact h.1 14 (Nat.le_of_ble_eq_true rfl)
        | 15, _ => exact h.1 15 (Nat.le_of_ble_eq_true rfl)
        | 16, _ => exact h.1 16 (Nat.le_of_ble_eq_true rfl)
        | 17, _ => exact h.1 17 (Nat.le_of_ble_eq_true rfl)
        | 18, _ => exact h.1 18 (Nat.le_of_ble_eq_true rfl)
        | 19, _ => exact h.1 19 (Nat.le_of_ble_eq_true rfl)
        | 20, _ => exact h.1 20 (Nat.le_of_ble_eq_true rfl)
        | 21, _ => exact eF
        | 22, _ => exact eG
        | 23, _ => exact h.1 23 (Nat.le_of_ble_eq_true rfl)
        | 24, _ => exact h.1 24 (Nat.le_of_ble_eq_true rfl)
        | 25, _ => exact h.1 25 (Nat.le_of_ble_eq_true rfl)
        | 26, _ => exact h.1 26 (Nat.le_of_ble_eq_true rfl)
        | 27, _ => exact h.1 27 (Nat.le_of_ble_eq_true rfl)
        | 28, _ => exact h.1 28 (Nat.le_of_ble_eq_true rfl)
        | 29, _ => exact h.1 29 (Nat.le_of_ble_eq_true rfl)
        | 30, _ => exact h.1 30 (Nat.le_of_ble_eq_true rfl)
        | 31, _ => exact h.1 31 (Nat.le_of_ble_eq_true rfl)
        | 32, _ => exact eS
        | 33, _ => exact h.1 33 (Nat.le_of_ble_eq_true rfl)
        | 34, _ => exact h.1 34 (Nat.le_of_ble_eq_true rfl)
        | 35, _ => exact h.1 35 (Nat.le_of_ble_eq_true rfl)
        | 36, _ => exact h.1 36 (Nat.le_of_ble_eq_true rfl)
        | 37, _ => exact h.1 37 (Nat.le_of_ble_eq_true rfl)
        | 38, _ => exact h.1 38 (Nat.le_of_ble_eq_true rfl)
        | 39, _ => exact h.1 39 (Nat.le_of_ble_eq_true rfl)
        | j + 40, hj => exact absurd hj (by omega))
    · rw [hq2]; exact r0.symm
    · rw [hq, if_pos hs]; rfl
    · rw [hq]; rfl
  · have hq : fillM 1 m a b = flW (flT 1 (NM (flA 1 m a b))) := if_neg (by rw [es]; exact hs)
    have hq2 : fillR 1 m a b = flT 1 (NM (flA 1 m a b)) 0 9 := if_neg (by rw [es]; exact hs)
    have hs' := ilt.mp (Int32.not_le.mp hs)
    rw [Int32.toInt_zero] at hs'
    have hc2 : CH 2000000 ((v 0 13) + a) ((v 0 14) + b) := by
      obtain ⟨c1, c2, c3⟩ := hc
      exact ⟨by omega, by omega, by omega⟩
    have hsur : ((v 0 13) + a + ((v 0 14) + b) - (v 0 31)).toInt ≤ ((v 0 13) + a).toInt + ((v 0 14) + b).toInt := by omega
    have em : tmM 1 (NM (vS (NM (flA 1 m a b)) 11 1)) (flS 1 (NM (flA 1 m a b))) = (v 0 13) + a + ((v 0 14) + b) - (v 0 31) := by
      rw [es]
      unfold tmM
      have e4 : sumM 1 (NM (vS (NM (flA 1 m a b)) 11 1)) = (v 0 13) + a + ((v 0 14) + b) := by
        show m 1 21 + a + (m 1 22 + b) = _
        rw [e1, e2]
      rw [e4, tm_eq]
      rw [ieq, mnI_i]
      have := hc2.sum (by omega)
      omega
    have et : tfM 1 (NM (vS (NM (flA 1 m a b)) 11 1)) ((v 0 13) + a + ((v 0 14) + b) - (v 0 31)) = tkR ((v 0 13) + a) ((v 0 14) + b) ((v 0 13) + a + ((v 0 14) + b) - (v 0 31)) := by
      unfold tfM
      have e4 : sumM 1 (NM (vS (NM (flA 1 m a b)) 11 1)) = (v 0 13) + a + ((v 0 14) + b) := by
        show m 1 21 + a + (m 1 22 + b) = _
        rw [e1, e2]
      rw [e4, show (NM (vS (NM (flA 1 m a b)) 11 1)) 1 (18 + 3 * 1) = (v 0 13) + a from by show m 1 21 + a = _; rw [e1]]
      exact tf_eq hc2 (by omega)
    have r0 : puR (v 0 31) (v 0 13) (v 0 14) a b = tkR ((v 0 13) + a) ((v 0 14) + b) ((v 0 13) + a + ((v 0 14) + b) - (v 0 31)) := if_neg hs
    have e9 : flT 1 (NM (flA 1 m a b)) 0 9 = puR (v 0 31) (v 0 13) (v 0 14) a b := by
      show tfM 1 (NM (vS (NM (flA 1 m a b)) 11 1)) (tmM 1 (NM (vS (NM (flA 1 m a b)) 11 1)) (flS 1 (NM (flA 1 m a b)))) = _
      rw [em, et, r0]
    have eF : fillM 1 m a b 1 21 = puF (v 0 31) (v 0 13) (v 0 14) a b := by
      rw [hq]
      show m 1 21 + a - tfM 1 (NM (vS (NM (flA 1 m a b)) 11 1)) (tmM 1 (NM (vS (NM (flA 1 m a b)) 11 1)) (flS 1 (NM (flA 1 m a b)))) = _
      unfold puF
      rw [em, et, r0, e1]
    have eG : fillM 1 m a b 1 22 = puG (v 0 31) (v 0 13) (v 0 14) a b := by
      rw [hq]
      show m 1 22 + b - (tmM 1 (NM (vS (NM (flA 1 m a b)) 11 1)) (flS 1 (NM (flA 1 m a b))) - tfM 1 (NM (vS (NM (flA 1 m a b)) 11 1)) (tmM 1 (NM (vS (NM (flA 1 m a b)) 11 1)) (flS 1 (NM (flA 1 m a b))))) = _
      rw [em, et, e2, show puG (v 0 31) (v 0 13) (v 0 14) a b = _ from if_neg hs]
      exact tg_eq hc2 (by omega) (by omega) hsur
    have eS : fillM 1 m a b 1 32 = v 0 24 + pourR 1 v a b := by
      rw [hq]
      show m 1 32 + flT 1 (NM (flA 1 m a b)) 0 9 = v 0 24 + puR (v 0 31) (v 0 13) (v 0 14) a b
      rw [e9, e3]
    refine ⟨⟨?_, h.2.1.hi rfl rfl (fun k hk => fillM_hi 1 m a b (by omega) hk), h.2.2.1.hi rfl rfl rfl rfl (fun k hk => fillM_hi 1 m a b (by omega) hk), ⟨h.2.2.2.1.1, ⟨h.2.2.2.1.2.1.1, p1, h.2.2.2.1.2.1.2.2.1, h.2.2.2.1.2.1.2.2.2⟩, h.2.2.2.1.2.2⟩, h.2.2.2.2⟩, ?_, ?_, ?_⟩
    · rw [hq] at eF eG eS ⊢
      exact (by
        intro j hj
        match j, hj with
        | 0, _ => exact h.1 0 (Nat.le_of_ble_eq_true rfl)
        | 1, _ => exact h.1 1 (Nat.le_of_ble_eq_true rfl)
        | 2, _ => exact h.1 2 (Nat.le_of_ble_eq_true rfl)
        | 3, _ => exact h.1 3 (Nat.le_of_ble_eq_true rfl)
        | 4, _ => exact h.1 4 (Nat.le_of_ble_eq_true rfl)
        | 5, _ => exact h.1 5 (Nat.le_of_ble_eq_true rfl)
        | 6, _ => exact h.1 6 (Nat.le_of_ble_eq_true rfl)
        | 7, _ => exact h.1 7 (Nat.le_of_ble_eq_true rfl)
        | 8, _ => exact h.1 8 (Nat.le_of_ble_eq_true rfl)
        | 9, _ => exact h.1 9 (Nat.le_of_ble_eq_true rfl)
        | 10, _ => exact h.1 10 (Nat.le_of_ble_eq_true rfl)
        | 11, _ => exact h.1 11 (Nat.le_of_ble_eq_true rfl)
        | 12, _ => exact h.1 12 (Nat.le_of_ble_eq_true rfl)
        | 13, _ => exact h.1 13 (Nat.le_of_ble_eq_true rfl)
        | 14, _ => exact h.1 14 (Nat.le_of_ble_eq_true rfl)
        | 15, _ => exact h.1 15 (Nat.le_of_ble_eq_true rfl)
        | 16, _ => exact h.1 16 (Nat.le_of_ble_eq_true rfl)
        | 17, _ => exact h.1 17 (Nat.le_of_ble_eq_true rfl)
        | 18, _ => exact h.1 18 (Nat.le_of_ble_eq_true rfl)
        | 19, _ => exact h.1 19 (Nat.le_of_ble_eq_true rfl)
        | 20, _ => exact h.1 20 (Nat.le_of_ble_eq_true rfl)
        | 21, _ => exact eF
        | 22, _ => exact eG
        | 23, _ => exact h.1 23 (Nat.le_of_ble_eq_true rfl)
        | 24, _ => exact h.1 24 (Nat.le_of_ble_eq_true rfl)
        | 25, _ => exact h.1 25 (Nat.le_of_ble_eq_true rfl)
        | 26, _ => exact h.1 26 (Nat.le_of_ble_eq_true rfl)
        | 27, _ => exact h.1 27 (Nat.le_of_ble_eq_true rfl)
        | 28, _ => exact h.1 28 (Nat.le_of_ble_eq_true rfl)
        | 29, _ => exact h.1 29 (Nat.le_of_ble_eq_true rfl)
        | 30, _ => exact h.1 30 (Nat.le_of_ble_eq_true rfl)
        | 31, _ => exact h.1 31 (Nat.le_of_ble_eq_true rfl)
        | 32, _ => exact eS
        | 33, _ => exact h.1 33 (Nat.le_of_ble_eq_true rfl)
        | 34, _ => exact h.1 34 (Nat.le_of_ble_eq_true rfl)
        | 35, _ => exact h.1 35 (Nat.le_of_ble_eq_true rfl)
        | 36, _ => exact h.1 36 (Nat.le_of_ble_eq_true rfl)
        | 37, _ => exact h.1 37 (Nat.le_of_ble_eq_true rfl)
        | 38, _ => exact h.1 38 (Nat.le_of_ble_eq_true rfl)
        | 39, _ => exact h.1 39 (Nat.le_of_ble_eq_true rfl)
        | j + 40, hj => exact absurd hj (by omega))
    · rw [hq2, e9]; rfl
    · rw [hq, if_neg hs]; rfl
    · rw [hq]; rfl
/-- chest 2: something is taken -/
def tv2 (v : pLV) (x : Int32) : pLV := vS (vS v 16 (v 0 16 - tkR (v 0 16) (v 0 17) (mnI x ((v 0 16) + (v 0 17))))) 17 (tkG (v 0 16) (v 0 17) (mnI x ((v 0 16) + (v 0 17))))
set_option maxHeartbeats 1000000 in
theorem take_S2 {B : Int} {bk : Int32} {v m : pLV} {x : Int32} (h : SL B bk v (m 1)) (hx : 0 ≤ x.toInt) : SL B bk (tv2 v x) (takeM 2 m x 1) ∧ takeM 2 m x 0 9 = tkR (v 0 16) (v 0 17) (mnI x ((v 0 16) + (v 0 17))) ∧ takeM 2 m x 0 10 = (mnI x ((v 0 16) + (v 0 17))) - tkR (v 0 16) (v 0 17) (mnI x ((v 0 16) + (v 0 17))) := by
  have hc := h.2.2.2.1.2.1.2.2.1
  have hs := hc.sum (by omega)
  have hc' := hc
  obtain ⟨c1, c2, c3⟩ := hc'
  have e1 : m 1 24 = v 0 16 := h.1 24 (by omega)
  have e2 : m 1 25 = v 0 17 := h.1 25 (by omega)
  have es : sumM 2 m = v 0 16 + v 0 17 := by
    show m 1 24 + m 1 25 = _
    rw [e1, e2]
  have em : tmM 2 m x = (mnI x ((v 0 16) + (v 0 17))) := by
    unfold tmM
    rw [es]
    exact tm_eq _ _
  have hm := mnI_i x ((v 0 16) + (v 0 17))
  have hm0 : 0 ≤ ((mnI x ((v 0 16) + (v 0 17)))).toInt := by omega
  have hm1 : ((mnI x ((v 0 16) + (v 0 17)))).toInt ≤ ((v 0 16)).toInt + ((v 0 17)).toInt := by omega
  have et : tfM 2 m (tmM 2 m x) = tkR (v 0 16) (v 0 17) (mnI x ((v 0 16) + (v 0 17))) := by
    rw [em]
    unfold tfM
    rw [es, show m 1 (18 + 3 * 2) = v 0 16 from e1]
    exact tf_eq hc (by omega)
  have eF : takeM 2 m x 1 24 = v 0 16 - tkR (v 0 16) (v 0 17) (mnI x ((v 0 16) + (v 0 17))) := by
    show m 1 24 - tfM 2 m (tmM 2 m x) = _
    rw [et, e1]
  have eG : takeM 2 m x 1 25 = tkG (v 0 16) (v 0 17) (mnI x ((v 0 16) + (v 0 17))) := by
    show m 1 25 - (tmM 2 m x - tfM 2 m (tmM 2 m x)) = _
    rw [et, em, e2]
    exact tg_eq hc (by omega) hm0 hm1
  have hcn := take_CH hc (by omega) hm0 hm1
  refine ⟨⟨by
      intro j hj
      match j, hj with
      | 0, _ => exact h.1 0 (Nat.le_of_ble_eq_true rfl)
      | 1, _ => exact h.1 1 (Nat.le_of_ble_eq_true rfl)
      | 2, _ => exact h.1 2 (Nat.le_of_ble_eq_true rfl)
      | 3, _ => exact h.1 3 (Nat.le_of_ble_eq_true rfl)
      | 4, _ => exact h.1 4 (Nat.le_of_ble_eq_true rfl)
      | 5, _ => exact h.1 5 (Nat.le_of_ble_eq_true rfl)
      | 6, _ => exact h.1 6 (Nat.le_of_ble_eq_true rfl)
      | 7, _ => exact h.1 7 (Nat.le_of_ble_eq_true rfl)
      | 8, _ => exact h.1 8 (Nat.le_of_ble_eq_true rfl)
      | 9, _ => exact h.1 9 (Nat.le_of_ble_eq_true rfl)
      | 10, _ => exact h.1 10 (Nat.le_of_ble_eq_true rfl)
      | 11, _ => exact h.1 11 (Nat.le_of_ble_eq_true rfl)
      | 12, _ => exact h.1 12 (Nat.le_of_ble_eq_true rfl)
      | 13, _ => exact h.1 13 (Nat.le_of_ble_eq_true rfl)
      | 14, _ => exact h.1 14 (Nat.le_of_ble_eq_true rfl)
      | 15, _ => exact h.1 15 (Nat.le_of_ble_eq_true rfl)
      | 16, _ => exact h.1 16 (Nat.le_of_ble_eq_true rfl)
      | 17, _ => exact h.1 17 (Nat.le_of_ble_eq_true rfl)
      | 18, _ => exact h.1 18 (Nat.le_of_ble_eq_true rfl)
      | 19, _ => exact h.1 19 (Nat.le_of_ble_eq_true rfl)
      | 20, _ => exact h.1 20 (Nat.le_of_ble_eq_true rfl)
      | 21, _ => exact h.1 21 (Nat.le_of_ble_eq_true rfl)
      | 22, _ => exact h.1 22 (Nat.le_of_ble_eq_true rfl)
      | 23, _ => exact h.1 23 (Nat.le_of_ble_eq_true rfl)
      | 24, _ => exact eF
      | 25, _ => exact eG
      | 26, _ => exact h.1 26 (Nat.le_of_ble_eq_true rfl)
      | 27, _ => exact h.1 27 (Nat.le_of_ble_eq_true rfl)
      | 28, _ => exact h.1 28 (Nat.le_of_ble_eq_true rfl)
      | 29, _ => exact h.1 29 (Nat.le_of_ble_eq_true rfl)
      | 30, _ => exact h.1 30 (Nat.le_of_ble_eq_true rfl)
      | 31, _ => exact h.1 31 (Nat.le_of_ble_eq_true rfl)
      | 32, _ => exact h.1 32 (Nat.le_of_ble_eq_true rfl)
      | 33, _ => exact h.1 33 (Nat.le_of_ble_eq_true rfl)
      | 34, _ => exact h.1 34 (Nat.le_of_ble_eq_true rfl)
      | 35, _ => exact h.1 35 (Nat.le_of_ble_eq_true rfl)
      | 36, _ => exact h.1 36 (Nat.le_of_ble_eq_true rfl)
      | 37, _ => exact h.1 37 (Nat.le_of_ble_eq_true rfl)
      | 38, _ => exact h.1 38 (Nat.le_of_ble_eq_true rfl)
      | 39, _ => exact h.1 39 (Nat.le_of_ble_eq_true rfl)
      | j + 40, hj => exact absurd hj (by omega), h.2.1.hi rfl rfl (fun k hk => takeM_hi 2 m x (by omega) hk), h.2.2.1.hi rfl rfl rfl rfl (fun k hk => takeM_hi 2 m x (by omega) hk), ⟨h.2.2.2.1.1, ⟨h.2.2.2.1.2.1.1, h.2.2.2.1.2.1.2.1, hcn, h.2.2.2.1.2.1.2.2.2⟩, h.2.2.2.1.2.2⟩, h.2.2.2.2⟩, et, ?_⟩
  show tmM 2 m x - tfM 2 m (tmM 2 m x) = _
  rw [et, em]
set_option maxHeartbeats 1000000 in
theorem fill_S2 {B : Int} {bk : Int32} {v m : pLV} {a b : Int32} (h : SL B bk v (m 1)) (ha : 0 ≤ a.toInt) (hb : 0 ≤ b.toInt) (hab : a.toInt + b.toInt ≤ 1000000) : SL B bk (pourV 2 v a b) (fillM 2 m a b 1) ∧ fillR 2 m a b = pourR 2 v a b ∧ fillM 2 m a b 0 11 = (if (v 0 16) + a + ((v 0 17) + b) - (v 0 32) ≤ 0 then 0 else 1) ∧ fillM 2 m a b 0 12 = m 0 12 := by
  have hc := h.2.2.2.1.2.1.2.2.1
  have hR : (v 0 32).toInt = 10000 := by rw [h.2.2.2.1.1.2.2.1]; rfl
  have hrm : rmI 2 = (v 0 32) := by rw [h.2.2.2.1.1.2.2.1]; rfl
  obtain ⟨p1, p2, p3, p4, p5, p6, p7⟩ := pour_ok hc (by omega) hR ha hb hab (by omega)
  have e1 : m 1 24 = v 0 16 := h.1 24 (by omega)
  have e2 : m 1 25 = v 0 17 := h.1 25 (by omega)
  have e3 : m 1 32 = v 0 24 := h.1 32 (by omega)
  have es : flS 2 (NM (flA 2 m a b)) = (v 0 16) + a + ((v 0 17) + b) - (v 0 32) := by
    show m 1 24 + a + (m 1 25 + b) - rmI 2 = _
    rw [e1, e2, hrm]
  by_cases hs : (v 0 16) + a + ((v 0 17) + b) - (v 0 32) ≤ 0
  · have hq : fillM 2 m a b = vS (NM (flA 2 m a b)) 11 0 := if_pos (by rw [es]; exact hs)
    have hq2 : fillR 2 m a b = 0 := if_pos (by rw [es]; exact hs)
    have r0 : puR (v 0 32) (v 0 16) (v 0 17) a b = 0 := if_pos hs
    have eF : fillM 2 m a b 1 24 = puF (v 0 32) (v 0 16) (v 0 17) a b := by
      rw [hq]
      show m 1 24 + a = _
      unfold puF
      rw [r0, Int32.sub_zero, e1]
    have eG : fillM 2 m a b 1 25 = puG (v 0 32) (v 0 16) (v 0 17) a b := by
      rw [hq]
      show m 1 25 + b = _
      rw [show puG (v 0 32) (v 0 16) (v 0 17) a b = _ from if_pos hs, e2]
    have eS : fillM 2 m a b 1 32 = v 0 24 + pourR 2 v a b := by
      rw [hq]
      show m 1 32 = v 0 24 + puR (v 0 32) (v 0 16) (v 0 17) a b
      rw [r0, Int32.add_zero, e3]
    refine ⟨⟨?_, h.2.1.hi rfl rfl (fun k hk => fillM_hi 2 m a b (by omega) hk), h.2.2.1.hi rfl rfl rfl rfl (fun k hk => fillM_hi 2 m a b (by omega) hk), ⟨h.2.2.2.1.1, ⟨h.2.2.2.1.2.1.1, h.2.2.2.1.2.1.2.1, p1, h.2.2.2.1.2.1.2.2.2⟩, h.2.2.2.1.2.2⟩, h.2.2.2.2⟩, ?_, ?_, ?_⟩
    · rw [hq] at eF eG eS ⊢
      exact (by
        intro j hj
        match j, hj with
        | 0, _ => exact h.1 0 (Nat.le_of_ble_eq_true rfl)
        | 1, _ => exact h.1 1 (Nat.le_of_ble_eq_true rfl)
        | 2, _ => exact h.1 2 (Nat.le_of_ble_eq_true rfl)
        | 3, _ => exact h.1 3 (Nat.le_of_ble_eq_true rfl)
        | 4, _ => exact h.1 4 (Nat.le_of_ble_eq_true rfl)
        | 5, _ => exact h.1 5 (Nat.le_of_ble_eq_true rfl)
        | 6, _ => exact h.1 6 (Nat.le_of_ble_eq_true rfl)
        | 7, _ => exact h.1 7 (Nat.le_of_ble_eq_true rfl)
        | 8, _ => exact h.1 8 (Nat.le_of_ble_eq_true rfl)
        | 9, _ => exact h.1 9 (Nat.le_of_ble_eq_true rfl)
        | 10, _ => exact h.1 10 (Nat.le_of_ble_eq_true rfl)
        | 11, _ => exact h.1 11 (Nat.le_of_ble_eq_true rfl)
        | 12, _ => exact h.1 12 (Nat.le_of_ble_eq_true rfl)
        | 13, _ => exact h.1 13 (Nat.le_of_ble_eq_true rfl)
        | 14, _ => exact h.1 14 (Nat.le_of_ble_eq_true rfl)
        | 15, _ => exact h.1 15 (Nat.le_of_ble_eq_true rfl)
        | 16, _ => exact h.1 16 (Nat.le_of_ble_eq_true rfl)
        | 17, _ => exact h.1 17 (Nat.le_of_ble_eq_true rfl)
        | 18, _ => exact h.1 18 (Nat.le_of_ble_eq_true rfl)
        | 19, _ => exact h.1 19 (Nat.le_of_ble_eq_true rfl)
        | 20, _ => exact h.1 20 (Nat.le_of_ble_eq_true rfl)
        | 21, _ => exact h.1 21 (Nat.le_of_ble_eq_true rfl)
        | 22, _ => exact h.1 22 (Nat.le_of_ble_eq_true rfl)
        | 23, _ => exact h.1 23 (Nat.le_of_ble_eq_true rfl)
        | 24, _ => exact eF
        | 25, _ => exact eG
        | 26, _ => exact h.1 26 (Nat.le_of_ble_eq_true rfl)
        | 27, _ => exact h.1 27 (Nat.le_of_ble_eq_true rfl)
        | 28, _ => exact h.1 28 (Nat.le_of_ble_eq_true rfl)
        | 29, _ => exact h.1 29 (Nat.le_of_ble_eq_true rfl)
        | 30, _ => exact h.1 30 (Nat.le_of_ble_eq_true rfl)
        | 31, _ => exact h.1 31 (Nat.le_of_ble_eq_true rfl)
        | 32, _ => exact eS
        | 33, _ => exact h.1 33 (Nat.le_of_ble_eq_true rfl)
        | 34, _ => exact h.1 34 (Nat.le_of_ble_eq_true rfl)
        | 35, _ => exact h.1 35 (Nat.le_of_ble_eq_true rfl)
        | 36, _ => exact h.1 36 (Nat.le_of_ble_eq_true rfl)
        | 37, _ => exact h.1 37 (Nat.le_of_ble_eq_true rfl)
        | 38, _ => exact h.1 38 (Nat.le_of_ble_eq_true rfl)
        | 39, _ => exact h.1 39 (Nat.le_of_ble_eq_true rfl)
        | j + 40, hj => exact absurd hj (by omega))
    · rw [hq2]; exact r0.symm
    · rw [hq, if_pos hs]; rfl
    · rw [hq]; rfl
  · have hq : fillM 2 m a b = flW (flT 2 (NM (flA 2 m a b))) := if_neg (by rw [es]; exact hs)
    have hq2 : fillR 2 m a b = flT 2 (NM (flA 2 m a b)) 0 9 := if_neg (by rw [es]; exact hs)
    have hs' := ilt.mp (Int32.not_le.mp hs)
    rw [Int32.toInt_zero] at hs'
    have hc2 : CH 2000000 ((v 0 16) + a) ((v 0 17) + b) := by
      obtain ⟨c1, c2, c3⟩ := hc
      exact ⟨by omega, by omega, by omega⟩
    have hsur : ((v 0 16) + a + ((v 0 17) + b) - (v 0 32)).toInt ≤ ((v 0 16) + a).toInt + ((v 0 17) + b).toInt := by omega
    have em : tmM 2 (NM (vS (NM (flA 2 m a b)) 11 1)) (flS 2 (NM (flA 2 m a b))) = (v 0 16) + a + ((v 0 17) + b) - (v 0 32) := by
      rw [es]
      unfold tmM
      have e4 : sumM 2 (NM (vS (NM (flA 2 m a b)) 11 1)) = (v 0 16) + a + ((v 0 17) + b) := by
        show m 1 24 + a + (m 1 25 + b) = _
        rw [e1, e2]
      rw [e4, tm_eq]
      rw [ieq, mnI_i]
      have := hc2.sum (by omega)
      omega
    have et : tfM 2 (NM (vS (NM (flA 2 m a b)) 11 1)) ((v 0 16) + a + ((v 0 17) + b) - (v 0 32)) = tkR ((v 0 16) + a) ((v 0 17) + b) ((v 0 16) + a + ((v 0 17) + b) - (v 0 32)) := by
      unfold tfM
      have e4 : sumM 2 (NM (vS (NM (flA 2 m a b)) 11 1)) = (v 0 16) + a + ((v 0 17) + b) := by
        show m 1 24 + a + (m 1 25 + b) = _
        rw [e1, e2]
      rw [e4, show (NM (vS (NM (flA 2 m a b)) 11 1)) 1 (18 + 3 * 2) = (v 0 16) + a from by show m 1 24 + a = _; rw [e1]]
      exact tf_eq hc2 (by omega)
    have r0 : puR (v 0 32) (v 0 16) (v 0 17) a b = tkR ((v 0 16) + a) ((v 0 17) + b) ((v 0 16) + a + ((v 0 17) + b) - (v 0 32)) := if_neg hs
    have e9 : flT 2 (NM (flA 2 m a b)) 0 9 = puR (v 0 32) (v 0 16) (v 0 17) a b := by
      show tfM 2 (NM (vS (NM (flA 2 m a b)) 11 1)) (tmM 2 (NM (vS (NM (flA 2 m a b)) 11 1)) (flS 2 (NM (flA 2 m a b)))) = _
      rw [em, et, r0]
    have eF : fillM 2 m a b 1 24 = puF (v 0 32) (v 0 16) (v 0 17) a b := by
      rw [hq]
      show m 1 24 + a - tfM 2 (NM (vS (NM (flA 2 m a b)) 11 1)) (tmM 2 (NM (vS (NM (flA 2 m a b)) 11 1)) (flS 2 (NM (flA 2 m a b)))) = _
      unfold puF
      rw [em, et, r0, e1]
    have eG : fillM 2 m a b 1 25 = puG (v 0 32) (v 0 16) (v 0 17) a b := by
      rw [hq]
      show m 1 25 + b - (tmM 2 (NM (vS (NM (flA 2 m a b)) 11 1)) (flS 2 (NM (flA 2 m a b))) - tfM 2 (NM (vS (NM (flA 2 m a b)) 11 1)) (tmM 2 (NM (vS (NM (flA 2 m a b)) 11 1)) (flS 2 (NM (flA 2 m a b))))) = _
      rw [em, et, e2, show puG (v 0 32) (v 0 16) (v 0 17) a b = _ from if_neg hs]
      exact tg_eq hc2 (by omega) (by omega) hsur
    have eS : fillM 2 m a b 1 32 = v 0 24 + pourR 2 v a b := by
      rw [hq]
      show m 1 32 + flT 2 (NM (flA 2 m a b)) 0 9 = v 0 24 + puR (v 0 32) (v 0 16) (v 0 17) a b
      rw [e9, e3]
    refine ⟨⟨?_, h.2.1.hi rfl rfl (fun k hk => fillM_hi 2 m a b (by omega) hk), h.2.2.1.hi rfl rfl rfl rfl (fun k hk => fillM_hi 2 m a b (by omega) hk), ⟨h.2.2.2.1.1, ⟨h.2.2.2.1.2.1.1, h.2.2.2.1.2.1.2.1, p1, h.2.2.2.1.2.1.2.2.2⟩, h.2.2.2.1.2.2⟩, h.2.2.2.2⟩, ?_, ?_, ?_⟩
    · rw [hq] at eF eG eS ⊢
      exact (by
        intro j hj
        match j, hj with
        | 0, _ => exact h.1 0 (Nat.le_of_ble_eq_true rfl)
        | 1, _ => exact h.1 1 (Nat.le_of_ble_eq_true rfl)
        | 2, _ => exact h.1 2 (Nat.le_of_ble_eq_true rfl)
        | 3, _ => exact h.1 3 (Nat.le_of_ble_eq_true rfl)
        | 4, _ => exact h.1 4 (Nat.le_of_ble_eq_true rfl)
        | 5, _ => exact h.1 5 (Nat.le_of_ble_eq_true rfl)
        | 6, _ => exact h.1 6 (Nat.le_of_ble_eq_true rfl)
        | 7, _ => exact h.1 7 (Nat.le_of_ble_eq_true rfl)
        | 8, _ => exact h.1 8 (Nat.le_of_ble_eq_true rfl)
        | 9, _ => exact h.1 9 (Nat.le_of_ble_eq_true rfl)
        | 10, _ => exact h.1 10 (Nat.le_of_ble_eq_true rfl)
        | 11, _ => exact h.1 11 (Nat.le_of_ble_eq_true rfl)
        | 12, _ => exact h.1 12 (Nat.le_of_ble_eq_true rfl)
        | 13, _ => exact h.1 13 (Nat.le_of_ble_eq_true rfl)
        | 14, _ => exact h.1 14 (Nat.le_of_ble_eq_true rfl)
        | 15, _ => exact h.1 15 (Nat.le_of_ble_eq_true rfl)
        | 16, _ => exact h.1 16 (Nat.le_of_ble_eq_true rfl)
        | 17, _ => exact h.1 17 (Nat.le_of_ble_eq_true rfl)
        | 18, _ => exact h.1 18 (Nat.le_of_ble_eq_true rfl)
        | 19, _ => exact h.1 19 (Nat.le_of_ble_eq_true rfl)
        | 20, _ => exact h.1 20 (Nat.le_of_ble_eq_true rfl)
        | 21, _ => exact h.1 21 (Nat.le_of_ble_eq_true rfl)
        | 22, _ => exact h.1 22 (Nat.le_of_ble_eq_true rfl)
        | 23, _ => exact h.1 23 (Nat.le_of_ble_eq_true rfl)
        | 24, _ => exact eF
        | 25, _ => exact eG
        | 26, _ => exact h.1 26 (Nat.le_of_ble_eq_true rfl)
        | 27, _ => exact h.1 27 (Nat.le_of_ble_eq_true rfl)
        | 28, _ => exact h.1 28 (Nat.le_of_ble_eq_true rfl)
        | 29, _ => exact h.1 29 (Nat.le_of_ble_eq_true rfl)
        | 30, _ => exact h.1 30 (Nat.le_of_ble_eq_true rfl)
        | 31, _ => exact h.1 31 (Nat.le_of_ble_eq_true rfl)
        | 32, _ => exact eS
        | 33, _ => exact h.1 33 (Nat.le_of_ble_eq_true rfl)
        | 34, _ => exact h.1 34 (Nat.le_of_ble_eq_true rfl)
        | 35, _ => exact h.1 35 (Nat.le_of_ble_eq_true rfl)
        | 36, _ => exact h.1 36 (Nat.le_of_ble_eq_true rfl)
        | 37, _ => exact h.1 37 (Nat.le_of_ble_eq_true rfl)
        | 38, _ => exact h.1 38 (Nat.le_of_ble_eq_true rfl)
        | 39, _ => exact h.1 39 (Nat.le_of_ble_eq_true rfl)
        | j + 40, hj => exact absurd hj (by omega))
    · rw [hq2, e9]; rfl
    · rw [hq, if_neg hs]; rfl
    · rw [hq]; rfl
/-- chest 3: something is taken -/
def tv3 (v : pLV) (x : Int32) : pLV := vS (vS v 19 (v 0 19 - tkR (v 0 19) (v 0 20) (mnI x ((v 0 19) + (v 0 20))))) 20 (tkG (v 0 19) (v 0 20) (mnI x ((v 0 19) + (v 0 20))))
set_option maxHeartbeats 1000000 in
theorem take_S3 {B : Int} {bk : Int32} {v m : pLV} {x : Int32} (h : SL B bk v (m 1)) (hx : 0 ≤ x.toInt) : SL B bk (tv3 v x) (takeM 3 m x 1) ∧ takeM 3 m x 0 9 = tkR (v 0 19) (v 0 20) (mnI x ((v 0 19) + (v 0 20))) ∧ takeM 3 m x 0 10 = (mnI x ((v 0 19) + (v 0 20))) - tkR (v 0 19) (v 0 20) (mnI x ((v 0 19) + (v 0 20))) := by
  have hc := h.2.2.2.1.2.1.2.2.2
  have hs := hc.sum (by omega)
  have hc' := hc
  obtain ⟨c1, c2, c3⟩ := hc'
  have e1 : m 1 27 = v 0 19 := h.1 27 (by omega)
  have e2 : m 1 28 = v 0 20 := h.1 28 (by omega)
  have es : sumM 3 m = v 0 19 + v 0 20 := by
    show m 1 27 + m 1 28 = _
    rw [e1, e2]
  have em : tmM 3 m x = (mnI x ((v 0 19) + (v 0 20))) := by
    unfold tmM
    rw [es]
    exact tm_eq _ _
  have hm := mnI_i x ((v 0 19) + (v 0 20))
  have hm0 : 0 ≤ ((mnI x ((v 0 19) + (v 0 20)))).toInt := by omega
  have hm1 : ((mnI x ((v 0 19) + (v 0 20)))).toInt ≤ ((v 0 19)).toInt + ((v 0 20)).toInt := by omega
  have et : tfM 3 m (tmM 3 m x) = tkR (v 0 19) (v 0 20) (mnI x ((v 0 19) + (v 0 20))) := by
    rw [em]
    unfold tfM
    rw [es, show m 1 (18 + 3 * 3) = v 0 19 from e1]
    exact tf_eq hc (by omega)
  have eF : takeM 3 m x 1 27 = v 0 19 - tkR (v 0 19) (v 0 20) (mnI x ((v 0 19) + (v 0 20))) := by
    show m 1 27 - tfM 3 m (tmM 3 m x) = _
    rw [et, e1]
  have eG : takeM 3 m x 1 28 = tkG (v 0 19) (v 0 20) (mnI x ((v 0 19) + (v 0 20))) := by
    show m 1 28 - (tmM 3 m x - tfM 3 m (tmM 3 m x)) = _
    rw [et, em, e2]
    exact tg_eq hc (by omega) hm0 hm1
  have hcn := take_CH hc (by omega) hm0 hm1
  refine ⟨⟨by
      intro j hj
      match j, hj with
      | 0, _ => exact h.1 0 (Nat.le_of_ble_eq_true rfl)
      | 1, _ => exact h.1 1 (Nat.le_of_ble_eq_true rfl)
      | 2, _ => exact h.1 2 (Nat.le_of_ble_eq_true rfl)
      | 3, _ => exact h.1 3 (Nat.le_of_ble_eq_true rfl)
      | 4, _ => exact h.1 4 (Nat.le_of_ble_eq_true rfl)
      | 5, _ => exact h.1 5 (Nat.le_of_ble_eq_true rfl)
      | 6, _ => exact h.1 6 (Nat.le_of_ble_eq_true rfl)
      | 7, _ => exact h.1 7 (Nat.le_of_ble_eq_true rfl)
      | 8, _ => exact h.1 8 (Nat.le_of_ble_eq_true rfl)
      | 9, _ => exact h.1 9 (Nat.le_of_ble_eq_true rfl)
      | 10, _ => exact h.1 10 (Nat.le_of_ble_eq_true rfl)
      | 11, _ => exact h.1 11 (Nat.le_of_ble_eq_true rfl)
      | 12, _ => exact h.1 12 (Nat.le_of_ble_eq_true rfl)
      | 13, _ => exact h.1 13 (Nat.le_of_ble_eq_true rfl)
      | 14, _ => exact h.1 14 (Nat.le_of_ble_eq_true rfl)
      | 15, _ => exact h.1 15 (Nat.le_of_ble_eq_true rfl)
      | 16, _ => exact h.1 16 (Nat.le_of_ble_eq_true rfl)
      | 17, _ => exact h.1 17 (Nat.le_of_ble_eq_true rfl)
      | 18, _ => exact h.1 18 (Nat.le_of_ble_eq_true rfl)
      | 19, _ => exact h.1 19 (Nat.le_of_ble_eq_true rfl)
      | 20, _ => exact h.1 20 (Nat.le_of_ble_eq_true rfl)
      | 21, _ => exact h.1 21 (Nat.le_of_ble_eq_true rfl)
      | 22, _ => exact h.1 22 (Nat.le_of_ble_eq_true rfl)
      | 23, _ => exact h.1 23 (Nat.le_of_ble_eq_true rfl)
      | 24, _ => exact h.1 24 (Nat.le_of_ble_eq_true rfl)
      | 25, _ => exact h.1 25 (Nat.le_of_ble_eq_true rfl)
      | 26, _ => exact h.1 26 (Nat.le_of_ble_eq_true rfl)
      | 27, _ => exact eF
      | 28, _ => exact eG
      | 29, _ => exact h.1 29 (Nat.le_of_ble_eq_true rfl)
      | 30, _ => exact h.1 30 (Nat.le_of_ble_eq_true rfl)
      | 31, _ => exact h.1 31 (Nat.le_of_ble_eq_true rfl)
      | 32, _ => exact h.1 32 (Nat.le_of_ble_eq_true rfl)
      | 33, _ => exact h.1 33 (Nat.le_of_ble_eq_true rfl)
      | 34, _ => exact h.1 34 (Nat.le_of_ble_eq_true rfl)
      | 35, _ => exact h.1 35 (Nat.le_of_ble_eq_true rfl)
      | 36, _ => exact h.1 36 (Nat.le_of_ble_eq_true rfl)
      | 37, _ => exact h.1 37 (Nat.le_of_ble_eq_true rfl)
      | 38, _ => exact h.1 38 (Nat.le_of_ble_eq_true rfl)
      | 39, _ => exact h.1 39 (Nat.le_of_ble_eq_true rfl)
      | j + 40, hj => exact absurd hj (by omega), h.2.1.hi rfl rfl (fun k hk => takeM_hi 3 m x (by omega) hk), h.2.2.1.hi rfl rfl rfl rfl (fun k hk => takeM_hi 3 m x (by omega) hk), ⟨h.2.2.2.1.1, ⟨h.2.2.2.1.2.1.1, h.2.2.2.1.2.1.2.1, h.2.2.2.1.2.1.2.2.1, hcn⟩, h.2.2.2.1.2.2⟩, h.2.2.2.2⟩, et, ?_⟩
  show tmM 3 m x - tfM 3 m (tmM 3 m x) = _
  rw [et, em]
set_option maxHeartbeats 1000000 in
theorem fill_S3 {B : Int} {bk : Int32} {v m : pLV} {a b : Int32} (h : SL B bk v (m 1)) (ha : 0 ≤ a.toInt) (hb : 0 ≤ b.toInt) (hab : a.toInt + b.toInt ≤ 1000000) : SL B bk (pourV 3 v a b) (fillM 3 m a b 1) ∧ fillR 3 m a b = pourR 3 v a b ∧ fillM 3 m a b 0 11 = (if (v 0 19) + a + ((v 0 20) + b) - (v 0 33) ≤ 0 then 0 else 1) ∧ fillM 3 m a b 0 12 = m 0 12 := by
  have hc := h.2.2.2.1.2.1.2.2.2
  have hR : (v 0 33).toInt = 10000 := by rw [h.2.2.2.1.1.2.2.2]; rfl
  have hrm : rmI 3 = (v 0 33) := by rw [h.2.2.2.1.1.2.2.2]; rfl
  obtain ⟨p1, p2, p3, p4, p5, p6, p7⟩ := pour_ok hc (by omega) hR ha hb hab (by omega)
  have e1 : m 1 27 = v 0 19 := h.1 27 (by omega)
  have e2 : m 1 28 = v 0 20 := h.1 28 (by omega)
  have e3 : m 1 32 = v 0 24 := h.1 32 (by omega)
  have es : flS 3 (NM (flA 3 m a b)) = (v 0 19) + a + ((v 0 20) + b) - (v 0 33) := by
    show m 1 27 + a + (m 1 28 + b) - rmI 3 = _
    rw [e1, e2, hrm]
  by_cases hs : (v 0 19) + a + ((v 0 20) + b) - (v 0 33) ≤ 0
  · have hq : fillM 3 m a b = vS (NM (flA 3 m a b)) 11 0 := if_pos (by rw [es]; exact hs)
    have hq2 : fillR 3 m a b = 0 := if_pos (by rw [es]; exact hs)
    have r0 : puR (v 0 33) (v 0 19) (v 0 20) a b = 0 := if_pos hs
    have eF : fillM 3 m a b 1 27 = puF (v 0 33) (v 0 19) (v 0 20) a b := by
      rw [hq]
      show m 1 27 + a = _
      unfold puF
      rw [r0, Int32.sub_zero, e1]
    have eG : fillM 3 m a b 1 28 = puG (v 0 33) (v 0 19) (v 0 20) a b := by
      rw [hq]
      show m 1 28 + b = _
      rw [show puG (v 0 33) (v 0 19) (v 0 20) a b = _ from if_pos hs, e2]
    have eS : fillM 3 m a b 1 32 = v 0 24 + pourR 3 v a b := by
      rw [hq]
      show m 1 32 = v 0 24 + puR (v 0 33) (v 0 19) (v 0 20) a b
      rw [r0, Int32.add_zero, e3]
    refine ⟨⟨?_, h.2.1.hi rfl rfl (fun k hk => fillM_hi 3 m a b (by omega) hk), h.2.2.1.hi rfl rfl rfl rfl (fun k hk => fillM_hi 3 m a b (by omega) hk), ⟨h.2.2.2.1.1, ⟨h.2.2.2.1.2.1.1, h.2.2.2.1.2.1.2.1, h.2.2.2.1.2.1.2.2.1, p1⟩, h.2.2.2.1.2.2⟩, h.2.2.2.2⟩, ?_, ?_, ?_⟩
    · rw [hq] at eF eG eS ⊢
      exact (by
        intro j hj
        match j, hj with
        | 0, _ => exact h.1 0 (Nat.le_of_ble_eq_true rfl)
        | 1, _ => exact h.1 1 (Nat.le_of_ble_eq_true rfl)
        | 2, _ => exact h.1 2 (Nat.le_of_ble_eq_true rfl)
        | 3, _ => exact h.1 3 (Nat.le_of_ble_eq_true rfl)
        | 4, _ => exact h.1 4 (Nat.le_of_ble_eq_true rfl)
        | 5, _ => exact h.1 5 (Nat.le_of_ble_eq_true rfl)
        | 6, _ => exact h.1 6 (Nat.le_of_ble_eq_true rfl)
        | 7, _ => exact h.1 7 (Nat.le_of_ble_eq_true rfl)
        | 8, _ => exact h.1 8 (Nat.le_of_ble_eq_true rfl)
        | 9, _ => exact h.1 9 (Nat.le_of_ble_eq_true rfl)
        | 10, _ => exact h.1 10 (Nat.le_of_ble_eq_true rfl)
        | 11, _ => exact h.1 11 (Nat.le_of_ble_eq_true rfl)
        | 12, _ => exact h.1 12 (Nat.le_of_ble_eq_true rfl)
        | 13, _ => exact h.1 13 (Nat.le_of_ble_eq_true rfl)
        | 14, _ => exact h.1 14 (Nat.le_of_ble_eq_true rfl)
        | 15, _ => exact h.1 15 (Nat.le_of_ble_eq_true rfl)
        | 16, _ => exact h.1 16 (Nat.le_of_ble_eq_true rfl)
        | 17, _ => exact h.1 17 (Nat.le_of_ble_eq_true rfl)
        | 18, _ => exact h.1 18 (Nat.le_of_ble_eq_true rfl)
        | 19, _ => exact h.1 19 (Nat.le_of_ble_eq_true rfl)
        | 20, _ => exact h.1 20 (Nat.le_of_ble_eq_true rfl)
        | 21, _ => exact h.1 21 (Nat.le_of_ble_eq_true rfl)
        | 22, _ => exact h.1 22 (Nat.le_of_ble_eq_true rfl)
        | 23, _ => exact h.1 23 (Nat.le_of_ble_eq_true rfl)
        | 24, _ => exact h.1 24 (Nat.le_of_ble_eq_true rfl)
        | 25, _ => exact h.1 25 (Nat.le_of_ble_eq_true rfl)
        | 26, _ => exact h.1 26 (Nat.le_of_ble_eq_true rfl)
        | 27, _ => exact eF
        | 28, _ => exact eG
        | 29, _ => exact h.1 29 (Nat.le_of_ble_eq_true rfl)
        | 30, _ => exact h.1 30 (Nat.le_of_ble_eq_true rfl)
        | 31, _ => exact h.1 31 (Nat.le_of_ble_eq_true rfl)
        | 32, _ => exact eS
        | 33, _ => exact h.1 33 (Nat.le_of_ble_eq_true rfl)
        | 34, _ => exact h.1 34 (Nat.le_of_ble_eq_true rfl)
        | 35, _ => exact h.1 35 (Nat.le_of_ble_eq_true rfl)
        | 36, _ => exact h.1 36 (Nat.le_of_ble_eq_true rfl)
        | 37, _ => exact h.1 37 (Nat.le_of_ble_eq_true rfl)
        | 38, _ => exact h.1 38 (Nat.le_of_ble_eq_true rfl)
        | 39, _ => exact h.1 39 (Nat.le_of_ble_eq_true rfl)
        | j + 40, hj => exact absurd hj (by omega))
    · rw [hq2]; exact r0.symm
    · rw [hq, if_pos hs]; rfl
    · rw [hq]; rfl
  · have hq : fillM 3 m a b = flW (flT 3 (NM (flA 3 m a b))) := if_neg (by rw [es]; exact hs)
    have hq2 : fillR 3 m a b = flT 3 (NM (flA 3 m a b)) 0 9 := if_neg (by rw [es]; exact hs)
    have hs' := ilt.mp (Int32.not_le.mp hs)
    rw [Int32.toInt_zero] at hs'
    have hc2 : CH 2000000 ((v 0 19) + a) ((v 0 20) + b) := by
      obtain ⟨c1, c2, c3⟩ := hc
      exact ⟨by omega, by omega, by omega⟩
    have hsur : ((v 0 19) + a + ((v 0 20) + b) - (v 0 33)).toInt ≤ ((v 0 19) + a).toInt + ((v 0 20) + b).toInt := by omega
    have em : tmM 3 (NM (vS (NM (flA 3 m a b)) 11 1)) (flS 3 (NM (flA 3 m a b))) = (v 0 19) + a + ((v 0 20) + b) - (v 0 33) := by
      rw [es]
      unfold tmM
      have e4 : sumM 3 (NM (vS (NM (flA 3 m a b)) 11 1)) = (v 0 19) + a + ((v 0 20) + b) := by
        show m 1 27 + a + (m 1 28 + b) = _
        rw [e1, e2]
      rw [e4, tm_eq]
      rw [ieq, mnI_i]
      have := hc2.sum (by omega)
      omega
    have et : tfM 3 (NM (vS (NM (flA 3 m a b)) 11 1)) ((v 0 19) + a + ((v 0 20) + b) - (v 0 33)) = tkR ((v 0 19) + a) ((v 0 20) + b) ((v 0 19) + a + ((v 0 20) + b) - (v 0 33)) := by
      unfold tfM
      have e4 : sumM 3 (NM (vS (NM (flA 3 m a b)) 11 1)) = (v 0 19) + a + ((v 0 20) + b) := by
        show m 1 27 + a + (m 1 28 + b) = _
        rw [e1, e2]
      rw [e4, show (NM (vS (NM (flA 3 m a b)) 11 1)) 1 (18 + 3 * 3) = (v 0 19) + a from by show m 1 27 + a = _; rw [e1]]
      exact tf_eq hc2 (by omega)
    have r0 : puR (v 0 33) (v 0 19) (v 0 20) a b = tkR ((v 0 19) + a) ((v 0 20) + b) ((v 0 19) + a + ((v 0 20) + b) - (v 0 33)) := if_neg hs
    have e9 : flT 3 (NM (flA 3 m a b)) 0 9 = puR (v 0 33) (v 0 19) (v 0 20) a b := by
      show tfM 3 (NM (vS (NM (flA 3 m a b)) 11 1)) (tmM 3 (NM (vS (NM (flA 3 m a b)) 11 1)) (flS 3 (NM (flA 3 m a b)))) = _
      rw [em, et, r0]
    have eF : fillM 3 m a b 1 27 = puF (v 0 33) (v 0 19) (v 0 20) a b := by
      rw [hq]
      show m 1 27 + a - tfM 3 (NM (vS (NM (flA 3 m a b)) 11 1)) (tmM 3 (NM (vS (NM (flA 3 m a b)) 11 1)) (flS 3 (NM (flA 3 m a b)))) = _
      unfold puF
      rw [em, et, r0, e1]
    have eG : fillM 3 m a b 1 28 = puG (v 0 33) (v 0 19) (v 0 20) a b := by
      rw [hq]
      show m 1 28 + b - (tmM 3 (NM (vS (NM (flA 3 m a b)) 11 1)) (flS 3 (NM (flA 3 m a b))) - tfM 3 (NM (vS (NM (flA 3 m a b)) 11 1)) (tmM 3 (NM (vS (NM (flA 3 m a b)) 11 1)) (flS 3 (NM (flA 3 m a b))))) = _
      rw [em, et, e2, show puG (v 0 33) (v 0 19) (v 0 20) a b = _ from if_neg hs]
      exact tg_eq hc2 (by omega) (by omega) hsur
    have eS : fillM 3 m a b 1 32 = v 0 24 + pourR 3 v a b := by
      rw [hq]
      show m 1 32 + flT 3 (NM (flA 3 m a b)) 0 9 = v 0 24 + puR (v 0 33) (v 0 19) (v 0 20) a b
      rw [e9, e3]
    refine ⟨⟨?_, h.2.1.hi rfl rfl (fun k hk => fillM_hi 3 m a b (by omega) hk), h.2.2.1.hi rfl rfl rfl rfl (fun k hk => fillM_hi 3 m a b (by omega) hk), ⟨h.2.2.2.1.1, ⟨h.2.2.2.1.2.1.1, h.2.2.2.1.2.1.2.1, h.2.2.2.1.2.1.2.2.1, p1⟩, h.2.2.2.1.2.2⟩, h.2.2.2.2⟩, ?_, ?_, ?_⟩
    · rw [hq] at eF eG eS ⊢
      exact (by
        intro j hj
        match j, hj with
        | 0, _ => exact h.1 0 (Nat.le_of_ble_eq_true rfl)
        | 1, _ => exact h.1 1 (Nat.le_of_ble_eq_true rfl)
        | 2, _ => exact h.1 2 (Nat.le_of_ble_eq_true rfl)
        | 3, _ => exact h.1 3 (Nat.le_of_ble_eq_true rfl)
        | 4, _ => exact h.1 4 (Nat.le_of_ble_eq_true rfl)
        | 5, _ => exact h.1 5 (Nat.le_of_ble_eq_true rfl)
        | 6, _ => exact h.1 6 (Nat.le_of_ble_eq_true rfl)
        | 7, _ => exact h.1 7 (Nat.le_of_ble_eq_true rfl)
        | 8, _ => exact h.1 8 (Nat.le_of_ble_eq_true rfl)
        | 9, _ => exact h.1 9 (Nat.le_of_ble_eq_true rfl)
        | 10, _ => exact h.1 10 (Nat.le_of_ble_eq_true rfl)
        | 11, _ => exact h.1 11 (Nat.le_of_ble_eq_true rfl)
        | 12, _ => exact h.1 12 (Nat.le_of_ble_eq_true rfl)
        | 13, _ => exact h.1 13 (Nat.le_of_ble_eq_true rfl)
        | 14, _ => exact h.1 14 (Nat.le_of_ble_eq_true rfl)
        | 15, _ => exact h.1 15 (Nat.le_of_ble_eq_true rfl)
        | 16, _ => exact h.1 16 (Nat.le_of_ble_eq_true rfl)
        | 17, _ => exact h.1 17 (Nat.le_of_ble_eq_true rfl)
        | 18, _ => exact h.1 18 (Nat.le_of_ble_eq_true rfl)
        | 19, _ => exact h.1 19 (Nat.le_of_ble_eq_true rfl)
        | 20, _ => exact h.1 20 (Nat.le_of_ble_eq_true rfl)
        | 21, _ => exact h.1 21 (Nat.le_of_ble_eq_true rfl)
        | 22, _ => exact h.1 22 (Nat.le_of_ble_eq_true rfl)
        | 23, _ => exact h.1 23 (Nat.le_of_ble_eq_true rfl)
        | 24, _ => exact h.1 24 (Nat.le_of_ble_eq_true rfl)
        | 25, _ => exact h.1 25 (Nat.le_of_ble_eq_true rfl)
        | 26, _ => exact h.1 26 (Nat.le_of_ble_eq_true rfl)
        | 27, _ => exact eF
        | 28, _ => exact eG
        | 29, _ => exact h.1 29 (Nat.le_of_ble_eq_true rfl)
        | 30, _ => exact h.1 30 (Nat.le_of_ble_eq_true rfl)
        | 31, _ => exact h.1 31 (Nat.le_of_ble_eq_true rfl)
        | 32, _ => exact eS
        | 33, _ => exact h.1 33 (Nat.le_of_ble_eq_true rfl)
        | 34, _ => exact h.1 34 (Nat.le_of_ble_eq_true rfl)
        | 35, _ => exact h.1 35 (Nat.le_of_ble_eq_true rfl)
        | 36, _ => exact h.1 36 (Nat.le_of_ble_eq_true rfl)
        | 37, _ => exact h.1 37 (Nat.le_of_ble_eq_true rfl)
        | 38, _ => exact h.1 38 (Nat.le_of_ble_eq_true rfl)
        | 39, _ => exact h.1 39 (Nat.le_of_ble_eq_true rfl)
        | j + 40, hj => exact absurd hj (by omega))
    · rw [hq2, e9]; rfl
    · rw [hq, if_neg hs]; rfl
    · rw [hq]; rfl
end
