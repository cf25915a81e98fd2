noncomputable section
theorem dX7_insert_0 : decode cX7_insert 0 = .ok (.aload_n 0, 1) := by decide +kernel
theorem dX7_insert_1 : decode cX7_insert 1 = .ok (.getfield 21, 3) := by decide +kernel
theorem dX7_insert_4 : decode cX7_insert 4 = .ok (.ifCond .lt 12, 3) := by decide +kernel
theorem dX7_insert_7 : decode cX7_insert 7 = .ok (.aload_n 0, 1) := by decide +kernel
theorem dX7_insert_8 : decode cX7_insert 8 = .ok (.getfield 21, 3) := by decide +kernel
theorem dX7_insert_11 : decode cX7_insert 11 = .ok (.bipush 20, 2) := by decide +kernel
theorem dX7_insert_13 : decode cX7_insert 13 = .ok (.if_icmp .lt 4, 3) := by decide +kernel
theorem dX7_insert_16 : decode cX7_insert 16 = .ok (.return_, 1) := by decide +kernel
theorem dX7_insert_17 : decode cX7_insert 17 = .ok (.aload_n 0, 1) := by decide +kernel
theorem dX7_insert_18 : decode cX7_insert 18 = .ok (.getfield 21, 3) := by decide +kernel
theorem dX7_insert_21 : decode cX7_insert 21 = .ok (.istore 4, 2) := by decide +kernel
theorem dX7_insert_23 : decode cX7_insert 23 = .ok (.iload 4, 2) := by decide +kernel
theorem dX7_insert_25 : decode cX7_insert 25 = .ok (.ifCond .le 70, 3) := by decide +kernel
theorem dX7_insert_28 : decode cX7_insert 28 = .ok (.aload_n 0, 1) := by decide +kernel
theorem dX7_insert_29 : decode cX7_insert 29 = .ok (.getfield 9, 3) := by decide +kernel
theorem dX7_insert_32 : decode cX7_insert 32 = .ok (.iload 4, 2) := by decide +kernel
theorem dX7_insert_34 : decode cX7_insert 34 = .ok (.iconst 1, 1) := by decide +kernel
theorem dX7_insert_35 : decode cX7_insert 35 = .ok (.isub, 1) := by decide +kernel
theorem dX7_insert_36 : decode cX7_insert 36 = .ok (.iaload, 1) := by decide +kernel
theorem dX7_insert_37 : decode cX7_insert 37 = .ok (.iload_n 1, 1) := by decide +kernel
theorem dX7_insert_38 : decode cX7_insert 38 = .ok (.if_icmp .le 57, 3) := by decide +kernel
theorem dX7_insert_41 : decode cX7_insert 41 = .ok (.aload_n 0, 1) := by decide +kernel
theorem dX7_insert_42 : decode cX7_insert 42 = .ok (.getfield 9, 3) := by decide +kernel
theorem dX7_insert_45 : decode cX7_insert 45 = .ok (.iload 4, 2) := by decide +kernel
theorem dX7_insert_47 : decode cX7_insert 47 = .ok (.aload_n 0, 1) := by decide +kernel
theorem dX7_insert_48 : decode cX7_insert 48 = .ok (.getfield 9, 3) := by decide +kernel
theorem dX7_insert_51 : decode cX7_insert 51 = .ok (.iload 4, 2) := by decide +kernel
theorem dX7_insert_53 : decode cX7_insert 53 = .ok (.iconst 1, 1) := by decide +kernel
theorem dX7_insert_54 : decode cX7_insert 54 = .ok (.isub, 1) := by decide +kernel
theorem dX7_insert_55 : decode cX7_insert 55 = .ok (.iaload, 1) := by decide +kernel
theorem dX7_insert_56 : decode cX7_insert 56 = .ok (.iastore, 1) := by decide +kernel
theorem dX7_insert_57 : decode cX7_insert 57 = .ok (.aload_n 0, 1) := by decide +kernel
theorem dX7_insert_58 : decode cX7_insert 58 = .ok (.getfield 15, 3) := by decide +kernel
theorem dX7_insert_61 : decode cX7_insert 61 = .ok (.iload 4, 2) := by decide +kernel
theorem dX7_insert_63 : decode cX7_insert 63 = .ok (.aload_n 0, 1) := by decide +kernel
theorem dX7_insert_64 : decode cX7_insert 64 = .ok (.getfield 15, 3) := by decide +kernel
theorem dX7_insert_67 : decode cX7_insert 67 = .ok (.iload 4, 2) := by decide +kernel
theorem dX7_insert_69 : decode cX7_insert 69 = .ok (.iconst 1, 1) := by decide +kernel
theorem dX7_insert_70 : decode cX7_insert 70 = .ok (.isub, 1) := by decide +kernel
theorem dX7_insert_71 : decode cX7_insert 71 = .ok (.iaload, 1) := by decide +kernel
theorem dX7_insert_72 : decode cX7_insert 72 = .ok (.iastore, 1) := by decide +kernel
theorem dX7_insert_73 : decode cX7_insert 73 = .ok (.aload_n 0, 1) := by decide +kernel
theorem dX7_insert_74 : decode cX7_insert 74 = .ok (.getfield 18, 3) := by decide +kernel
theorem dX7_insert_77 : decode cX7_insert 77 = .ok (.iload 4, 2) := by decide +kernel
theorem dX7_insert_79 : decode cX7_insert 79 = .ok (.aload_n 0, 1) := by decide +kernel
theorem dX7_insert_80 : decode cX7_insert 80 = .ok (.getfield 18, 3) := by decide +kernel
theorem dX7_insert_83 : decode cX7_insert 83 = .ok (.iload 4, 2) := by decide +kernel
theorem dX7_insert_85 : decode cX7_insert 85 = .ok (.iconst 1, 1) := by decide +kernel
theorem dX7_insert_86 : decode cX7_insert 86 = .ok (.isub, 1) := by decide +kernel
theorem dX7_insert_87 : decode cX7_insert 87 = .ok (.iaload, 1) := by decide +kernel
theorem dX7_insert_88 : decode cX7_insert 88 = .ok (.iastore, 1) := by decide +kernel
theorem dX7_insert_89 : decode cX7_insert 89 = .ok (.iinc 4 (-1), 3) := by decide +kernel
theorem dX7_insert_92 : decode cX7_insert 92 = .ok (.goto (-69), 3) := by decide +kernel
theorem dX7_insert_95 : decode cX7_insert 95 = .ok (.aload_n 0, 1) := by decide +kernel
theorem dX7_insert_96 : decode cX7_insert 96 = .ok (.getfield 9, 3) := by decide +kernel
theorem dX7_insert_99 : decode cX7_insert 99 = .ok (.iload 4, 2) := by decide +kernel
theorem dX7_insert_101 : decode cX7_insert 101 = .ok (.iload_n 1, 1) := by decide +kernel
theorem dX7_insert_102 : decode cX7_insert 102 = .ok (.iastore, 1) := by decide +kernel
theorem dX7_insert_103 : decode cX7_insert 103 = .ok (.aload_n 0, 1) := by decide +kernel
theorem dX7_insert_104 : decode cX7_insert 104 = .ok (.getfield 15, 3) := by decide +kernel
theorem dX7_insert_107 : decode cX7_insert 107 = .ok (.iload 4, 2) := by decide +kernel
theorem dX7_insert_109 : decode cX7_insert 109 = .ok (.iload_n 2, 1) := by decide +kernel
theorem dX7_insert_110 : decode cX7_insert 110 = .ok (.iastore, 1) := by decide +kernel
theorem dX7_insert_111 : decode cX7_insert 111 = .ok (.aload_n 0, 1) := by decide +kernel
theorem dX7_insert_112 : decode cX7_insert 112 = .ok (.getfield 18, 3) := by decide +kernel
theorem dX7_insert_115 : decode cX7_insert 115 = .ok (.iload 4, 2) := by decide +kernel
theorem dX7_insert_117 : decode cX7_insert 117 = .ok (.iload_n 3, 1) := by decide +kernel
theorem dX7_insert_118 : decode cX7_insert 118 = .ok (.iastore, 1) := by decide +kernel
theorem dX7_insert_119 : decode cX7_insert 119 = .ok (.aload_n 0, 1) := by decide +kernel
theorem dX7_insert_120 : decode cX7_insert 120 = .ok (.dup, 1) := by decide +kernel
theorem dX7_insert_121 : decode cX7_insert 121 = .ok (.getfield 21, 3) := by decide +kernel
theorem dX7_insert_124 : decode cX7_insert 124 = .ok (.iconst 1, 1) := by decide +kernel
theorem dX7_insert_125 : decode cX7_insert 125 = .ok (.iadd, 1) := by decide +kernel
theorem dX7_insert_126 : decode cX7_insert 126 = .ok (.putfield 21, 3) := by decide +kernel
theorem dX7_insert_129 : decode cX7_insert 129 = .ok (.return_, 1) := by decide +kernel
def k_X7_insert : List pEn := [oAload 0, oGet 7 3, oIflt 7, oAload 0, oGet 7 3, oConst (20), oClt 8, oVret, oAload 0, oGet 7 3, oIstore 4, oIload 4, oIfle 53, oAload 0, oGet 7 0, oIload 4, oConst (1), oSub, oIald, oIload 1, oCle 53, oAload 0, oGet 7 0, oIload 4, oAload 0, oGet 7 0, oIload 4, oConst (1), oSub, oIald, oIast, oAload 0, oGet 7 1, oIload 4, oAload 0, oGet 7 1, oIload 4, oConst (1), oSub, oIald, oIast, oAload 0, oGet 7 2, oIload 4, oAload 0, oGet 7 2, oIload 4, oConst (1), oSub, oIald, oIast, oIinc 4 (-1), oGoto 11, oAload 0, oGet 7 0, oIload 4, oIload 1, oIast, oAload 0, oGet 7 1, oIload 4, oIload 2, oIast, oAload 0, oGet 7 2, oIload 4, oIload 3, oIast, oAload 0, oDup, oGet 7 3, oConst (1), oAdd, oPut 7 3, oVret]
def pc_X7_insert (i : Nat) : Nat := ([0, 1, 4, 7, 8, 11, 13, 16, 17, 18, 21, 23, 25, 28, 29, 32, 34, 35, 36, 37, 38, 41, 42, 45, 47, 48, 51, 53, 54, 55, 56, 57, 58, 61, 63, 64, 67, 69, 70, 71, 72, 73, 74, 77, 79, 80, 83, 85, 86, 87, 88, 89, 92, 95, 96, 99, 101, 102, 103, 104, 107, 109, 110, 111, 112, 115, 117, 118, 119, 120, 121, 124, 125, 126, 129] : List Nat).getD i 0
abbrev rm_X7_insert : Room := { frames := 0, cells := 0, slots := 0, locals := 0 }
theorem pl_X7_insert : pPlain yX7_insert 3 := by decide +kernel
set_option maxRecDepth 100000 in
set_option maxHeartbeats 4000000 in
theorem ok_k_X7_insert (l : Launch) : ∀ (i : Nat) (en : pEn), k_X7_insert[i]? = some en → EOK l cX7_insert yX7_insert.cls 5 (none) rm_X7_insert 0 pc_X7_insert i en := by
  refine allOK_at ?_
  refine And.intro (okAload_n dX7_insert_0 rfl rfl) ?_
  refine And.intro (okGet (C := RX7) (T := TX7) (N := 4) dX7_insert_1 rfl rfl (by decide) inX7 wm_1_118) ?_
  refine And.intro (okIflt dX7_insert_4 rfl (by rfl)) ?_
  refine And.intro (okAload_n dX7_insert_7 rfl rfl) ?_
  refine And.intro (okGet (C := RX7) (T := TX7) (N := 4) dX7_insert_8 rfl rfl (by decide) inX7 wm_1_118) ?_
  refine And.intro (okBipush dX7_insert_11 rfl (by first | rfl | decide)) ?_
  refine And.intro (okClt dX7_insert_13 rfl (by rfl)) ?_
  refine And.intro (okVret dX7_insert_16 rfl) ?_
  refine And.intro (okAload_n dX7_insert_17 rfl rfl) ?_
  refine And.intro (okGet (C := RX7) (T := TX7) (N := 4) dX7_insert_18 rfl rfl (by decide) inX7 wm_1_118) ?_
  refine And.intro (okIstore dX7_insert_21 rfl (by decide)) ?_
  refine And.intro (okIload dX7_insert_23 rfl) ?_
  refine And.intro (okIfle dX7_insert_25 rfl (by rfl)) ?_
  refine And.intro (okAload_n dX7_insert_28 rfl rfl) ?_
  refine And.intro (okGet (C := RX7) (T := TX7) (N := 4) dX7_insert_29 rfl rfl (by decide) inX7 wm_1_109) ?_
  refine And.intro (okIload dX7_insert_32 rfl) ?_
  refine And.intro (okIconst dX7_insert_34 rfl (by first | rfl | decide)) ?_
  refine And.intro (okSub dX7_insert_35 rfl) ?_
  refine And.intro (okIald dX7_insert_36 rfl) ?_
  refine And.intro (okIload_n dX7_insert_37 rfl rfl) ?_
  refine And.intro (okCle dX7_insert_38 rfl (by rfl)) ?_
  refine And.intro (okAload_n dX7_insert_41 rfl rfl) ?_
  refine And.intro (okGet (C := RX7) (T := TX7) (N := 4) dX7_insert_42 rfl rfl (by decide) inX7 wm_1_109) ?_
  refine And.intro (okIload dX7_insert_45 rfl) ?_
  refine And.intro (okAload_n dX7_insert_47 rfl rfl) ?_
  refine And.intro (okGet (C := RX7) (T := TX7) (N := 4) dX7_insert_48 rfl rfl (by decide) inX7 wm_1_109) ?_
  refine And.intro (okIload dX7_insert_51 rfl) ?_
  refine And.intro (okIconst dX7_insert_53 rfl (by first | rfl | decide)) ?_
  refine And.intro (okSub dX7_insert_54 rfl) ?_
  refine And.intro (okIald dX7_insert_55 rfl) ?_
  refine And.intro (okIast dX7_insert_56 rfl) ?_
  refine And.intro (okAload_n dX7_insert_57 rfl rfl) ?_
  refine And.intro (okGet (C := RX7) (T := TX7) (N := 4) dX7_insert_58 rfl rfl (by decide) inX7 wm_1_112) ?_
  refine And.intro (okIload dX7_insert_61 rfl) ?_
  refine And.intro (okAload_n dX7_insert_63 rfl rfl) ?_
  refine And.intro (okGet (C := RX7) (T := TX7) (N := 4) dX7_insert_64 rfl rfl (by decide) inX7 wm_1_112) ?_
  refine And.intro (okIload dX7_insert_67 rfl) ?_
  refine And.intro (okIconst dX7_insert_69 rfl (by first | rfl | decide)) ?_
  refine And.intro (okSub dX7_insert_70 rfl) ?_
  refine And.intro (okIald dX7_insert_71 rfl) ?_
  refine And.intro (okIast dX7_insert_72 rfl) ?_
  refine And.intro (okAload_n dX7_insert_73 rfl rfl) ?_
  refine And.intro (okGet (C := RX7) (T := TX7) (N := 4) dX7_insert_74 rfl rfl (by decide) inX7 wm_1_115) ?_
  refine And.intro (okIload dX7_insert_77 rfl) ?_
  refine And.intro (okAload_n dX7_insert_79 rfl rfl) ?_
  refine And.intro (okGet (C := RX7) (T := TX7) (N := 4) dX7_insert_80 rfl rfl (by decide) inX7 wm_1_115) ?_
  refine And.intro (okIload dX7_insert_83 rfl) ?_
  refine And.intro (okIconst dX7_insert_85 rfl (by first | rfl | decide)) ?_
  refine And.intro (okSub dX7_insert_86 rfl) ?_
  refine And.intro (okIald dX7_insert_87 rfl) ?_
  refine And.intro (okIast dX7_insert_88 rfl) ?_
  refine And.intro (okIinc dX7_insert_89 rfl (by first | rfl | decide) (by decide)) ?_
  refine And.intro (okGoto dX7_insert_92 (by rfl)) ?_
  refine And.intro (okAload_n dX7_insert_95 rfl rfl) ?_
  refine And.intro (okGet (C := RX7) (T := TX7) (N := 4) dX7_insert_96 rfl rfl (by decide) inX7 wm_1_109) ?_
  refine And.intro (okIload dX7_insert_99 rfl) ?_
  refine And.intro (okIload_n dX7_insert_101 rfl rfl) ?_
  refine And.intro (okIast dX7_insert_102 rfl) ?_
  refine And.intro (okAload_n dX7_insert_103 rfl rfl) ?_
  refine And.intro (okGet (C := RX7) (T := TX7) (N := 4) dX7_insert_104 rfl rfl (by decide) inX7 wm_1_112) ?_
  refine And.intro (okIload dX7_insert_107 rfl) ?_
  refine And.intro (okIload_n dX7_insert_109 rfl rfl) ?_
  refine And.intro (okIast dX7_insert_110 rfl) ?_
  refine And.intro (okAload_n dX7_insert_111 rfl rfl) ?_
  refine And.intro (okGet (C := RX7) (T := TX7) (N := 4) dX7_insert_112 rfl rfl (by decide) inX7 wm_1_115) ?_
  refine And.intro (okIload dX7_insert_115 rfl) ?_
  refine And.intro (okIload_n dX7_insert_117 rfl rfl) ?_
  refine And.intro (okIast dX7_insert_118 rfl) ?_
  refine And.intro (okAload_n dX7_insert_119 rfl rfl) ?_
  refine And.intro (okDup dX7_insert_120 rfl) ?_
  refine And.intro (okGet (C := RX7) (T := TX7) (N := 4) dX7_insert_121 rfl rfl (by decide) inX7 wm_1_118) ?_
  refine And.intro (okIconst dX7_insert_124 rfl (by first | rfl | decide)) ?_
  refine And.intro (okAdd dX7_insert_125 rfl) ?_
  refine And.intro (okPut (C := RX7) (T := TX7) (N := 4) dX7_insert_126 rfl rfl (by decide) inX7 tyX7_ok nmX7 rfl rfl wm_1_118) ?_
  refine And.intro (okVret dX7_insert_129 rfl) ?_
  exact trivial
/-- the place behind all whose time is not greater -/
def isP (f : Nat → Int32) (t : Int32) : Nat → Nat
  | 0 => 0
  | p + 1 => if f p ≤ t then p + 1 else isP f t p
theorem isP_le (f : Nat → Int32) (t : Int32) : ∀ p, isP f t p ≤ p
  | 0 => Nat.le_refl _
  | p + 1 => by
    unfold isP
    split
    · exact Nat.le_refl _
    · exact Nat.le_succ_of_le (isP_le f t p)
/-- a row whose places behind q, up to m, have moved on -/
def shI (f : Nat → Int32) (q m : Nat) : Nat → Int32 := fun j => if j ≤ q then f j else if j ≤ m then f (j - 1) else f j
theorem shI_m (f : Nat → Int32) (m : Nat) : shI f m m = f := by
  funext j
  unfold shI
  by_cases h : j ≤ m
  · rw [if_pos h]
  · rw [if_neg h, if_neg h]
theorem shI_s (f : Nat → Int32) {q m : Nat} (h : q + 1 ≤ m) : upd (shI f (q + 1) m) (q + 1) (shI f (q + 1) m q) = shI f q m := by
  funext j
  unfold upd
  by_cases hj : j = q + 1
  · subst hj
    rw [if_pos rfl]
    unfold shI
    rw [if_pos (by omega), if_neg (by omega), if_pos (by omega)]
    rfl
  · rw [if_neg hj]
    unfold shI
    by_cases h2 : j ≤ q
    · rw [if_pos (by omega), if_pos h2]
    · rw [if_neg (by omega), if_neg h2]
def isA (f : Nat → Int32) (p m : Nat) (x : Int32) : Nat → Int32 := upd (shI f p m) p x
def isN (n : Int32) : Int32 := if n < 0 then n else if 20 ≤ n then n else n + 1
def isF (n : Int32) (t : Int32) (f0 f : Nat → Int32) (x : Int32) : Nat → Int32 := if n < 0 then f else if 20 ≤ n then f else isA f (isP f0 t n.toNatClampNeg) n.toNatClampNeg x
theorem shI_at {f : Nat → Int32} {q m : Nat} : shI f (q + 1) m q = f q := by
  unfold shI
  rw [if_pos (by omega)]
theorem nI_le0 {q : Nat} (h : q < 1000) : ¬ nI (q + 1) ≤ 0 := by
  intro z
  have h1 := Int32.le_iff_toInt_le.mp z
  rw [nI_toInt (by omega), Int32.toInt_zero] at h1
  omega
theorem nI_m1 (q : Nat) : nI (q + 1) + (-1) = nI q := by
  rw [← nI_1, Int32.add_assoc]
  show nI q + 0 = nI q
  rw [Int32.add_zero]
theorem nI_s1 (q : Nat) : nI (q + 1) - 1 = nI q := by rw [← nI_1, Int32.add_sub_cancel]
set_option maxHeartbeats 1000000 in
theorem lp_ise (rg : pRg) (n t a b : Int32) (f g e : Nat → Int32) (p m : Nat) (hp : p < 20) : ex k_X7_insert 1 53 [(4, .int (nI p)), (0, .ref 0), (1, .int t), (2, .int a), (3, .int b)] [] [.inr (7, [.ref 1, .ref 2, .ref 3, .int n]), .inl (0, 20, .inl (shI f p m)), .inl (0, 20, .inl (shI g p m)), .inl (0, 20, .inl (shI e p m))] rg = some (none, [.inr (7, [.ref 1, .ref 2, .ref 3, .int (n + 1)]), .inl (0, 20, .inl (isA f p m t)), .inl (0, 20, .inl (isA g p m a)), .inl (0, 20, .inl (isA e p m b))], rg) := by
  conv => lhs; whnf
  refine (pif_f (nI_in (c := p) (N := 20) (by omega) (by omega))).trans ?_
  rw [nI_clamp (by omega : p < 2 ^ 31)]
  conv => lhs; whnf
  refine (pif_f (nI_in (c := p) (N := 20) (by omega) (by omega))).trans ?_
  rw [nI_clamp (by omega : p < 2 ^ 31)]
  conv => lhs; whnf
  refine (pif_f (nI_in (c := p) (N := 20) (by omega) (by omega))).trans ?_
  rw [nI_clamp (by omega : p < 2 ^ 31)]
  rfl
set_option maxHeartbeats 1000000 in
theorem lp_is (rg : pRg) (n t a b : Int32) (f g e : Nat → Int32) (m : Nat) (hm : m < 20) : ∀ (q : Nat), q ≤ m → ∃ fu, ex k_X7_insert fu 11 [(4, .int (nI q)), (0, .ref 0), (1, .int t), (2, .int a), (3, .int b)] [] [.inr (7, [.ref 1, .ref 2, .ref 3, .int n]), .inl (0, 20, .inl (shI f q m)), .inl (0, 20, .inl (shI g q m)), .inl (0, 20, .inl (shI e q m))] rg = some (none, [.inr (7, [.ref 1, .ref 2, .ref 3, .int (n + 1)]), .inl (0, 20, .inl (isA f (isP f t q) m t)), .inl (0, 20, .inl (isA g (isP f t q) m a)), .inl (0, 20, .inl (isA e (isP f t q) m b))], rg) := by
  intro q
  induction q with
  | zero =>
    intro hq
    have hf := lp_ise rg n t a b f g e 0 m (by omega)
    refine ⟨2, ?_⟩
    conv => lhs; whnf
    refine (pif_t (by decide)).trans ?_
    exact hf
  | succ q ih =>
    intro hq
    by_cases h : f q ≤ t
    · have hf := lp_ise rg n t a b f g e (q + 1) m (by omega)
      rw [show isP f t (q + 1) = q + 1 from if_pos h]
      refine ⟨2, ?_⟩
      conv => lhs; whnf
      refine (pif_f (fun z => nI_le0 (q := q) (by omega) z)).trans ?_
      conv => lhs; whnf
      rw [nI_s1]
      refine (pif_f (nI_in (c := q) (N := 20) (by omega) (by omega))).trans ?_
      rw [nI_clamp (by omega : q < 2 ^ 31)]
      
      rw [shI_at]
      conv => lhs; whnf
      refine (pif_t h).trans ?_
      exact hf
    · obtain ⟨fu, hf⟩ := ih (by omega)
      rw [show isP f t (q + 1) = isP f t q from if_neg h]
      refine ⟨fu + 1, ?_⟩
      conv => lhs; whnf
      refine (pif_f (fun z => nI_le0 (q := q) (by omega) z)).trans ?_
      conv => lhs; whnf
      rw [nI_s1]
      refine (pif_f (nI_in (c := q) (N := 20) (by omega) (by omega))).trans ?_
      rw [nI_clamp (by omega : q < 2 ^ 31)]
      
      rw [shI_at]
      conv => lhs; whnf
      refine (pif_f h).trans ?_
      conv => lhs; whnf
      rw [nI_s1]
      refine (pif_f (nI_in (c := q) (N := 20) (by omega) (by omega))).trans ?_
      rw [nI_clamp (by omega : q < 2 ^ 31)]
      
      conv => lhs; whnf
      refine (pif_f (nI_in (c := (q + 1)) (N := 20) (by omega) (by omega))).trans ?_
      rw [nI_clamp (by omega : (q + 1) < 2 ^ 31)]
      
      rw [shI_s f hq]
      conv => lhs; whnf
      rw [nI_s1]
      refine (pif_f (nI_in (c := q) (N := 20) (by omega) (by omega))).trans ?_
      rw [nI_clamp (by omega : q < 2 ^ 31)]
      
      conv => lhs; whnf
      refine (pif_f (nI_in (c := (q + 1)) (N := 20) (by omega) (by omega))).trans ?_
      rw [nI_clamp (by omega : (q + 1) < 2 ^ 31)]
      
      rw [shI_s g hq]
      conv => lhs; whnf
      rw [nI_s1]
      refine (pif_f (nI_in (c := q) (N := 20) (by omega) (by omega))).trans ?_
      rw [nI_clamp (by omega : q < 2 ^ 31)]
      
      conv => lhs; whnf
      refine (pif_f (nI_in (c := (q + 1)) (N := 20) (by omega) (by omega))).trans ?_
      rw [nI_clamp (by omega : (q + 1) < 2 ^ 31)]
      
      rw [shI_s e hq]
      conv => lhs; whnf
      rw [nI_m1]
      exact hf
def G_X7_insert : pG := fun args w => match args, w with
  | [.ref 0, .int t, .int a, .int b], [.inr (7, [.ref 1, .ref 2, .ref 3, .int n]), .inl (0, 20, .inl f), .inl (0, 20, .inl g), .inl (0, 20, .inl e)] => some (none, [.inr (7, [.ref 1, .ref 2, .ref 3, .int (isN n)]), .inl (0, 20, .inl (isF n t f f t)), .inl (0, 20, .inl (isF n t f g a)), .inl (0, 20, .inl (isF n t f e b))])
  | _, _ => none
set_option maxHeartbeats 400000 in
set_option maxRecDepth 100000 in
theorem run_X7_insert (rg : pRg) (n : Int32) (f g e : Nat → Int32) (t a b : Int32) : ∃ fu, ex k_X7_insert fu 0 [(0, .ref 0), (1, .int t), (2, .int a), (3, .int b)] [] [.inr (7, [.ref 1, .ref 2, .ref 3, .int n]), .inl (0, 20, .inl f), .inl (0, 20, .inl g), .inl (0, 20, .inl e)] rg = some (none, [.inr (7, [.ref 1, .ref 2, .ref 3, .int (isN n)]), .inl (0, 20, .inl (isF n t f f t)), .inl (0, 20, .inl (isF n t f g a)), .inl (0, 20, .inl (isF n t f e b))], rg) := by
  by_cases h0 : n < 0
  · refine ⟨3, ?_⟩
    rw [show isN n = n from if_pos h0, show isF n t f f t = f from if_pos h0, show isF n t f g a = g from if_pos h0, show isF n t f e b = e from if_pos h0]
    conv => lhs; whnf
    refine (pif_t h0).trans ?_
    rfl
  · by_cases h20 : 20 ≤ n
    · refine ⟨3, ?_⟩
      rw [show isN n = n from (if_neg h0).trans (if_pos h20), show isF n t f f t = f from (if_neg h0).trans (if_pos h20), show isF n t f g a = g from (if_neg h0).trans (if_pos h20), show isF n t f e b = e from (if_neg h0).trans (if_pos h20)]
      conv => lhs; whnf
      refine (pif_f h0).trans ?_
      conv => lhs; whnf
      refine (pif_f (Int32.not_lt.mpr h20)).trans ?_
      rfl
    · have hn := nI_ofN (Int32.not_lt.mp h0)
      have hm : n.toNatClampNeg < 20 := Nat.lt_of_not_le fun z => in_of (y := 20) (n := 20) rfl h0 h20 (Or.inr z)
      obtain ⟨fu, hf⟩ := lp_is rg n t a b f g e n.toNatClampNeg hm n.toNatClampNeg (Nat.le_refl _)
      rw [shI_m, shI_m, shI_m, ← hn] at hf
      obtain ⟨f1, rfl⟩ := ex_pos hf
      refine ⟨f1 + 2, ?_⟩
      rw [show isN n = n + 1 from (if_neg h0).trans (if_neg h20), show isF n t f f t = _ from (if_neg h0).trans (if_neg h20), show isF n t f g a = _ from (if_neg h0).trans (if_neg h20), show isF n t f e b = _ from (if_neg h0).trans (if_neg h20)]
      conv => lhs; whnf
      refine (pif_f h0).trans ?_
      conv => lhs; whnf
      refine (pif_t (Int32.not_le.mp h20)).trans ?_
      conv at hf => lhs; whnf
      conv => lhs; whnf
      exact hf
theorem ct_X7_insert (l : Launch) : ∀ args0 w0 v0 w1 rg, G_X7_insert args0 w0 = some (v0, w1) → pCT l yX7_insert (pWs yX7_insert cX7_insert 5 (none)) rm_X7_insert args0 w0 rg (v0, w1, rg) := by
  intro args0 w0 v0 w1 rg h
  unfold G_X7_insert at h
  split at h
  next =>
    cases h
    exact met_of_ex (by decide) (ok_k_X7_insert l) rfl (run_X7_insert rg _ _ _ _ _ _ _) (Nat.le_of_ble_eq_true rfl) rfl (Nat.le_refl _) (Nat.le_of_ble_eq_true rfl) (Nat.zero_le _) rfl rfl
  next => cases h
def F_X7_insert : pF := frN G_X7_insert
theorem ok_F_X7_insert (l : Launch) : pFOK l yX7_insert (pWs yX7_insert cX7_insert 5 (none)) rm_X7_insert F_X7_insert := pFOK_fr (fun a b c d h => ct_X7_insert l a b c d rg00 h) (fun a b c d h => by
  unfold G_X7_insert at h
  split at h
  next => simp
  next => cases h)
theorem rc_F_X7_insert : pRcv 7 F_X7_insert := pRcv_fr (fun a b c d h => by
  unfold G_X7_insert at h
  split at h
  next => simp
  next => cases h) (fun a b c d h => by
  unfold G_X7_insert at h
  split at h
  next => exact ⟨_, _, _, rfl, rfl⟩
  next => cases h)
end
