noncomputable section
/-! THE REFERENCE, FURTHER -/
def shW (f : Nat → Int32) : Nat → Nat → Int32
  | 0 => f
  | k + 1 => upd (shW f k) (48 - k) (shW f k (47 - k))
def k3I (x : Int32) : Int32 := x + (if x < 9 then 1 else 0)
def k3W (f : Nat → Int32) (c : Int32) : Nat → Int32 := upd (upd (upd f 16 c) 40 c) 39 (k3I (f 39))
def clpI (v : Int32) : Int32 := if v < 0 then 0 else if 3000 < v then 3000 else v
def clV (f : Nat → Int32) : Nat → Int32 := if f 5 < f 39 then upd f 13 (clpI (f 13 + (f (40 + f 5).toNatClampNeg - f 4) * f 6)) else f
def ct1M (x : pLV) (c : Int32) : pLV := vA x 1 (clV (k3W (x 1) c))
def ctlM (m : pLV) : pLV := ct1M (NM (vA m 1 (shW (m 1) 8))) (csM 3 (NM (vA m 1 (shW (m 1) 8))))
theorem bnd_lit {x : Int32} {a b : Int} (N : Nat) (k : Int32) (hk : k.toInt = a) (h1 : 0 ≤ x) (h2 : x.toInt ≤ b) (ha : 0 ≤ a) (hN : a + b < N) (hM : N < 2147483648) : ¬ (k + x < 0 ∨ N ≤ (k + x).toNatClampNeg) := by
  have e1 := Int32.le_iff_toInt_le.mp h1
  rw [Int32.toInt_zero] at e1
  have e2 : (k + x).toInt = a + x.toInt := by
    rw [Int32.toInt_add, hk]
    exact Int.bmod_eq_of_le (by omega) (by omega)
  have e3 : (k + x).toNatClampNeg = (k + x).toInt.toNat := rfl
  rintro (q | q)
  · have := Int32.lt_iff_toInt_lt.mp q
    rw [Int32.toInt_zero] at this
    omega
  · omega
theorem le_toInt {x : Int32} (y : Int32) {b : Int} (hy : y.toInt = b) (h : x ≤ y) : x.toInt ≤ b := by
  rw [← hy]; exact Int32.le_iff_toInt_le.mp h
theorem ct1_a {x : pLV} {c d : Int32} (hk : k3I (x 1 39) = d) (h : ¬ x 1 5 < d) : ct1M x c = vA x 1 (upd (upd (upd (x 1) 16 c) 40 c) 39 d) := by
  subst hk
  exact congrArg (vA x 1) (if_neg h)
theorem ct1_b {x : pLV} {c d v : Int32} (hk : k3I (x 1 39) = d) (h : x 1 5 < d) (hv : clpI (x 1 13 + (upd (upd (upd (x 1) 16 c) 40 c) 39 d (40 + x 1 5).toNatClampNeg - x 1 4) * x 1 6) = v) : ct1M x c = vA x 1 (upd (upd (upd (upd (x 1) 16 c) 40 c) 39 d) 13 v) := by
  subst hk
  rw [← hv]
  exact congrArg (vA x 1) (if_pos h)
theorem dX9_control_0 : decode cX9_control 0 = .ok (.bipush 8, 2) := by decide +kernel
theorem dX9_control_2 : decode cX9_control 2 = .ok (.istore_n 1, 1) := by decide +kernel
theorem dX9_control_3 : decode cX9_control 3 = .ok (.iload_n 1, 1) := by decide +kernel
theorem dX9_control_4 : decode cX9_control 4 = .ok (.ifCond .le 29, 3) := by decide +kernel
theorem dX9_control_7 : decode cX9_control 7 = .ok (.aload_n 0, 1) := by decide +kernel
theorem dX9_control_8 : decode cX9_control 8 = .ok (.getfield 7, 3) := by decide +kernel
theorem dX9_control_11 : decode cX9_control 11 = .ok (.bipush 40, 2) := by decide +kernel
theorem dX9_control_13 : decode cX9_control 13 = .ok (.iload_n 1, 1) := by decide +kernel
theorem dX9_control_14 : decode cX9_control 14 = .ok (.iadd, 1) := by decide +kernel
theorem dX9_control_15 : decode cX9_control 15 = .ok (.aload_n 0, 1) := by decide +kernel
theorem dX9_control_16 : decode cX9_control 16 = .ok (.getfield 7, 3) := by decide +kernel
theorem dX9_control_19 : decode cX9_control 19 = .ok (.bipush 40, 2) := by decide +kernel
theorem dX9_control_21 : decode cX9_control 21 = .ok (.iload_n 1, 1) := by decide +kernel
theorem dX9_control_22 : decode cX9_control 22 = .ok (.iadd, 1) := by decide +kernel
theorem dX9_control_23 : decode cX9_control 23 = .ok (.iconst 1, 1) := by decide +kernel
theorem dX9_control_24 : decode cX9_control 24 = .ok (.isub, 1) := by decide +kernel
theorem dX9_control_25 : decode cX9_control 25 = .ok (.iaload, 1) := by decide +kernel
theorem dX9_control_26 : decode cX9_control 26 = .ok (.iastore, 1) := by decide +kernel
theorem dX9_control_27 : decode cX9_control 27 = .ok (.iinc 1 (-1), 3) := by decide +kernel
theorem dX9_control_30 : decode cX9_control 30 = .ok (.goto (-27), 3) := by decide +kernel
theorem dX9_control_33 : decode cX9_control 33 = .ok (.aload_n 0, 1) := by decide +kernel
theorem dX9_control_34 : decode cX9_control 34 = .ok (.getfield 7, 3) := by decide +kernel
theorem dX9_control_37 : decode cX9_control 37 = .ok (.bipush 16, 2) := by decide +kernel
theorem dX9_control_39 : decode cX9_control 39 = .ok (.aload_n 0, 1) := by decide +kernel
theorem dX9_control_40 : decode cX9_control 40 = .ok (.iconst 3, 1) := by decide +kernel
theorem dX9_control_41 : decode cX9_control 41 = .ok (.invokevirtual 77, 3) := by decide +kernel
theorem dX9_control_44 : decode cX9_control 44 = .ok (.iastore, 1) := by decide +kernel
theorem dX9_control_45 : decode cX9_control 45 = .ok (.aload_n 0, 1) := by decide +kernel
theorem dX9_control_46 : decode cX9_control 46 = .ok (.getfield 7, 3) := by decide +kernel
theorem dX9_control_49 : decode cX9_control 49 = .ok (.bipush 40, 2) := by decide +kernel
theorem dX9_control_51 : decode cX9_control 51 = .ok (.aload_n 0, 1) := by decide +kernel
theorem dX9_control_52 : decode cX9_control 52 = .ok (.getfield 7, 3) := by decide +kernel
theorem dX9_control_55 : decode cX9_control 55 = .ok (.bipush 16, 2) := by decide +kernel
theorem dX9_control_57 : decode cX9_control 57 = .ok (.iaload, 1) := by decide +kernel
theorem dX9_control_58 : decode cX9_control 58 = .ok (.iastore, 1) := by decide +kernel
theorem dX9_control_59 : decode cX9_control 59 = .ok (.aload_n 0, 1) := by decide +kernel
theorem dX9_control_60 : decode cX9_control 60 = .ok (.getfield 7, 3) := by decide +kernel
theorem dX9_control_63 : decode cX9_control 63 = .ok (.bipush 39, 2) := by decide +kernel
theorem dX9_control_65 : decode cX9_control 65 = .ok (.dup2, 1) := by decide +kernel
theorem dX9_control_66 : decode cX9_control 66 = .ok (.iaload, 1) := by decide +kernel
theorem dX9_control_67 : decode cX9_control 67 = .ok (.aload_n 0, 1) := by decide +kernel
theorem dX9_control_68 : decode cX9_control 68 = .ok (.getfield 7, 3) := by decide +kernel
theorem dX9_control_71 : decode cX9_control 71 = .ok (.bipush 39, 2) := by decide +kernel
theorem dX9_control_73 : decode cX9_control 73 = .ok (.iaload, 1) := by decide +kernel
theorem dX9_control_74 : decode cX9_control 74 = .ok (.bipush 9, 2) := by decide +kernel
theorem dX9_control_76 : decode cX9_control 76 = .ok (.if_icmp .ge 7, 3) := by decide +kernel
theorem dX9_control_79 : decode cX9_control 79 = .ok (.iconst 1, 1) := by decide +kernel
theorem dX9_control_80 : decode cX9_control 80 = .ok (.goto 4, 3) := by decide +kernel
theorem dX9_control_83 : decode cX9_control 83 = .ok (.iconst 0, 1) := by decide +kernel
theorem dX9_control_84 : decode cX9_control 84 = .ok (.iadd, 1) := by decide +kernel
theorem dX9_control_85 : decode cX9_control 85 = .ok (.iastore, 1) := by decide +kernel
theorem dX9_control_86 : decode cX9_control 86 = .ok (.aload_n 0, 1) := by decide +kernel
theorem dX9_control_87 : decode cX9_control 87 = .ok (.getfield 7, 3) := by decide +kernel
theorem dX9_control_90 : decode cX9_control 90 = .ok (.iconst 5, 1) := by decide +kernel
theorem dX9_control_91 : decode cX9_control 91 = .ok (.iaload, 1) := by decide +kernel
theorem dX9_control_92 : decode cX9_control 92 = .ok (.aload_n 0, 1) := by decide +kernel
theorem dX9_control_93 : decode cX9_control 93 = .ok (.getfield 7, 3) := by decide +kernel
theorem dX9_control_96 : decode cX9_control 96 = .ok (.bipush 39, 2) := by decide +kernel
theorem dX9_control_98 : decode cX9_control 98 = .ok (.iaload, 1) := by decide +kernel
theorem dX9_control_99 : decode cX9_control 99 = .ok (.if_icmp .ge 70, 3) := by decide +kernel
theorem dX9_control_102 : decode cX9_control 102 = .ok (.aload_n 0, 1) := by decide +kernel
theorem dX9_control_103 : decode cX9_control 103 = .ok (.getfield 7, 3) := by decide +kernel
theorem dX9_control_106 : decode cX9_control 106 = .ok (.bipush 13, 2) := by decide +kernel
theorem dX9_control_108 : decode cX9_control 108 = .ok (.iaload, 1) := by decide +kernel
theorem dX9_control_109 : decode cX9_control 109 = .ok (.aload_n 0, 1) := by decide +kernel
theorem dX9_control_110 : decode cX9_control 110 = .ok (.getfield 7, 3) := by decide +kernel
theorem dX9_control_113 : decode cX9_control 113 = .ok (.bipush 40, 2) := by decide +kernel
theorem dX9_control_115 : decode cX9_control 115 = .ok (.aload_n 0, 1) := by decide +kernel
theorem dX9_control_116 : decode cX9_control 116 = .ok (.getfield 7, 3) := by decide +kernel
theorem dX9_control_119 : decode cX9_control 119 = .ok (.iconst 5, 1) := by decide +kernel
theorem dX9_control_120 : decode cX9_control 120 = .ok (.iaload, 1) := by decide +kernel
theorem dX9_control_121 : decode cX9_control 121 = .ok (.iadd, 1) := by decide +kernel
theorem dX9_control_122 : decode cX9_control 122 = .ok (.iaload, 1) := by decide +kernel
theorem dX9_control_123 : decode cX9_control 123 = .ok (.aload_n 0, 1) := by decide +kernel
theorem dX9_control_124 : decode cX9_control 124 = .ok (.getfield 7, 3) := by decide +kernel
theorem dX9_control_127 : decode cX9_control 127 = .ok (.iconst 4, 1) := by decide +kernel
theorem dX9_control_128 : decode cX9_control 128 = .ok (.iaload, 1) := by decide +kernel
theorem dX9_control_129 : decode cX9_control 129 = .ok (.isub, 1) := by decide +kernel
theorem dX9_control_130 : decode cX9_control 130 = .ok (.aload_n 0, 1) := by decide +kernel
theorem dX9_control_131 : decode cX9_control 131 = .ok (.getfield 7, 3) := by decide +kernel
theorem dX9_control_134 : decode cX9_control 134 = .ok (.bipush 6, 2) := by decide +kernel
theorem dX9_control_136 : decode cX9_control 136 = .ok (.iaload, 1) := by decide +kernel
theorem dX9_control_137 : decode cX9_control 137 = .ok (.imul, 1) := by decide +kernel
theorem dX9_control_138 : decode cX9_control 138 = .ok (.iadd, 1) := by decide +kernel
theorem dX9_control_139 : decode cX9_control 139 = .ok (.istore_n 1, 1) := by decide +kernel
theorem dX9_control_140 : decode cX9_control 140 = .ok (.aload_n 0, 1) := by decide +kernel
theorem dX9_control_141 : decode cX9_control 141 = .ok (.getfield 7, 3) := by decide +kernel
theorem dX9_control_144 : decode cX9_control 144 = .ok (.bipush 13, 2) := by decide +kernel
theorem dX9_control_146 : decode cX9_control 146 = .ok (.iload_n 1, 1) := by decide +kernel
theorem dX9_control_147 : decode cX9_control 147 = .ok (.ifCond .ge 7, 3) := by decide +kernel
theorem dX9_control_150 : decode cX9_control 150 = .ok (.iconst 0, 1) := by decide +kernel
theorem dX9_control_151 : decode cX9_control 151 = .ok (.goto 17, 3) := by decide +kernel
theorem dX9_control_154 : decode cX9_control 154 = .ok (.iload_n 1, 1) := by decide +kernel
theorem dX9_control_155 : decode cX9_control 155 = .ok (.sipush 3000, 3) := by decide +kernel
theorem dX9_control_158 : decode cX9_control 158 = .ok (.if_icmp .le 9, 3) := by decide +kernel
theorem dX9_control_161 : decode cX9_control 161 = .ok (.sipush 3000, 3) := by decide +kernel
theorem dX9_control_164 : decode cX9_control 164 = .ok (.goto 4, 3) := by decide +kernel
theorem dX9_control_167 : decode cX9_control 167 = .ok (.iload_n 1, 1) := by decide +kernel
theorem dX9_control_168 : decode cX9_control 168 = .ok (.iastore, 1) := by decide +kernel
theorem dX9_control_169 : decode cX9_control 169 = .ok (.return_, 1) := by decide +kernel
def k_X9_control : List pEn := [oConst (8), oIstore 1, oIload 1, oIfle 20, oAload 0, oGet 9 0, oConst (40), oIload 1, oAdd, oAload 0, oGet 9 0, oConst (40), oIload 1, oAdd, oConst (1), oSub, oIald, oIast, oIinc 1 (-1), oGoto 2, oAload 0, oGet 9 0, oConst (16), oAload 0, oConst (3), oCallZ 2 F_X9_consistency, oIastN 16, oAload 0, oGet 9 0, oConst (40), oAload 0, oGet 9 0, oConst (16), oIaldN 16, oIastN 40, oAload 0, oGet 9 0, oConst (39), oDup2, oIaldN 39, oAload 0, oGet 9 0, oConst (39), oIaldN 39, oConst (9), oCge 48, oConst (1), oGoto 49, oConst (0), oAdd, oIastN 39, oAload 0, oGet 9 0, oConst (5), oIaldN 5, oAload 0, oGet 9 0, oConst (39), oIaldN 39, oCge 99, oAload 0, oGet 9 0, oConst (13), oIaldN 13, oAload 0, oGet 9 0, oConst (40), oAload 0, oGet 9 0, oConst (5), oIaldN 5, oAdd, oIald, oAload 0, oGet 9 0, oConst (4), oIaldN 4, oSub, oAload 0, oGet 9 0, oConst (6), oIaldN 6, oMul, oAdd, oIstore 1, oAload 0, oGet 9 0, oConst (13), oIload 1, oIfge 92, oConst (0), oGoto 98, oIload 1, oConst (3000), oCle 97, oConst (3000), oGoto 98, oIload 1, oIastN 13, oVret]
def pc_X9_control (i : Nat) : Nat := ([0, 2, 3, 4, 7, 8, 11, 13, 14, 15, 16, 19, 21, 22, 23, 24, 25, 26, 27, 30, 33, 34, 37, 39, 40, 41, 44, 45, 46, 49, 51, 52, 55, 57, 58, 59, 60, 63, 65, 66, 67, 68, 71, 73, 74, 76, 79, 80, 83, 84, 85, 86, 87, 90, 91, 92, 93, 96, 98, 99, 102, 103, 106, 108, 109, 110, 113, 115, 116, 119, 120, 121, 122, 123, 124, 127, 128, 129, 130, 131, 134, 136, 137, 138, 139, 140, 141, 144, 146, 147, 150, 151, 154, 155, 158, 161, 164, 167, 168, 169] : List Nat).getD i 0
abbrev rm_X9_control : Room := { frames := 2, cells := 0, slots := 0, locals := 42 }
theorem pl_X9_control : pPlain yX9_control 0 := by decide +kernel
set_option maxRecDepth 100000 in
set_option maxHeartbeats 4000000 in
theorem ok_k_X9_control (l : Launch) : ∀ (i : Nat) (en : pEn), k_X9_control[i]? = some en → EOK l cX9_control yX9_control.cls 2 (none) rm_X9_control 0 pc_X9_control i en := by
  refine allOK_at ?_
  refine And.intro (okBipush dX9_control_0 rfl (by first | rfl | decide)) ?_
  refine And.intro (okIstore_n dX9_control_2 rfl rfl (by decide)) ?_
  refine And.intro (okIload_n dX9_control_3 rfl rfl) ?_
  refine And.intro (okIfle dX9_control_4 rfl (by rfl)) ?_
  refine And.intro (okAload_n dX9_control_7 rfl rfl) ?_
  refine And.intro (okGet (C := RX9) (T := TX9) (N := 22) dX9_control_8 rfl rfl (by decide) inX9 wm_3_141) ?_
  refine And.intro (okBipush dX9_control_11 rfl (by first | rfl | decide)) ?_
  refine And.intro (okIload_n dX9_control_13 rfl rfl) ?_
  refine And.intro (okAdd dX9_control_14 rfl) ?_
  refine And.intro (okAload_n dX9_control_15 rfl rfl) ?_
  refine And.intro (okGet (C := RX9) (T := TX9) (N := 22) dX9_control_16 rfl rfl (by decide) inX9 wm_3_141) ?_
  refine And.intro (okBipush dX9_control_19 rfl (by first | rfl | decide)) ?_
  refine And.intro (okIload_n dX9_control_21 rfl rfl) ?_
  refine And.intro (okAdd dX9_control_22 rfl) ?_
  refine And.intro (okIconst dX9_control_23 rfl (by first | rfl | decide)) ?_
  refine And.intro (okSub dX9_control_24 rfl) ?_
  refine And.intro (okIald dX9_control_25 rfl) ?_
  refine And.intro (okIast dX9_control_26 rfl) ?_
  refine And.intro (okIinc dX9_control_27 rfl (by first | rfl | decide) (by decide)) ?_
  refine And.intro (okGoto dX9_control_30 (by rfl)) ?_
  refine And.intro (okAload_n dX9_control_33 rfl rfl) ?_
  refine And.intro (okGet (C := RX9) (T := TX9) (N := 22) dX9_control_34 rfl rfl (by decide) inX9 wm_3_141) ?_
  refine And.intro (okBipush dX9_control_37 rfl (by first | rfl | decide)) ?_
  refine And.intro (okAload_n dX9_control_39 rfl rfl) ?_
  refine And.intro (okIconst dX9_control_40 rfl (by first | rfl | decide)) ?_
  refine And.intro (okCallV (y := yX9_consistency) (T := TX9) (oCallZ_is _ _ _) dX9_control_41 rfl (ok_F_X9_consistency l) rc_F_X9_consistency rfl wm_4_88 wm_4_90 wp_34 wm_1_10 wm_4_91 pl_X9_consistency (by decide)) ?_
  refine And.intro (okIastN dX9_control_44 rfl) ?_
  refine And.intro (okAload_n dX9_control_45 rfl rfl) ?_
  refine And.intro (okGet (C := RX9) (T := TX9) (N := 22) dX9_control_46 rfl rfl (by decide) inX9 wm_3_141) ?_
  refine And.intro (okBipush dX9_control_49 rfl (by first | rfl | decide)) ?_
  refine And.intro (okAload_n dX9_control_51 rfl rfl) ?_
  refine And.intro (okGet (C := RX9) (T := TX9) (N := 22) dX9_control_52 rfl rfl (by decide) inX9 wm_3_141) ?_
  refine And.intro (okBipush dX9_control_55 rfl (by first | rfl | decide)) ?_
  refine And.intro (okIaldN dX9_control_57 rfl) ?_
  refine And.intro (okIastN dX9_control_58 rfl) ?_
  refine And.intro (okAload_n dX9_control_59 rfl rfl) ?_
  refine And.intro (okGet (C := RX9) (T := TX9) (N := 22) dX9_control_60 rfl rfl (by decide) inX9 wm_3_141) ?_
  refine And.intro (okBipush dX9_control_63 rfl (by first | rfl | decide)) ?_
  refine And.intro (okDup2 dX9_control_65 rfl) ?_
  refine And.intro (okIaldN dX9_control_66 rfl) ?_
  refine And.intro (okAload_n dX9_control_67 rfl rfl) ?_
  refine And.intro (okGet (C := RX9) (T := TX9) (N := 22) dX9_control_68 rfl rfl (by decide) inX9 wm_3_141) ?_
  refine And.intro (okBipush dX9_control_71 rfl (by first | rfl | decide)) ?_
  refine And.intro (okIaldN dX9_control_73 rfl) ?_
  refine And.intro (okBipush dX9_control_74 rfl (by first | rfl | decide)) ?_
  refine And.intro (okCge dX9_control_76 rfl (by rfl)) ?_
  refine And.intro (okIconst dX9_control_79 rfl (by first | rfl | decide)) ?_
  refine And.intro (okGoto dX9_control_80 (by rfl)) ?_
  refine And.intro (okIconst dX9_control_83 rfl (by first | rfl | decide)) ?_
  refine And.intro (okAdd dX9_control_84 rfl) ?_
  refine And.intro (okIastN dX9_control_85 rfl) ?_
  refine And.intro (okAload_n dX9_control_86 rfl rfl) ?_
  refine And.intro (okGet (C := RX9) (T := TX9) (N := 22) dX9_control_87 rfl rfl (by decide) inX9 wm_3_141) ?_
  refine And.intro (okIconst dX9_control_90 rfl (by first | rfl | decide)) ?_
  refine And.intro (okIaldN dX9_control_91 rfl) ?_
  refine And.intro (okAload_n dX9_control_92 rfl rfl) ?_
  refine And.intro (okGet (C := RX9) (T := TX9) (N := 22) dX9_control_93 rfl rfl (by decide) inX9 wm_3_141) ?_
  refine And.intro (okBipush dX9_control_96 rfl (by first | rfl | decide)) ?_
  refine And.intro (okIaldN dX9_control_98 rfl) ?_
  refine And.intro (okCge dX9_control_99 rfl (by rfl)) ?_
  refine And.intro (okAload_n dX9_control_102 rfl rfl) ?_
  refine And.intro (okGet (C := RX9) (T := TX9) (N := 22) dX9_control_103 rfl rfl (by decide) inX9 wm_3_141) ?_
  refine And.intro (okBipush dX9_control_106 rfl (by first | rfl | decide)) ?_
  refine And.intro (okIaldN dX9_control_108 rfl) ?_
  refine And.intro (okAload_n dX9_control_109 rfl rfl) ?_
  refine And.intro (okGet (C := RX9) (T := TX9) (N := 22) dX9_control_110 rfl rfl (by decide) inX9 wm_3_141) ?_
  refine And.intro (okBipush dX9_control_113 rfl (by first | rfl | decide)) ?_
  refine And.intro (okAload_n dX9_control_115 rfl rfl) ?_
  refine And.intro (okGet (C := RX9) (T := TX9) (N := 22) dX9_control_116 rfl rfl (by decide) inX9 wm_3_141) ?_
  refine And.intro (okIconst dX9_control_119 rfl (by first | rfl | decide)) ?_
  refine And.intro (okIaldN dX9_control_120 rfl) ?_
  refine And.intro (okAdd dX9_control_121 rfl) ?_
  refine And.intro (okIald dX9_control_122 rfl) ?_
  refine And.intro (okAload_n dX9_control_123 rfl rfl) ?_
  refine And.intro (okGet (C := RX9) (T := TX9) (N := 22) dX9_control_124 rfl rfl (by decide) inX9 wm_3_141) ?_
  refine And.intro (okIconst dX9_control_127 rfl (by first | rfl | decide)) ?_
  refine And.intro (okIaldN dX9_control_128 rfl) ?_
  refine And.intro (okSub dX9_control_129 rfl) ?_
  refine And.intro (okAload_n dX9_control_130 rfl rfl) ?_
  refine And.intro (okGet (C := RX9) (T := TX9) (N := 22) dX9_control_131 rfl rfl (by decide) inX9 wm_3_141) ?_
  refine And.intro (okBipush dX9_control_134 rfl (by first | rfl | decide)) ?_
  refine And.intro (okIaldN dX9_control_136 rfl) ?_
  refine And.intro (okMul dX9_control_137 rfl) ?_
  refine And.intro (okAdd dX9_control_138 rfl) ?_
  refine And.intro (okIstore_n dX9_control_139 rfl rfl (by decide)) ?_
  refine And.intro (okAload_n dX9_control_140 rfl rfl) ?_
  refine And.intro (okGet (C := RX9) (T := TX9) (N := 22) dX9_control_141 rfl rfl (by decide) inX9 wm_3_141) ?_
  refine And.intro (okBipush dX9_control_144 rfl (by first | rfl | decide)) ?_
  refine And.intro (okIload_n dX9_control_146 rfl rfl) ?_
  refine And.intro (okIfge dX9_control_147 rfl (by rfl)) ?_
  refine And.intro (okIconst dX9_control_150 rfl (by first | rfl | decide)) ?_
  refine And.intro (okGoto dX9_control_151 (by rfl)) ?_
  refine And.intro (okIload_n dX9_control_154 rfl rfl) ?_
  refine And.intro (okSipush dX9_control_155 rfl (by first | rfl | decide)) ?_
  refine And.intro (okCle dX9_control_158 rfl (by rfl)) ?_
  refine And.intro (okSipush dX9_control_161 rfl (by first | rfl | decide)) ?_
  refine And.intro (okGoto dX9_control_164 (by rfl)) ?_
  refine And.intro (okIload_n dX9_control_167 rfl rfl) ?_
  refine And.intro (okIastN dX9_control_168 rfl) ?_
  refine And.intro (okVret dX9_control_169 rfl) ?_
  exact trivial
def G_X9_control : pG := fun args w => match args with
  | [.ref 0] => unM w (fun m => pif (0 ≤ m 1 5 ∧ m 1 5 ≤ 8) (some (none, mdl (ctlM m))) none)
  | _ => none
set_option maxHeartbeats 400000 in
set_option maxRecDepth 100000 in
theorem run_X9_control (rg : pRg) (m : pLV)  (hc : 0 ≤ m 1 5 ∧ m 1 5 ≤ 8) : ∃ fu, ex k_X9_control fu 0 [(0, .ref 0)] [] (mdl m) rg = some (none, mdl (ctlM m), rg) := by
  refine ⟨60, ?_⟩
  conv => lhs; whnf
  repeat (first | (refine (pif_f (by decide)).trans ?_; conv => lhs; whnf) | (refine (pif_t (by decide)).trans ?_; conv => lhs; whnf))
  refine (callK_r (cl_X9_consistency3 (vA m 1 (shW (m 1) 8)) rg) rfl).trans ?_
  unfold ctlM
  have hx : 0 ≤ (NM (vA m 1 (shW (m 1) 8))) 1 5 ∧ (NM (vA m 1 (shW (m 1) 8))) 1 5 ≤ 8 := hc
  revert hx
  generalize csM 3 (NM (vA m 1 (shW (m 1) 8))) = c
  generalize NM (vA m 1 (shW (m 1) 8)) = x
  revert c x; refine id ?_; intro c x hx
  conv => lhs; whnf
  refine pif_c (fun h1 => ?_) (fun h1 => ?_)
  · conv => lhs; whnf
    refine pif_c (fun h2 => ?_) (fun h2 => ?_)
    · rw [ct1_a (x := x) (c := c) (d := x 1 39 + 0) (congrArg (x 1 39 + ·) (if_neg (Int32.not_lt.mpr h1))) (Int32.not_lt.mpr h2)]
      rfl
    · conv => lhs; whnf
      refine (pif_f (bnd_lit 110 40 rfl hx.1 (le_toInt 8 rfl hx.2) (by decide) (by decide) (by decide))).trans ?_
      conv => lhs; whnf
      refine pif_c (fun h3 => ?_) (fun h3 => ?_)
      · conv => lhs; whnf
        refine pif_c (fun h4 => ?_) (fun h4 => ?_)
        · rw [ct1_b (x := x) (c := c) (d := x 1 39 + 0) (v := x 1 13 + (upd (upd (upd (x 1) 16 c) 40 c) 39 (x 1 39 + 0) (40 + x 1 5).toNatClampNeg - x 1 4) * x 1 6) (congrArg (x 1 39 + ·) (if_neg (Int32.not_lt.mpr h1))) (Int32.not_le.mp h2) ((if_neg (Int32.not_lt.mpr h3)).trans (if_neg (Int32.not_lt.mpr h4)))]
          rfl
        · rw [ct1_b (x := x) (c := c) (d := x 1 39 + 0) (v := 3000) (congrArg (x 1 39 + ·) (if_neg (Int32.not_lt.mpr h1))) (Int32.not_le.mp h2) ((if_neg (Int32.not_lt.mpr h3)).trans (if_pos (Int32.not_le.mp h4)))]
          rfl
      · rw [ct1_b (x := x) (c := c) (d := x 1 39 + 0) (v := 0) (congrArg (x 1 39 + ·) (if_neg (Int32.not_lt.mpr h1))) (Int32.not_le.mp h2) (if_pos (Int32.not_le.mp h3))]
        rfl
  · conv => lhs; whnf
    refine pif_c (fun h2 => ?_) (fun h2 => ?_)
    · rw [ct1_a (x := x) (c := c) (d := x 1 39 + 1) (congrArg (x 1 39 + ·) (if_pos (Int32.not_le.mp h1))) (Int32.not_lt.mpr h2)]
      rfl
    · conv => lhs; whnf
      refine (pif_f (bnd_lit 110 40 rfl hx.1 (le_toInt 8 rfl hx.2) (by decide) (by decide) (by decide))).trans ?_
      conv => lhs; whnf
      refine pif_c (fun h3 => ?_) (fun h3 => ?_)
      · conv => lhs; whnf
        refine pif_c (fun h4 => ?_) (fun h4 => ?_)
        · rw [ct1_b (x := x) (c := c) (d := x 1 39 + 1) (v := x 1 13 + (upd (upd (upd (x 1) 16 c) 40 c) 39 (x 1 39 + 1) (40 + x 1 5).toNatClampNeg - x 1 4) * x 1 6) (congrArg (x 1 39 + ·) (if_pos (Int32.not_le.mp h1))) (Int32.not_le.mp h2) ((if_neg (Int32.not_lt.mpr h3)).trans (if_neg (Int32.not_lt.mpr h4)))]
          rfl
        · rw [ct1_b (x := x) (c := c) (d := x 1 39 + 1) (v := 3000) (congrArg (x 1 39 + ·) (if_pos (Int32.not_le.mp h1))) (Int32.not_le.mp h2) ((if_neg (Int32.not_lt.mpr h3)).trans (if_pos (Int32.not_le.mp h4)))]
          rfl
      · rw [ct1_b (x := x) (c := c) (d := x 1 39 + 1) (v := 0) (congrArg (x 1 39 + ·) (if_pos (Int32.not_le.mp h1))) (Int32.not_le.mp h2) (if_pos (Int32.not_le.mp h3))]
        rfl
theorem ct_X9_control (l : Launch) : ∀ args0 w0 v0 w1 rg, G_X9_control args0 w0 = some (v0, w1) → pCT l yX9_control (pWs yX9_control cX9_control 2 (none)) rm_X9_control args0 w0 rg (v0, w1, rg) := by
  intro args0 w0 v0 w1 rg h
  unfold G_X9_control at h
  split at h
  next  =>
    obtain ⟨m, hw, h2⟩ := unM_some h
    clear h
    subst hw
    by_cases hc : 0 ≤ m 1 5 ∧ m 1 5 ≤ 8
    · have h2 := (pif_t hc).symm.trans h2
      cases h2
      exact met_of_exM (by decide) (ok_k_X9_control l) rfl (run_X9_control rg m  hc) (Nat.le_of_ble_eq_true rfl) rfl rfl
    · have h2 := (pif_f hc).symm.trans h2
      cases h2
  next => cases h
def F_X9_control : pF := faN G_X9_control
theorem ok_F_X9_control (l : Launch) : pFOK l yX9_control (pWs yX9_control cX9_control 2 (none)) rm_X9_control F_X9_control := pFOK_fa (fun a b c d rg h => ct_X9_control l a b c d rg h)
theorem rc_F_X9_control : pRcv 9 F_X9_control := pRcv_fa (fun a b c d h => by
  unfold G_X9_control at h
  split at h
  next =>
    obtain ⟨m, rfl, h⟩ := unM_some h
    exact ⟨_, _, _, rfl, rfl⟩
  next => cases h)
theorem cl_X9_control (m : pLV)  (rg : pRg) (hc : 0 ≤ (NM m) 1 5 ∧ (NM m) 1 5 ≤ 8) : F_X9_control [.ref 0] (mdl m) rg = some (none, mdl (ctlM (NM m)), rg) := by
  have h : G_X9_control [.ref 0] (mdl m) = some (none, mdl (ctlM (NM m))) := pif_t hc
  unfold F_X9_control faN
  rw [h]
end
