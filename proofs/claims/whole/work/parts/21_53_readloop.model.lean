noncomputable section
theorem rt_15 (m : pLV) : True := trivial
def rtS (m : pLV) (k : Nat) : pLV := if inI (m 4 k) 48 57 = 0 then roM (NM m) (nI k) else rdgM (NM m) (nI k)
def rtI : Nat → Nat → pLV → pLV
  | 0, _, m => m
  | d + 1, k, m => if m 0 15 = -9 then rtI d (k + 1) (rtS m k) else m
def rtE (m : pLV) : pLV := if m 0 15 = -9 then (if m 0 17 = 0 then m else if m 0 17 = 1 then faM (NM m) 3 (m 0 6) else if m 0 17 = 3 then faM (NM m) 3 (m 0 6) else if iwR m = 0 then faM (NM m) 2 (m 0 19) else if m 0 17 = 4 then eeM (NM m) else faM (NM m) 3 (m 0 6)) else m
def rt0 (m : pLV) : pLV := vS (vS (faM (NM m) (-9) (-9)) 13 0) 17 0
def rtM (m : pLV) : pLV := rtE (rtI (m 0 6).toNatClampNeg 0 (rt0 m))
theorem rdS_1 (x : pLV) (k : Int32) : rdS x k 0 13 = x 0 13 ∧ rdS x k 0 17 = x 0 17 ∧ rdS x k 0 6 = x 0 6 := ⟨rfl, rfl, rfl⟩
/-- what a digit leaves -/
theorem rdg_k (m : pLV) (k : Int32) : (rdgM m k 0 13 = m 0 13 ∧ rdgM m k 0 6 = m 0 6) ∧ (m 0 17 = 0 → rdgM m k 0 17 = 0) := by
  unfold rdgM rdN
  split
  · rename_i h
    exact ⟨⟨rfl, rfl⟩, fun _ => h⟩
  · rename_i h
    repeat' split
    all_goals exact ⟨⟨rfl, rfl⟩, fun q => absurd q h⟩
theorem r_succ {r : Int32} (h0 : 0 ≤ r) (h : r ≤ 19) : 0 ≤ r + 1 ∧ r + 1 ≤ 20 := by
  have e := nI_ofN h0
  have h2 := clamp_b 19 (n := 19) rfl h
  rw [e, nI_1]
  exact ⟨nI_pos' (by omega), nI_le (a := r.toNatClampNeg + 1) (b := 20) (by omega) (by omega)⟩
theorem roT_ok (m : pLV) (k t : Int32) (h : rdOK m) : rdOK (roT m k t) ∧ roT m k t 0 6 = m 0 6 := by
  obtain ⟨⟨a, b⟩, c⟩ := h
  unfold roT
  split
  · rename_i p0
    split
    · split
      · exact ⟨⟨⟨a, b⟩, c⟩, rfl⟩
      · exact ⟨⟨⟨a, b⟩, c⟩, rfl⟩
    · split
      · exact ⟨⟨⟨a, b⟩, c⟩, rfl⟩
      · rename_i h20
        exact ⟨⟨⟨a, b⟩, fun _ => r20_19 b a h20⟩, rfl⟩
  · rename_i p0
    split
    · split
      · exact ⟨⟨⟨a, b⟩, fun _ => c p0⟩, rfl⟩
      · exact ⟨⟨⟨a, b⟩, c⟩, rfl⟩
    · split
      · split
        · exact ⟨⟨r_succ a (c p0), fun q => absurd rfl q⟩, rfl⟩
        · exact ⟨⟨⟨a, b⟩, c⟩, rfl⟩
      · exact ⟨⟨⟨a, b⟩, c⟩, rfl⟩
theorem roM_ok (m : pLV) (k : Int32) (h : rdOK m) : rdOK (roM m k) ∧ roM m k 0 6 = m 0 6 := by
  have hw : rdOK (roW m k) ∧ roW m k 0 6 = m 0 6 := by
    by_cases w : iwR m = 0
    · rw [show roW m k = _ from if_pos w]; exact ⟨h, rfl⟩
    · rw [show roW m k = _ from if_neg w]; exact roT_ok m k _ h
  by_cases h2 : m 0 17 = 2
  · rw [show roM m k = _ from if_pos h2]; exact hw
  · by_cases h4 : m 0 17 = 4
    · rw [show roM m k = _ from (if_neg h2).trans (if_pos h4)]; exact hw
    · rw [show roM m k = _ from (if_neg h2).trans (if_neg h4)]; exact roT_ok m k _ h
theorem rtS_ok (m : pLV) (k : Nat) (h : rdOK m) : rdOK (rtS m k) ∧ rtS m k 0 6 = m 0 6 := by
  unfold rtS
  split
  · exact roM_ok (NM m) (nI k) h
  · obtain ⟨⟨q1, q3⟩, q2⟩ := rdg_k (NM m) (nI k)
    refine ⟨⟨?_, fun hn => ?_⟩, q3⟩
    · rw [q1]; exact h.1
    · rw [q1]
      exact h.2 (fun z => hn (q2 z))
theorem dX9_readText_0 : decode cX9_readText 0 = .ok (.aload_n 0, 1) := by decide +kernel
theorem dX9_readText_1 : decode cX9_readText 1 = .ok (.bipush (-9), 2) := by decide +kernel
theorem dX9_readText_3 : decode cX9_readText 3 = .ok (.bipush (-9), 2) := by decide +kernel
theorem dX9_readText_5 : decode cX9_readText 5 = .ok (.invokevirtual 116, 3) := by decide +kernel
theorem dX9_readText_8 : decode cX9_readText 8 = .ok (.aload_n 0, 1) := by decide +kernel
theorem dX9_readText_9 : decode cX9_readText 9 = .ok (.iconst 0, 1) := by decide +kernel
theorem dX9_readText_10 : decode cX9_readText 10 = .ok (.putfield 104, 3) := by decide +kernel
theorem dX9_readText_13 : decode cX9_readText 13 = .ok (.aload_n 0, 1) := by decide +kernel
theorem dX9_readText_14 : decode cX9_readText 14 = .ok (.iconst 0, 1) := by decide +kernel
theorem dX9_readText_15 : decode cX9_readText 15 = .ok (.putfield 107, 3) := by decide +kernel
theorem dX9_readText_18 : decode cX9_readText 18 = .ok (.iconst 0, 1) := by decide +kernel
theorem dX9_readText_19 : decode cX9_readText 19 = .ok (.istore_n 1, 1) := by decide +kernel
theorem dX9_readText_20 : decode cX9_readText 20 = .ok (.iload_n 1, 1) := by decide +kernel
theorem dX9_readText_21 : decode cX9_readText 21 = .ok (.aload_n 0, 1) := by decide +kernel
theorem dX9_readText_22 : decode cX9_readText 22 = .ok (.getfield 132, 3) := by decide +kernel
theorem dX9_readText_25 : decode cX9_readText 25 = .ok (.if_icmp .ge 47, 3) := by decide +kernel
theorem dX9_readText_28 : decode cX9_readText 28 = .ok (.aload_n 0, 1) := by decide +kernel
theorem dX9_readText_29 : decode cX9_readText 29 = .ok (.getfield 98, 3) := by decide +kernel
theorem dX9_readText_32 : decode cX9_readText 32 = .ok (.bipush (-9), 2) := by decide +kernel
theorem dX9_readText_34 : decode cX9_readText 34 = .ok (.if_icmp .ne 38, 3) := by decide +kernel
theorem dX9_readText_37 : decode cX9_readText 37 = .ok (.aload_n 0, 1) := by decide +kernel
theorem dX9_readText_38 : decode cX9_readText 38 = .ok (.getfield 19, 3) := by decide +kernel
theorem dX9_readText_41 : decode cX9_readText 41 = .ok (.iload_n 1, 1) := by decide +kernel
theorem dX9_readText_42 : decode cX9_readText 42 = .ok (.iaload, 1) := by decide +kernel
theorem dX9_readText_43 : decode cX9_readText 43 = .ok (.bipush 48, 2) := by decide +kernel
theorem dX9_readText_45 : decode cX9_readText 45 = .ok (.bipush 57, 2) := by decide +kernel
theorem dX9_readText_47 : decode cX9_readText 47 = .ok (.invokestatic 41, 3) := by decide +kernel
theorem dX9_readText_50 : decode cX9_readText 50 = .ok (.ifCond .eq 11, 3) := by decide +kernel
theorem dX9_readText_53 : decode cX9_readText 53 = .ok (.aload_n 0, 1) := by decide +kernel
theorem dX9_readText_54 : decode cX9_readText 54 = .ok (.iload_n 1, 1) := by decide +kernel
theorem dX9_readText_55 : decode cX9_readText 55 = .ok (.invokevirtual 135, 3) := by decide +kernel
theorem dX9_readText_58 : decode cX9_readText 58 = .ok (.goto 8, 3) := by decide +kernel
theorem dX9_readText_61 : decode cX9_readText 61 = .ok (.aload_n 0, 1) := by decide +kernel
theorem dX9_readText_62 : decode cX9_readText 62 = .ok (.iload_n 1, 1) := by decide +kernel
theorem dX9_readText_63 : decode cX9_readText 63 = .ok (.invokevirtual 138, 3) := by decide +kernel
theorem dX9_readText_66 : decode cX9_readText 66 = .ok (.iinc 1 1, 3) := by decide +kernel
theorem dX9_readText_69 : decode cX9_readText 69 = .ok (.goto (-49), 3) := by decide +kernel
theorem dX9_readText_72 : decode cX9_readText 72 = .ok (.aload_n 0, 1) := by decide +kernel
theorem dX9_readText_73 : decode cX9_readText 73 = .ok (.getfield 98, 3) := by decide +kernel
theorem dX9_readText_76 : decode cX9_readText 76 = .ok (.bipush (-9), 2) := by decide +kernel
theorem dX9_readText_78 : decode cX9_readText 78 = .ok (.if_icmp .ne 71, 3) := by decide +kernel
theorem dX9_readText_81 : decode cX9_readText 81 = .ok (.aload_n 0, 1) := by decide +kernel
theorem dX9_readText_82 : decode cX9_readText 82 = .ok (.getfield 107, 3) := by decide +kernel
theorem dX9_readText_85 : decode cX9_readText 85 = .ok (.ifCond .eq 64, 3) := by decide +kernel
theorem dX9_readText_88 : decode cX9_readText 88 = .ok (.aload_n 0, 1) := by decide +kernel
theorem dX9_readText_89 : decode cX9_readText 89 = .ok (.getfield 107, 3) := by decide +kernel
theorem dX9_readText_92 : decode cX9_readText 92 = .ok (.iconst 1, 1) := by decide +kernel
theorem dX9_readText_93 : decode cX9_readText 93 = .ok (.if_icmp .eq 18, 3) := by decide +kernel
theorem dX9_readText_96 : decode cX9_readText 96 = .ok (.aload_n 0, 1) := by decide +kernel
theorem dX9_readText_97 : decode cX9_readText 97 = .ok (.getfield 107, 3) := by decide +kernel
theorem dX9_readText_100 : decode cX9_readText 100 = .ok (.iconst 3, 1) := by decide +kernel
theorem dX9_readText_101 : decode cX9_readText 101 = .ok (.if_icmp .eq 10, 3) := by decide +kernel
theorem dX9_readText_104 : decode cX9_readText 104 = .ok (.aload_n 0, 1) := by decide +kernel
theorem dX9_readText_105 : decode cX9_readText 105 = .ok (.invokevirtual 122, 3) := by decide +kernel
theorem dX9_readText_108 : decode cX9_readText 108 = .ok (.ifCond .eq 7, 3) := by decide +kernel
theorem dX9_readText_111 : decode cX9_readText 111 = .ok (.iconst 1, 1) := by decide +kernel
theorem dX9_readText_112 : decode cX9_readText 112 = .ok (.goto 4, 3) := by decide +kernel
theorem dX9_readText_115 : decode cX9_readText 115 = .ok (.iconst 0, 1) := by decide +kernel
theorem dX9_readText_116 : decode cX9_readText 116 = .ok (.istore_n 1, 1) := by decide +kernel
theorem dX9_readText_117 : decode cX9_readText 117 = .ok (.iload_n 1, 1) := by decide +kernel
theorem dX9_readText_118 : decode cX9_readText 118 = .ok (.ifCond .eq 18, 3) := by decide +kernel
theorem dX9_readText_121 : decode cX9_readText 121 = .ok (.aload_n 0, 1) := by decide +kernel
theorem dX9_readText_122 : decode cX9_readText 122 = .ok (.getfield 107, 3) := by decide +kernel
theorem dX9_readText_125 : decode cX9_readText 125 = .ok (.iconst 4, 1) := by decide +kernel
theorem dX9_readText_126 : decode cX9_readText 126 = .ok (.if_icmp .ne 10, 3) := by decide +kernel
theorem dX9_readText_129 : decode cX9_readText 129 = .ok (.aload_n 0, 1) := by decide +kernel
theorem dX9_readText_130 : decode cX9_readText 130 = .ok (.invokevirtual 129, 3) := by decide +kernel
theorem dX9_readText_133 : decode cX9_readText 133 = .ok (.goto 16, 3) := by decide +kernel
theorem dX9_readText_136 : decode cX9_readText 136 = .ok (.iload_n 1, 1) := by decide +kernel
theorem dX9_readText_137 : decode cX9_readText 137 = .ok (.ifCond .eq 12, 3) := by decide +kernel
theorem dX9_readText_140 : decode cX9_readText 140 = .ok (.aload_n 0, 1) := by decide +kernel
theorem dX9_readText_141 : decode cX9_readText 141 = .ok (.iconst 3, 1) := by decide +kernel
theorem dX9_readText_142 : decode cX9_readText 142 = .ok (.aload_n 0, 1) := by decide +kernel
theorem dX9_readText_143 : decode cX9_readText 143 = .ok (.getfield 132, 3) := by decide +kernel
theorem dX9_readText_146 : decode cX9_readText 146 = .ok (.invokevirtual 116, 3) := by decide +kernel
theorem dX9_readText_149 : decode cX9_readText 149 = .ok (.return_, 1) := by decide +kernel
def k_X9_readText : List pEn := [oAload 0, oConst (-9), oConst (-9), oCallZ 3 F_X9_fails, oAload 0, oConst (0), oPut 9 13, oAload 0, oConst (0), oPut 9 17, oConst (0), oIstore 1, oIload 1, oAload 0, oGet 9 6, oCge 37, oAload 0, oGet 9 15, oConst (-9), oCne 37, oAload 0, oGet 9 5, oIload 1, oIald, oConst (48), oConst (57), oCall 3 F_X9_isIn, oIfeq 32, oAload 0, oIload 1, oCallZ 2 F_X9_readDigit, oGoto 35, oAload 0, oIload 1, oCallZ 2 F_X9_readOther, oIinc 1 (1), oGoto 12, oAload 0, oGet 9 15, oConst (-9), oCne 75, oAload 0, oGet 9 17, oIfeq 75, oAload 0, oGet 9 17, oConst (1), oCeq 55, oAload 0, oGet 9 17, oConst (3), oCeq 55, oAload 0, oCallZ 1 F_X9_isWell, oIfeq 57, oConst (1), oGoto 58, oConst (0), oIstore 1, oIload 1, oIfeq 68, oAload 0, oGet 9 17, oConst (4), oCne 68, oAload 0, oCallZ 1 F_X9_endEntry, oGoto 75, oIload 1, oIfeq 75, oAload 0, oConst (3), oAload 0, oGet 9 6, oCallZ 3 F_X9_fails, oVret]
def pc_X9_readText (i : Nat) : Nat := ([0, 1, 3, 5, 8, 9, 10, 13, 14, 15, 18, 19, 20, 21, 22, 25, 28, 29, 32, 34, 37, 38, 41, 42, 43, 45, 47, 50, 53, 54, 55, 58, 61, 62, 63, 66, 69, 72, 73, 76, 78, 81, 82, 85, 88, 89, 92, 93, 96, 97, 100, 101, 104, 105, 108, 111, 112, 115, 116, 117, 118, 121, 122, 125, 126, 129, 130, 133, 136, 137, 140, 141, 142, 143, 146, 149] : List Nat).getD i 0
abbrev rm_X9_readText : Room := { frames := 3, cells := 0, slots := 0, locals := 66 }
theorem pl_X9_readText : pPlain yX9_readText 0 := by decide +kernel
set_option maxRecDepth 100000 in
set_option maxHeartbeats 4000000 in
theorem ok_k_X9_readText (l : Launch) : ∀ (i : Nat) (en : pEn), k_X9_readText[i]? = some en → EOK l cX9_readText yX9_readText.cls 2 (none) rm_X9_readText 0 pc_X9_readText i en := by
  refine allOK_at ?_
  refine And.intro (okAload_n dX9_readText_0 rfl rfl) ?_
  refine And.intro (okBipush dX9_readText_1 rfl (by first | rfl | decide)) ?_
  refine And.intro (okBipush dX9_readText_3 rfl (by first | rfl | decide)) ?_
  refine And.intro (okCallV (y := yX9_fails) (T := TX9) (oCallZ_is _ _ _) dX9_readText_5 rfl (ok_F_X9_fails l) rc_F_X9_fails rfl wm_4_37 wm_4_39 wp_23 wm_1_10 wm_4_40 pl_X9_fails (by decide)) ?_
  refine And.intro (okAload_n dX9_readText_8 rfl rfl) ?_
  refine And.intro (okIconst dX9_readText_9 rfl (by first | rfl | decide)) ?_
  refine And.intro (okPut (C := RX9) (T := TX9) (N := 22) dX9_readText_10 rfl rfl (by decide) inX9 tyX9_ok nmX9 rfl rfl wm_3_154) ?_
  refine And.intro (okAload_n dX9_readText_13 rfl rfl) ?_
  refine And.intro (okIconst dX9_readText_14 rfl (by first | rfl | decide)) ?_
  refine And.intro (okPut (C := RX9) (T := TX9) (N := 22) dX9_readText_15 rfl rfl (by decide) inX9 tyX9_ok nmX9 rfl rfl wm_3_158) ?_
  refine And.intro (okIconst dX9_readText_18 rfl (by first | rfl | decide)) ?_
  refine And.intro (okIstore_n dX9_readText_19 rfl rfl (by decide)) ?_
  refine And.intro (okIload_n dX9_readText_20 rfl rfl) ?_
  refine And.intro (okAload_n dX9_readText_21 rfl rfl) ?_
  refine And.intro (okGet (C := RX9) (T := TX9) (N := 22) dX9_readText_22 rfl rfl (by decide) inX9 wm_3_147) ?_
  refine And.intro (okCge dX9_readText_25 rfl (by rfl)) ?_
  refine And.intro (okAload_n dX9_readText_28 rfl rfl) ?_
  refine And.intro (okGet (C := RX9) (T := TX9) (N := 22) dX9_readText_29 rfl rfl (by decide) inX9 wm_3_156) ?_
  refine And.intro (okBipush dX9_readText_32 rfl (by first | rfl | decide)) ?_
  refine And.intro (okCne dX9_readText_34 rfl (by rfl)) ?_
  refine And.intro (okAload_n dX9_readText_37 rfl rfl) ?_
  refine And.intro (okGet (C := RX9) (T := TX9) (N := 22) dX9_readText_38 rfl rfl (by decide) inX9 wm_3_146) ?_
  refine And.intro (okIload_n dX9_readText_41 rfl rfl) ?_
  refine And.intro (okIald dX9_readText_42 rfl) ?_
  refine And.intro (okBipush dX9_readText_43 rfl (by first | rfl | decide)) ?_
  refine And.intro (okBipush dX9_readText_45 rfl (by first | rfl | decide)) ?_
  refine And.intro (okCallS (y := yX9_isIn) (oCall_is _ _ _) dX9_readText_47 rfl (ok_F_X9_isIn l) wm_3_223 wm_3_224 wm_1_10 wm_3_225 pl_X9_isIn (by decide)) ?_
  refine And.intro (okIfeq dX9_readText_50 rfl (by rfl)) ?_
  refine And.intro (okAload_n dX9_readText_53 rfl rfl) ?_
  refine And.intro (okIload_n dX9_readText_54 rfl rfl) ?_
  refine And.intro (okCallV (y := yX9_readDigit) (T := TX9) (oCallZ_is _ _ _) dX9_readText_55 rfl (ok_F_X9_readDigit l) rc_F_X9_readDigit rfl wm_4_41 wm_4_43 wp_24 wm_1_10 wm_4_44 pl_X9_readDigit (by decide)) ?_
  refine And.intro (okGoto dX9_readText_58 (by rfl)) ?_
  refine And.intro (okAload_n dX9_readText_61 rfl rfl) ?_
  refine And.intro (okIload_n dX9_readText_62 rfl rfl) ?_
  refine And.intro (okCallV (y := yX9_readOther) (T := TX9) (oCallZ_is _ _ _) dX9_readText_63 rfl (ok_F_X9_readOther l) rc_F_X9_readOther rfl wm_4_45 wm_4_47 wp_25 wm_1_10 wm_4_48 pl_X9_readOther (by decide)) ?_
  refine And.intro (okIinc dX9_readText_66 rfl (by first | rfl | decide) (by decide)) ?_
  refine And.intro (okGoto dX9_readText_69 (by rfl)) ?_
  refine And.intro (okAload_n dX9_readText_72 rfl rfl) ?_
  refine And.intro (okGet (C := RX9) (T := TX9) (N := 22) dX9_readText_73 rfl rfl (by decide) inX9 wm_3_156) ?_
  refine And.intro (okBipush dX9_readText_76 rfl (by first | rfl | decide)) ?_
  refine And.intro (okCne dX9_readText_78 rfl (by rfl)) ?_
  refine And.intro (okAload_n dX9_readText_81 rfl rfl) ?_
  refine And.intro (okGet (C := RX9) (T := TX9) (N := 22) dX9_readText_82 rfl rfl (by decide) inX9 wm_3_158) ?_
  refine And.intro (okIfeq dX9_readText_85 rfl (by rfl)) ?_
  refine And.intro (okAload_n dX9_readText_88 rfl rfl) ?_
  refine And.intro (okGet (C := RX9) (T := TX9) (N := 22) dX9_readText_89 rfl rfl (by decide) inX9 wm_3_158) ?_
  refine And.intro (okIconst dX9_readText_92 rfl (by first | rfl | decide)) ?_
  refine And.intro (okCeq dX9_readText_93 rfl (by rfl)) ?_
  refine And.intro (okAload_n dX9_readText_96 rfl rfl) ?_
  refine And.intro (okGet (C := RX9) (T := TX9) (N := 22) dX9_readText_97 rfl rfl (by decide) inX9 wm_3_158) ?_
  refine And.intro (okIconst dX9_readText_100 rfl (by first | rfl | decide)) ?_
  refine And.intro (okCeq dX9_readText_101 rfl (by rfl)) ?_
  refine And.intro (okAload_n dX9_readText_104 rfl rfl) ?_
  refine And.intro (okCallV (y := yX9_isWell) (T := TX9) (oCallZ_is _ _ _) dX9_readText_105 rfl (ok_F_X9_isWell l) rc_F_X9_isWell rfl wm_4_49 wm_4_51 wp_26 wm_1_10 wm_4_52 pl_X9_isWell (by decide)) ?_
  refine And.intro (okIfeq dX9_readText_108 rfl (by rfl)) ?_
  refine And.intro (okIconst dX9_readText_111 rfl (by first | rfl | decide)) ?_
  refine And.intro (okGoto dX9_readText_112 (by rfl)) ?_
  refine And.intro (okIconst dX9_readText_115 rfl (by first | rfl | decide)) ?_
  refine And.intro (okIstore_n dX9_readText_116 rfl rfl (by decide)) ?_
  refine And.intro (okIload_n dX9_readText_117 rfl rfl) ?_
  refine And.intro (okIfeq dX9_readText_118 rfl (by rfl)) ?_
  refine And.intro (okAload_n dX9_readText_121 rfl rfl) ?_
  refine And.intro (okGet (C := RX9) (T := TX9) (N := 22) dX9_readText_122 rfl rfl (by decide) inX9 wm_3_158) ?_
  refine And.intro (okIconst dX9_readText_125 rfl (by first | rfl | decide)) ?_
  refine And.intro (okCne dX9_readText_126 rfl (by rfl)) ?_
  refine And.intro (okAload_n dX9_readText_129 rfl rfl) ?_
  refine And.intro (okCallV (y := yX9_endEntry) (T := TX9) (oCallZ_is _ _ _) dX9_readText_130 rfl (ok_F_X9_endEntry l) rc_F_X9_endEntry rfl wm_4_56 wm_4_58 wp_27 wm_1_10 wm_4_59 pl_X9_endEntry (by decide)) ?_
  refine And.intro (okGoto dX9_readText_133 (by rfl)) ?_
  refine And.intro (okIload_n dX9_readText_136 rfl rfl) ?_
  refine And.intro (okIfeq dX9_readText_137 rfl (by rfl)) ?_
  refine And.intro (okAload_n dX9_readText_140 rfl rfl) ?_
  refine And.intro (okIconst dX9_readText_141 rfl (by first | rfl | decide)) ?_
  refine And.intro (okAload_n dX9_readText_142 rfl rfl) ?_
  refine And.intro (okGet (C := RX9) (T := TX9) (N := 22) dX9_readText_143 rfl rfl (by decide) inX9 wm_3_147) ?_
  refine And.intro (okCallV (y := yX9_fails) (T := TX9) (oCallZ_is _ _ _) dX9_readText_146 rfl (ok_F_X9_fails l) rc_F_X9_fails rfl wm_4_37 wm_4_39 wp_23 wm_1_10 wm_4_40 pl_X9_fails (by decide)) ?_
  refine And.intro (okVret dX9_readText_149 rfl) ?_
  exact trivial
set_option maxHeartbeats 400000 in
theorem lp_rtE (rg : pRg) (m : pLV) (k : Nat) (hr : rdOK m) : ex k_X9_readText 15 37 [(1, .int (nI k)), (0, .ref 0)] [] (mdl m) rg = some (none, mdl (rtE m), rg) := by
  conv => lhs; whnf
  refine pif_c (fun h0 => ?_) (fun h0 => ?_)
  · conv => lhs; whnf
    refine pif_c (fun h1 => ?_) (fun h1 => ?_)
    · rw [show rtE m = _ from (if_pos h0).trans (if_pos h1)] <;> rfl
    · conv => lhs; whnf
      refine pif_c (fun h2 => ?_) (fun h2 => ?_)
      · rw [show rtE m = _ from (if_pos h0).trans ((if_neg h1).trans (if_pos h2))]
        conv => lhs; whnf
        refine (pif_f (by decide)).trans ?_
        conv => lhs; whnf
        refine (pif_f ((fun q => absurd (h2.symm.trans q) (by decide)))).trans ?_
        conv => lhs; whnf
        refine (pif_f (by decide)).trans ?_
        conv => lhs; whnf
        refine (callK_v (cl_X9_fails m 3 (m 0 6) rg) (by rfl)).trans ?_
        rfl
      · conv => lhs; whnf
        refine pif_c (fun h3 => ?_) (fun h3 => ?_)
        · rw [show rtE m = _ from (if_pos h0).trans ((if_neg h1).trans ((if_neg h2).trans (if_pos h3)))]
          conv => lhs; whnf
          refine (pif_f (by decide)).trans ?_
          conv => lhs; whnf
          refine (pif_f ((fun q => absurd (h3.symm.trans q) (by decide)))).trans ?_
          conv => lhs; whnf
          refine (pif_f (by decide)).trans ?_
          conv => lhs; whnf
          refine (callK_v (cl_X9_fails m 3 (m 0 6) rg) (by rfl)).trans ?_
          rfl
        · conv => lhs; whnf
          refine (callK_r (cl_X9_isWell m rg ⟨hr.1.1, hr.2 h1⟩) (by rfl)).trans ?_
          rw [show iwR (NM m) = iwR m from rfl]
          conv => lhs; whnf
          refine pif_c (fun w1 => ?_) (fun w1 => ?_)
          · rw [show rtE m = _ from (if_pos h0).trans ((if_neg h1).trans ((if_neg h2).trans ((if_neg h3).trans (if_pos w1)))), show iwM (NM m) (iwR m) = _ from if_pos w1]
            conv => lhs; whnf
            refine (pif_t (by decide)).trans ?_
            conv => lhs; whnf
            refine (pif_t (by decide)).trans ?_
            rfl
          · rw [show iwM (NM m) (iwR m) = _ from if_neg w1]
            conv => lhs; whnf
            refine (pif_f (by decide)).trans ?_
            conv => lhs; whnf
            refine pif_c (fun h4 => ?_) (fun h4 => ?_)
            · rw [show rtE m = _ from (if_pos h0).trans ((if_neg h1).trans ((if_neg h2).trans ((if_neg h3).trans ((if_neg w1).trans (if_pos h4)))))]
              conv => lhs; whnf
              refine (callK_v (cl_X9_endEntry m rg ⟨hr.1.1, hr.2 h1⟩) (by rfl)).trans ?_
              rfl
            · rw [show rtE m = _ from (if_pos h0).trans ((if_neg h1).trans ((if_neg h2).trans ((if_neg h3).trans ((if_neg w1).trans (if_neg h4)))))]
              conv => lhs; whnf
              refine (pif_f (by decide)).trans ?_
              conv => lhs; whnf
              refine (callK_v (cl_X9_fails m 3 (m 0 6) rg) (by rfl)).trans ?_
              rfl
  · rw [show rtE m = _ from if_neg h0] <;> rfl
set_option maxHeartbeats 800000 in
theorem lp_rt (rg : pRg) (L : Int32) (hL : L.toNatClampNeg ≤ 120) : ∀ (d k : Nat) (m : pLV), m 0 6 = L → rdOK m → k + d = L.toNatClampNeg → ∃ fu, ex k_X9_readText fu 12 [(1, .int (nI k)), (0, .ref 0)] [] (mdl m) rg = some (none, mdl (rtE (rtI d k m)), rg) := by
  intro d
  induction d with
  | zero =>
    intro k m hm hr hk
    obtain rfl : k = L.toNatClampNeg := by omega
    refine ⟨16, ?_⟩
    have ht := lp_rtE rg m L.toNatClampNeg hr
    conv => lhs; whnf
    refine (pif_t (by rw [hm]; exact clamp_ge (Nat.le_refl _) (clamp_lt L))).trans ?_
    exact ht
  | succ d ih =>
    intro k m hm hr hk
    by_cases h : m 0 15 = -9
    · rw [show rtI (d + 1) k m = _ from if_pos h]
      obtain ⟨hr2, hm2⟩ := rtS_ok m k hr
      obtain ⟨fu, hf⟩ := ih (k + 1) (rtS m k) (hm2.trans hm) hr2 (by omega)
      refine ⟨fu + 2, ?_⟩
      conv => lhs; whnf
      refine (pif_f (by rw [hm]; exact clamp_le (by omega))).trans ?_
      conv => lhs; whnf
      refine (pif_t h).trans ?_
      conv => lhs; whnf
      refine (pif_f (nI_in (c := k) (N := 120) (by omega) (by omega))).trans ?_
      rw [nI_clamp (by omega : k < 2 ^ 31)]
      have hk1 : kOK (nI k) := ⟨nI_pos' (by omega), nI_le (a := k) (b := 119) (by omega) (by omega)⟩
      by_cases h2 : inI (m 4 k) 48 57 = 0
      · rw [show rtS m k = _ from if_pos h2] at hf ⊢
        conv => lhs; whnf
        refine (pif_t h2).trans ?_
        conv => lhs; whnf
        refine (callK_v (cl_X9_readOther m (nI k) rg ⟨hk1, hr⟩) (by rfl)).trans ?_
        conv => lhs; whnf
        rw [nI_1]
        exact hf
      · rw [show rtS m k = _ from if_neg h2] at hf ⊢
        conv => lhs; whnf
        refine (pif_f h2).trans ?_
        conv => lhs; whnf
        refine (callK_v (cl_X9_readDigit m (nI k) rg hk1) (by rfl)).trans ?_
        conv => lhs; whnf
        rw [nI_1]
        exact hf
    · rw [show rtI (d + 1) k m = _ from if_neg h]
      refine ⟨16, ?_⟩
      have ht := lp_rtE rg m k hr
      conv => lhs; whnf
      refine (pif_f (by rw [hm]; exact clamp_le (by omega))).trans ?_
      conv => lhs; whnf
      refine (pif_f h).trans ?_
      exact ht
theorem rt0_ok (m : pLV) : rdOK (rt0 m) := ⟨⟨(by decide : (0 : Int32) ≤ 0), (by decide : (0 : Int32) ≤ 20)⟩, fun h => absurd rfl h⟩
def G_X9_readText : pG := fun args w => match args with
  | [.ref 0] => unM w (fun m => pif (lOK m) (some (none, mdl (rtM m))) none)
  | _ => none
set_option maxHeartbeats 400000 in
set_option maxRecDepth 100000 in
theorem run_X9_readText (rg : pRg) (m : pLV)  (hc : lOK m) : ∃ fu, ex k_X9_readText fu 0 [(0, .ref 0)] [] (mdl m) rg = some (none, mdl (rtM m), rg) := by
  have hL : (m 0 6).toNatClampNeg ≤ 120 := clamp_b 120 (n := 120) rfl hc.2
  obtain ⟨fu, hf⟩ := lp_rt rg (m 0 6) hL (m 0 6).toNatClampNeg 0 (rt0 m) rfl (rt0_ok m) (by omega)
  obtain ⟨f1, rfl⟩ := ex_pos hf
  refine ⟨f1 + 1, ?_⟩
  unfold rtM
  conv => lhs; whnf
  refine (callK_v (cl_X9_fails m (-9) (-9) rg) (by rfl)).trans ?_
  conv at hf => lhs; whnf
  conv => lhs; whnf
  exact hf
theorem ct_X9_readText (l : Launch) : ∀ args0 w0 v0 w1 rg, G_X9_readText args0 w0 = some (v0, w1) → pCT l yX9_readText (pWs yX9_readText cX9_readText 2 (none)) rm_X9_readText args0 w0 rg (v0, w1, rg) := by
  intro args0 w0 v0 w1 rg h
  unfold G_X9_readText at h
  split at h
  next  =>
    obtain ⟨m, hw, h2⟩ := unM_some h
    clear h
    subst hw
    by_cases hc : lOK m
    · have h2 := (pif_t hc).symm.trans h2
      cases h2
      exact met_of_exM (by decide) (ok_k_X9_readText l) rfl (run_X9_readText rg m  hc) (Nat.le_of_ble_eq_true rfl) rfl rfl
    · have h2 := (pif_f hc).symm.trans h2
      cases h2
  next => cases h
def F_X9_readText : pF := faN G_X9_readText
theorem ok_F_X9_readText (l : Launch) : pFOK l yX9_readText (pWs yX9_readText cX9_readText 2 (none)) rm_X9_readText F_X9_readText := pFOK_fa (fun a b c d rg h => ct_X9_readText l a b c d rg h)
theorem rc_F_X9_readText : pRcv 9 F_X9_readText := pRcv_fa (fun a b c d h => by
  unfold G_X9_readText at h
  split at h
  next =>
    obtain ⟨m, rfl, h⟩ := unM_some h
    exact ⟨_, _, _, rfl, rfl⟩
  next => cases h)
theorem cl_X9_readText (m : pLV)  (rg : pRg) (hc : lOK (NM m)) : F_X9_readText [.ref 0] (mdl m) rg = some (none, mdl (rtM (NM m)), rg) := by
  have h : G_X9_readText [.ref 0] (mdl m) = some (none, mdl (rtM (NM m))) := pif_t hc
  unfold F_X9_readText faN
  rw [h]
end
