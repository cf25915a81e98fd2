noncomputable section
theorem dX8_told_0 : decode cX8_told 0 = .ok (.iload_n 1, 1) := by decide +kernel
theorem dX8_told_1 : decode cX8_told 1 = .ok (.tableswitch 187 0 12 #[67, 75, 83, 91, 99, 110, 118, 126, 137, 148, 166, 174, 179], 67) := by decide +kernel
theorem dX8_told_68 : decode cX8_told 68 = .ok (.aload_n 0, 1) := by decide +kernel
theorem dX8_told_69 : decode cX8_told 69 = .ok (.getfield 10, 3) := by decide +kernel
theorem dX8_told_72 : decode cX8_told 72 = .ok (.getfield 61, 3) := by decide +kernel
theorem dX8_told_75 : decode cX8_told 75 = .ok (.ireturn, 1) := by decide +kernel
theorem dX8_told_76 : decode cX8_told 76 = .ok (.aload_n 0, 1) := by decide +kernel
theorem dX8_told_77 : decode cX8_told 77 = .ok (.getfield 10, 3) := by decide +kernel
theorem dX8_told_80 : decode cX8_told 80 = .ok (.getfield 83, 3) := by decide +kernel
theorem dX8_told_83 : decode cX8_told 83 = .ok (.ireturn, 1) := by decide +kernel
theorem dX8_told_84 : decode cX8_told 84 = .ok (.aload_n 0, 1) := by decide +kernel
theorem dX8_told_85 : decode cX8_told 85 = .ok (.getfield 10, 3) := by decide +kernel
theorem dX8_told_88 : decode cX8_told 88 = .ok (.getfield 80, 3) := by decide +kernel
theorem dX8_told_91 : decode cX8_told 91 = .ok (.ireturn, 1) := by decide +kernel
theorem dX8_told_92 : decode cX8_told 92 = .ok (.aload_n 0, 1) := by decide +kernel
theorem dX8_told_93 : decode cX8_told 93 = .ok (.getfield 10, 3) := by decide +kernel
theorem dX8_told_96 : decode cX8_told 96 = .ok (.getfield 152, 3) := by decide +kernel
theorem dX8_told_99 : decode cX8_told 99 = .ok (.ireturn, 1) := by decide +kernel
theorem dX8_told_100 : decode cX8_told 100 = .ok (.aload_n 0, 1) := by decide +kernel
theorem dX8_told_101 : decode cX8_told 101 = .ok (.getfield 10, 3) := by decide +kernel
theorem dX8_told_104 : decode cX8_told 104 = .ok (.getfield 155, 3) := by decide +kernel
theorem dX8_told_107 : decode cX8_told 107 = .ok (.getfield 159, 3) := by decide +kernel
theorem dX8_told_110 : decode cX8_told 110 = .ok (.ireturn, 1) := by decide +kernel
theorem dX8_told_111 : decode cX8_told 111 = .ok (.aload_n 0, 1) := by decide +kernel
theorem dX8_told_112 : decode cX8_told 112 = .ok (.getfield 10, 3) := by decide +kernel
theorem dX8_told_115 : decode cX8_told 115 = .ok (.getfield 164, 3) := by decide +kernel
theorem dX8_told_118 : decode cX8_told 118 = .ok (.ireturn, 1) := by decide +kernel
theorem dX8_told_119 : decode cX8_told 119 = .ok (.aload_n 0, 1) := by decide +kernel
theorem dX8_told_120 : decode cX8_told 120 = .ok (.getfield 10, 3) := by decide +kernel
theorem dX8_told_123 : decode cX8_told 123 = .ok (.getfield 167, 3) := by decide +kernel
theorem dX8_told_126 : decode cX8_told 126 = .ok (.ireturn, 1) := by decide +kernel
theorem dX8_told_127 : decode cX8_told 127 = .ok (.aload_n 0, 1) := by decide +kernel
theorem dX8_told_128 : decode cX8_told 128 = .ok (.getfield 10, 3) := by decide +kernel
theorem dX8_told_131 : decode cX8_told 131 = .ok (.getfield 155, 3) := by decide +kernel
theorem dX8_told_134 : decode cX8_told 134 = .ok (.invokevirtual 170, 3) := by decide +kernel
theorem dX8_told_137 : decode cX8_told 137 = .ok (.ireturn, 1) := by decide +kernel
theorem dX8_told_138 : decode cX8_told 138 = .ok (.aload_n 0, 1) := by decide +kernel
theorem dX8_told_139 : decode cX8_told 139 = .ok (.getfield 10, 3) := by decide +kernel
theorem dX8_told_142 : decode cX8_told 142 = .ok (.getfield 129, 3) := by decide +kernel
theorem dX8_told_145 : decode cX8_told 145 = .ok (.getfield 142, 3) := by decide +kernel
theorem dX8_told_148 : decode cX8_told 148 = .ok (.ireturn, 1) := by decide +kernel
theorem dX8_told_149 : decode cX8_told 149 = .ok (.aload_n 0, 1) := by decide +kernel
theorem dX8_told_150 : decode cX8_told 150 = .ok (.getfield 10, 3) := by decide +kernel
theorem dX8_told_153 : decode cX8_told 153 = .ok (.getfield 129, 3) := by decide +kernel
theorem dX8_told_156 : decode cX8_told 156 = .ok (.aload_n 0, 1) := by decide +kernel
theorem dX8_told_157 : decode cX8_told 157 = .ok (.getfield 10, 3) := by decide +kernel
theorem dX8_told_160 : decode cX8_told 160 = .ok (.getfield 61, 3) := by decide +kernel
theorem dX8_told_163 : decode cX8_told 163 = .ok (.invokevirtual 174, 3) := by decide +kernel
theorem dX8_told_166 : decode cX8_told 166 = .ok (.ireturn, 1) := by decide +kernel
theorem dX8_told_167 : decode cX8_told 167 = .ok (.aload_n 0, 1) := by decide +kernel
theorem dX8_told_168 : decode cX8_told 168 = .ok (.getfield 10, 3) := by decide +kernel
theorem dX8_told_171 : decode cX8_told 171 = .ok (.getfield 177, 3) := by decide +kernel
theorem dX8_told_174 : decode cX8_told 174 = .ok (.ireturn, 1) := by decide +kernel
theorem dX8_told_175 : decode cX8_told 175 = .ok (.aload_n 0, 1) := by decide +kernel
theorem dX8_told_176 : decode cX8_told 176 = .ok (.getfield 40, 3) := by decide +kernel
theorem dX8_told_179 : decode cX8_told 179 = .ok (.ireturn, 1) := by decide +kernel
theorem dX8_told_180 : decode cX8_told 180 = .ok (.aload_n 0, 1) := by decide +kernel
theorem dX8_told_181 : decode cX8_told 181 = .ok (.getfield 22, 3) := by decide +kernel
theorem dX8_told_184 : decode cX8_told 184 = .ok (.getfield 148, 3) := by decide +kernel
theorem dX8_told_187 : decode cX8_told 187 = .ok (.ireturn, 1) := by decide +kernel
theorem dX8_told_188 : decode cX8_told 188 = .ok (.iconst (-1), 1) := by decide +kernel
theorem dX8_told_189 : decode cX8_told 189 = .ok (.ireturn, 1) := by decide +kernel
def k_X8_told : List pEn := [oIload 1, oSw [(0, 2), (1, 6), (2, 10), (3, 14), (4, 18), (5, 23), (6, 27), (7, 31), (8, 36), (9, 41), (10, 49), (11, 53), (12, 56)] 60, oAload 0, oGet 8 0, oGet 5 0, oIret, oAload 0, oGet 8 0, oGet 5 1, oIret, oAload 0, oGet 8 0, oGet 5 2, oIret, oAload 0, oGet 8 0, oGet 5 3, oIret, oAload 0, oGet 8 0, oGet 5 12, oGet 2 0, oIret, oAload 0, oGet 8 0, oGet 5 4, oIret, oAload 0, oGet 8 0, oGet 5 5, oIret, oAload 0, oGet 8 0, oGet 5 12, oCall 1 F_X2_latest, oIret, oAload 0, oGet 8 0, oGet 5 13, oGet 7 3, oIret, oAload 0, oGet 8 0, oGet 5 13, oAload 0, oGet 8 0, oGet 5 0, oCallZ 2 F_X7_countAfter, oIret, oAload 0, oGet 8 0, oGet 5 6, oIret, oAload 0, oGet 8 6, oIret, oAload 0, oGet 8 2, oGet 3 2, oIret, oConst (-1), oIret]
def pc_X8_told (i : Nat) : Nat := ([0, 1, 68, 69, 72, 75, 76, 77, 80, 83, 84, 85, 88, 91, 92, 93, 96, 99, 100, 101, 104, 107, 110, 111, 112, 115, 118, 119, 120, 123, 126, 127, 128, 131, 134, 137, 138, 139, 142, 145, 148, 149, 150, 153, 156, 157, 160, 163, 166, 167, 168, 171, 174, 175, 176, 179, 180, 181, 184, 187, 188, 189] : List Nat).getD i 0
abbrev rm_X8_told : Room := { frames := 1, cells := 0, slots := 0, locals := 23 }
theorem pl_X8_told : pPlain yX8_told 1 := by decide +kernel
set_option maxRecDepth 100000 in
set_option maxHeartbeats 4000000 in
theorem ok_k_X8_told (l : Launch) : ∀ (i : Nat) (en : pEn), k_X8_told[i]? = some en → EOK l cX8_told yX8_told.cls 2 ((some FieldType.int)) rm_X8_told 0 pc_X8_told i en := by
  refine allOK_at ?_
  refine And.intro (okIload_n dX8_told_0 rfl rfl) ?_
  refine And.intro (okTsw dX8_told_1 (by decide) (by rfl) (by intro z h1 h2; have : z = 0 ∨ z = 1 ∨ z = 2 ∨ z = 3 ∨ z = 4 ∨ z = 5 ∨ z = 6 ∨ z = 7 ∨ z = 8 ∨ z = 9 ∨ z = 10 ∨ z = 11 ∨ z = 12 := (by omega); rcases this with rfl | rfl | rfl | rfl | rfl | rfl | rfl | rfl | rfl | rfl | rfl | rfl | rfl <;> decide)) ?_
  refine And.intro (okAload_n dX8_told_68 rfl rfl) ?_
  refine And.intro (okGet (C := RX8) (T := TX8) (N := 10) dX8_told_69 rfl rfl (by decide) inX8 wm_2_32) ?_
  refine And.intro (okGet (C := RX5) (T := TX5) (N := 15) dX8_told_72 rfl rfl (by decide) inX5 wm_1_153) ?_
  refine And.intro (okIret dX8_told_75 rfl) ?_
  refine And.intro (okAload_n dX8_told_76 rfl rfl) ?_
  refine And.intro (okGet (C := RX8) (T := TX8) (N := 10) dX8_told_77 rfl rfl (by decide) inX8 wm_2_32) ?_
  refine And.intro (okGet (C := RX5) (T := TX5) (N := 15) dX8_told_80 rfl rfl (by decide) inX5 wm_1_155) ?_
  refine And.intro (okIret dX8_told_83 rfl) ?_
  refine And.intro (okAload_n dX8_told_84 rfl rfl) ?_
  refine And.intro (okGet (C := RX8) (T := TX8) (N := 10) dX8_told_85 rfl rfl (by decide) inX8 wm_2_32) ?_
  refine And.intro (okGet (C := RX5) (T := TX5) (N := 15) dX8_told_88 rfl rfl (by decide) inX5 wm_1_157) ?_
  refine And.intro (okIret dX8_told_91 rfl) ?_
  refine And.intro (okAload_n dX8_told_92 rfl rfl) ?_
  refine And.intro (okGet (C := RX8) (T := TX8) (N := 10) dX8_told_93 rfl rfl (by decide) inX8 wm_2_32) ?_
  refine And.intro (okGet (C := RX5) (T := TX5) (N := 15) dX8_told_96 rfl rfl (by decide) inX5 wm_1_159) ?_
  refine And.intro (okIret dX8_told_99 rfl) ?_
  refine And.intro (okAload_n dX8_told_100 rfl rfl) ?_
  refine And.intro (okGet (C := RX8) (T := TX8) (N := 10) dX8_told_101 rfl rfl (by decide) inX8 wm_2_32) ?_
  refine And.intro (okGet (C := RX5) (T := TX5) (N := 15) dX8_told_104 rfl rfl (by decide) inX5 wm_1_175) ?_
  refine And.intro (okGet (C := RX2) (T := TX2) (N := 3) dX8_told_107 rfl rfl (by decide) inX2 wm_1_92) ?_
  refine And.intro (okIret dX8_told_110 rfl) ?_
  refine And.intro (okAload_n dX8_told_111 rfl rfl) ?_
  refine And.intro (okGet (C := RX8) (T := TX8) (N := 10) dX8_told_112 rfl rfl (by decide) inX8 wm_2_32) ?_
  refine And.intro (okGet (C := RX5) (T := TX5) (N := 15) dX8_told_115 rfl rfl (by decide) inX5 wm_1_161) ?_
  refine And.intro (okIret dX8_told_118 rfl) ?_
  refine And.intro (okAload_n dX8_told_119 rfl rfl) ?_
  refine And.intro (okGet (C := RX8) (T := TX8) (N := 10) dX8_told_120 rfl rfl (by decide) inX8 wm_2_32) ?_
  refine And.intro (okGet (C := RX5) (T := TX5) (N := 15) dX8_told_123 rfl rfl (by decide) inX5 wm_1_163) ?_
  refine And.intro (okIret dX8_told_126 rfl) ?_
  refine And.intro (okAload_n dX8_told_127 rfl rfl) ?_
  refine And.intro (okGet (C := RX8) (T := TX8) (N := 10) dX8_told_128 rfl rfl (by decide) inX8 wm_2_32) ?_
  refine And.intro (okGet (C := RX5) (T := TX5) (N := 15) dX8_told_131 rfl rfl (by decide) inX5 wm_1_175) ?_
  refine And.intro (okCallV (y := yX2_latest) (T := TX2) (oCall_is _ _ _) dX8_told_134 rfl (ok_F_X2_latest l) rc_F_X2_latest rfl wm_3_66 wm_3_67 wm_3_68 wm_1_5 wm_3_69 pl_X2_latest (by decide)) ?_
  refine And.intro (okIret dX8_told_137 rfl) ?_
  refine And.intro (okAload_n dX8_told_138 rfl rfl) ?_
  refine And.intro (okGet (C := RX8) (T := TX8) (N := 10) dX8_told_139 rfl rfl (by decide) inX8 wm_2_32) ?_
  refine And.intro (okGet (C := RX5) (T := TX5) (N := 15) dX8_told_142 rfl rfl (by decide) inX5 wm_1_177) ?_
  refine And.intro (okGet (C := RX7) (T := TX7) (N := 4) dX8_told_145 rfl rfl (by decide) inX7 wm_1_120) ?_
  refine And.intro (okIret dX8_told_148 rfl) ?_
  refine And.intro (okAload_n dX8_told_149 rfl rfl) ?_
  refine And.intro (okGet (C := RX8) (T := TX8) (N := 10) dX8_told_150 rfl rfl (by decide) inX8 wm_2_32) ?_
  refine And.intro (okGet (C := RX5) (T := TX5) (N := 15) dX8_told_153 rfl rfl (by decide) inX5 wm_1_177) ?_
  refine And.intro (okAload_n dX8_told_156 rfl rfl) ?_
  refine And.intro (okGet (C := RX8) (T := TX8) (N := 10) dX8_told_157 rfl rfl (by decide) inX8 wm_2_32) ?_
  refine And.intro (okGet (C := RX5) (T := TX5) (N := 15) dX8_told_160 rfl rfl (by decide) inX5 wm_1_153) ?_
  refine And.intro (okCallV (y := yX7_countAfter) (T := TX7) (oCallZ_is _ _ _) dX8_told_163 rfl (ok_F_X7_countAfter l) rc_F_X7_countAfter rfl wm_3_70 wm_3_71 wm_3_72 wm_1_6 wm_3_73 pl_X7_countAfter (by decide)) ?_
  refine And.intro (okIret dX8_told_166 rfl) ?_
  refine And.intro (okAload_n dX8_told_167 rfl rfl) ?_
  refine And.intro (okGet (C := RX8) (T := TX8) (N := 10) dX8_told_168 rfl rfl (by decide) inX8 wm_2_32) ?_
  refine And.intro (okGet (C := RX5) (T := TX5) (N := 15) dX8_told_171 rfl rfl (by decide) inX5 wm_1_165) ?_
  refine And.intro (okIret dX8_told_174 rfl) ?_
  refine And.intro (okAload_n dX8_told_175 rfl rfl) ?_
  refine And.intro (okGet (C := RX8) (T := TX8) (N := 10) dX8_told_176 rfl rfl (by decide) inX8 wm_2_38) ?_
  refine And.intro (okIret dX8_told_179 rfl) ?_
  refine And.intro (okAload_n dX8_told_180 rfl rfl) ?_
  refine And.intro (okGet (C := RX8) (T := TX8) (N := 10) dX8_told_181 rfl rfl (by decide) inX8 wm_2_34) ?_
  refine And.intro (okGet (C := RX3) (T := TX3) (N := 3) dX8_told_184 rfl rfl (by decide) inX3 wm_1_223) ?_
  refine And.intro (okIret dX8_told_187 rfl) ?_
  refine And.intro (okIconst dX8_told_188 rfl (by first | rfl | decide)) ?_
  refine And.intro (okIret dX8_told_189 rfl) ?_
  exact trivial
def tolB (x v : pLV) (q : Int32) : Int32 := if q = 0 then v 0 0 else if q = 1 then v 0 1 else if q = 2 then v 0 2 else if q = 3 then v 0 3 else if q = 4 then v 0 27 else if q = 5 then v 0 4 else if q = 6 then v 0 5 else if q = 7 then ltC (v 0 28) (v 3 0) else if q = 8 then v 0 29 else if q = 9 then caI (v 4) (v 0 0) (caK (v 0 29)) else if q = 10 then v 0 6 else if q = 11 then x 0 0 else if q = 12 then x 0 4 else -1
def F_X8_told : pF := fun args w rg => match args with
  | [.ref 0, .int q] => unB w (fun f x v u => pif (bOK f rg) (some (some (.int (tolB x v q)), cw f (x) (v) (u), rg)) none)
  | _ => none
set_option maxHeartbeats 400000 in
set_option maxRecDepth 100000 in
theorem run_X8_told (rg : pRg) (f : Nat → Option Nat) (x v u : pLV) (q : Int32) (hc : bOK f rg) : ∃ fu, ex k_X8_told fu 0 [(0, .ref 0), (1, .int q)] [] (cw f x v u) rg = some (some (.int (tolB x v q)), cw f (x) (v) (u), rg) := by
  refine ⟨60, ?_⟩
  conv => lhs; whnf
  refine pif_c (fun h0 => ?_) (fun h0 => ?_)
  · rw [show tolB x v q = _ from if_pos h0]
    rfl
  · conv => lhs; whnf
    refine pif_c (fun h1 => ?_) (fun h1 => ?_)
    · rw [show tolB x v q = _ from (if_neg h0).trans (if_pos h1)]
      rfl
    · conv => lhs; whnf
      refine pif_c (fun h2 => ?_) (fun h2 => ?_)
      · rw [show tolB x v q = _ from (if_neg h0).trans ((if_neg h1).trans (if_pos h2))]
        rfl
      · conv => lhs; whnf
        refine pif_c (fun h3 => ?_) (fun h3 => ?_)
        · rw [show tolB x v q = _ from (if_neg h0).trans ((if_neg h1).trans ((if_neg h2).trans (if_pos h3)))]
          rfl
        · conv => lhs; whnf
          refine pif_c (fun h4 => ?_) (fun h4 => ?_)
          · rw [show tolB x v q = _ from (if_neg h0).trans ((if_neg h1).trans ((if_neg h2).trans ((if_neg h3).trans (if_pos h4))))]
            rfl
          · conv => lhs; whnf
            refine pif_c (fun h5 => ?_) (fun h5 => ?_)
            · rw [show tolB x v q = _ from (if_neg h0).trans ((if_neg h1).trans ((if_neg h2).trans ((if_neg h3).trans ((if_neg h4).trans (if_pos h5)))))]
              rfl
            · conv => lhs; whnf
              refine pif_c (fun h6 => ?_) (fun h6 => ?_)
              · rw [show tolB x v q = _ from (if_neg h0).trans ((if_neg h1).trans ((if_neg h2).trans ((if_neg h3).trans ((if_neg h4).trans ((if_neg h5).trans (if_pos h6))))))]
                rfl
              · conv => lhs; whnf
                refine pif_c (fun h7 => ?_) (fun h7 => ?_)
                · rw [show tolB x v q = _ from (if_neg h0).trans ((if_neg h1).trans ((if_neg h2).trans ((if_neg h3).trans ((if_neg h4).trans ((if_neg h5).trans ((if_neg h6).trans (if_pos h7)))))))]
                  rfl
                · conv => lhs; whnf
                  refine pif_c (fun h8 => ?_) (fun h8 => ?_)
                  · rw [show tolB x v q = _ from (if_neg h0).trans ((if_neg h1).trans ((if_neg h2).trans ((if_neg h3).trans ((if_neg h4).trans ((if_neg h5).trans ((if_neg h6).trans ((if_neg h7).trans (if_pos h8))))))))]
                    rfl
                  · conv => lhs; whnf
                    refine pif_c (fun h9 => ?_) (fun h9 => ?_)
                    · rw [show tolB x v q = _ from (if_neg h0).trans ((if_neg h1).trans ((if_neg h2).trans ((if_neg h3).trans ((if_neg h4).trans ((if_neg h5).trans ((if_neg h6).trans ((if_neg h7).trans ((if_neg h8).trans (if_pos h9)))))))))]
                      conv => lhs; whnf
                      refine (callK_r (cc_countAfter f x v u (v 0 0) rg) (by rfl)).trans ?_
                      rfl
                    · conv => lhs; whnf
                      refine pif_c (fun h10 => ?_) (fun h10 => ?_)
                      · rw [show tolB x v q = _ from (if_neg h0).trans ((if_neg h1).trans ((if_neg h2).trans ((if_neg h3).trans ((if_neg h4).trans ((if_neg h5).trans ((if_neg h6).trans ((if_neg h7).trans ((if_neg h8).trans ((if_neg h9).trans (if_pos h10))))))))))]
                        rfl
                      · conv => lhs; whnf
                        refine pif_c (fun h11 => ?_) (fun h11 => ?_)
                        · rw [show tolB x v q = _ from (if_neg h0).trans ((if_neg h1).trans ((if_neg h2).trans ((if_neg h3).trans ((if_neg h4).trans ((if_neg h5).trans ((if_neg h6).trans ((if_neg h7).trans ((if_neg h8).trans ((if_neg h9).trans ((if_neg h10).trans (if_pos h11)))))))))))]
                          rfl
                        · conv => lhs; whnf
                          refine pif_c (fun h12 => ?_) (fun h12 => ?_)
                          · rw [show tolB x v q = _ from (if_neg h0).trans ((if_neg h1).trans ((if_neg h2).trans ((if_neg h3).trans ((if_neg h4).trans ((if_neg h5).trans ((if_neg h6).trans ((if_neg h7).trans ((if_neg h8).trans ((if_neg h9).trans ((if_neg h10).trans ((if_neg h11).trans (if_pos h12))))))))))))]
                            rfl
                          · rw [show tolB x v q = _ from (if_neg h0).trans ((if_neg h1).trans ((if_neg h2).trans ((if_neg h3).trans ((if_neg h4).trans ((if_neg h5).trans ((if_neg h6).trans ((if_neg h7).trans ((if_neg h8).trans ((if_neg h9).trans ((if_neg h10).trans ((if_neg h11).trans (if_neg h12))))))))))))]
                            rfl
theorem ok_F_X8_told (l : Launch) : pFOK l yX8_told (pWs yX8_told cX8_told 2 ((some FieldType.int))) rm_X8_told F_X8_told := by
  refine pFOK_all fun args w rg v0 w' rg' h => ?_
  unfold F_X8_told at h
  split at h
  next q =>
    obtain ⟨f, x, v, u, hw, h2⟩ := unB_some h
    clear h
    subst hw
    by_cases hc : bOK f rg
    · have h2 := (pif_t hc).symm.trans h2
      cases h2
      exact met_of_ex (by decide) (ok_k_X8_told l) rfl (run_X8_told rg f x v u q hc) (Nat.le_of_ble_eq_true rfl) rfl (Nat.le_of_ble_eq_true rfl) (Nat.le_of_ble_eq_true rfl) (Nat.zero_le _) rfl rfl
    · have h2 := (pif_f hc).symm.trans h2
      cases h2
  next => cases h
theorem rc_F_X8_told : pRcv 8 F_X8_told := by
  intro as w rg o h
  obtain ⟨v0, w', rg'⟩ := o
  unfold F_X8_told at h
  split at h
  next =>
    obtain ⟨f, x, v, u, rfl, -⟩ := unB_some h
    exact ⟨_, _, _, rfl, cellOf_get rfl⟩
  next => cases h
theorem cl_X8_told (f : Nat → Option Nat) (x v u : pLV) (q : Int32) (rg : pRg) (hc : bOK f rg) : F_X8_told [.ref 0, .int q] (cw f x v u) rg = some (some (.int (tolB (NX x) (NL v) q)), cw f ((NX x)) ((NL v)) ((NL u)), rg) := pif_t hc
end
