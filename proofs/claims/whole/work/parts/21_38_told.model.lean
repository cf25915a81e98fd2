noncomputable section
def tolR (m : pLV) (q : Int32) : Int32 := if q = 0 then m 1 9 else if q = 1 then m 1 10 else if q = 2 then m 1 11 else if q = 3 then m 1 12 else if q = 4 then m 1 13 else if q = 5 then m 1 14 else if q = 6 then m 1 15 else if q = 7 then m 1 16 else if q = 8 then m 1 49 else if q = 9 then eaR m else if q = 10 then m 1 17 else if q = 11 then m 0 6 else if q = 12 then m 0 2 else -1
theorem dX9_told_0 : decode cX9_told 0 = .ok (.iload_n 1, 1) := by decide +kernel
theorem dX9_told_1 : decode cX9_told 1 = .ok (.tableswitch 108 0 12 #[67, 67, 67, 67, 67, 67, 67, 67, 77, 85, 90, 98, 103], 67) := by decide +kernel
theorem dX9_told_68 : decode cX9_told 68 = .ok (.aload_n 0, 1) := by decide +kernel
theorem dX9_told_69 : decode cX9_told 69 = .ok (.getfield 7, 3) := by decide +kernel
theorem dX9_told_72 : decode cX9_told 72 = .ok (.bipush 9, 2) := by decide +kernel
theorem dX9_told_74 : decode cX9_told 74 = .ok (.iload_n 1, 1) := by decide +kernel
theorem dX9_told_75 : decode cX9_told 75 = .ok (.iadd, 1) := by decide +kernel
theorem dX9_told_76 : decode cX9_told 76 = .ok (.iaload, 1) := by decide +kernel
theorem dX9_told_77 : decode cX9_told 77 = .ok (.ireturn, 1) := by decide +kernel
theorem dX9_told_78 : decode cX9_told 78 = .ok (.aload_n 0, 1) := by decide +kernel
theorem dX9_told_79 : decode cX9_told 79 = .ok (.getfield 7, 3) := by decide +kernel
theorem dX9_told_82 : decode cX9_told 82 = .ok (.bipush 49, 2) := by decide +kernel
theorem dX9_told_84 : decode cX9_told 84 = .ok (.iaload, 1) := by decide +kernel
theorem dX9_told_85 : decode cX9_told 85 = .ok (.ireturn, 1) := by decide +kernel
theorem dX9_told_86 : decode cX9_told 86 = .ok (.aload_n 0, 1) := by decide +kernel
theorem dX9_told_87 : decode cX9_told 87 = .ok (.invokevirtual 163, 3) := by decide +kernel
theorem dX9_told_90 : decode cX9_told 90 = .ok (.ireturn, 1) := by decide +kernel
theorem dX9_told_91 : decode cX9_told 91 = .ok (.aload_n 0, 1) := by decide +kernel
theorem dX9_told_92 : decode cX9_told 92 = .ok (.getfield 7, 3) := by decide +kernel
theorem dX9_told_95 : decode cX9_told 95 = .ok (.bipush 17, 2) := by decide +kernel
theorem dX9_told_97 : decode cX9_told 97 = .ok (.iaload, 1) := by decide +kernel
theorem dX9_told_98 : decode cX9_told 98 = .ok (.ireturn, 1) := by decide +kernel
theorem dX9_told_99 : decode cX9_told 99 = .ok (.aload_n 0, 1) := by decide +kernel
theorem dX9_told_100 : decode cX9_told 100 = .ok (.getfield 132, 3) := by decide +kernel
theorem dX9_told_103 : decode cX9_told 103 = .ok (.ireturn, 1) := by decide +kernel
theorem dX9_told_104 : decode cX9_told 104 = .ok (.aload_n 0, 1) := by decide +kernel
theorem dX9_told_105 : decode cX9_told 105 = .ok (.getfield 38, 3) := by decide +kernel
theorem dX9_told_108 : decode cX9_told 108 = .ok (.ireturn, 1) := by decide +kernel
theorem dX9_told_109 : decode cX9_told 109 = .ok (.iconst (-1), 1) := by decide +kernel
theorem dX9_told_110 : decode cX9_told 110 = .ok (.ireturn, 1) := by decide +kernel
def k_X9_told : List pEn := [oIload 1, oSw [(0, 2), (1, 2), (2, 2), (3, 2), (4, 2), (5, 2), (6, 2), (7, 2), (8, 9), (9, 14), (10, 17), (11, 22), (12, 25)] 28, oAload 0, oGet 9 0, oConst (9), oIload 1, oAdd, oIald, oIret, oAload 0, oGet 9 0, oConst (49), oIaldN 49, oIret, oAload 0, oCallZ 1 F_X9_entriesAhead, oIret, oAload 0, oGet 9 0, oConst (17), oIaldN 17, oIret, oAload 0, oGet 9 6, oIret, oAload 0, oGet 9 2, oIret, oConst (-1), oIret]
def pc_X9_told (i : Nat) : Nat := ([0, 1, 68, 69, 72, 74, 75, 76, 77, 78, 79, 82, 84, 85, 86, 87, 90, 91, 92, 95, 97, 98, 99, 100, 103, 104, 105, 108, 109, 110] : List Nat).getD i 0
abbrev rm_X9_told : Room := { frames := 1, cells := 0, slots := 0, locals := 22 }
theorem pl_X9_told : pPlain yX9_told 1 := by decide +kernel
set_option maxRecDepth 100000 in
set_option maxHeartbeats 4000000 in
theorem ok_k_X9_told (l : Launch) : ∀ (i : Nat) (en : pEn), k_X9_told[i]? = some en → EOK l cX9_told yX9_told.cls 2 ((some FieldType.int)) rm_X9_told 0 pc_X9_told i en := by
  refine allOK_at ?_
  refine And.intro (okIload_n dX9_told_0 rfl rfl) ?_
  refine And.intro (okTsw dX9_told_1 (by decide) (by rfl) (by intro z h1 h2; have : z = 0 ∨ z = 1 ∨ z = 2 ∨ z = 3 ∨ z = 4 ∨ z = 5 ∨ z = 6 ∨ z = 7 ∨ z = 8 ∨ z = 9 ∨ z = 10 ∨ z = 11 ∨ z = 12 := (by omega); rcases this with rfl | rfl | rfl | rfl | rfl | rfl | rfl | rfl | rfl | rfl | rfl | rfl | rfl <;> decide)) ?_
  refine And.intro (okAload_n dX9_told_68 rfl rfl) ?_
  refine And.intro (okGet (C := RX9) (T := TX9) (N := 22) dX9_told_69 rfl rfl (by decide) inX9 wm_3_141) ?_
  refine And.intro (okBipush dX9_told_72 rfl (by first | rfl | decide)) ?_
  refine And.intro (okIload_n dX9_told_74 rfl rfl) ?_
  refine And.intro (okAdd dX9_told_75 rfl) ?_
  refine And.intro (okIald dX9_told_76 rfl) ?_
  refine And.intro (okIret dX9_told_77 rfl) ?_
  refine And.intro (okAload_n dX9_told_78 rfl rfl) ?_
  refine And.intro (okGet (C := RX9) (T := TX9) (N := 22) dX9_told_79 rfl rfl (by decide) inX9 wm_3_141) ?_
  refine And.intro (okBipush dX9_told_82 rfl (by first | rfl | decide)) ?_
  refine And.intro (okIaldN dX9_told_84 rfl) ?_
  refine And.intro (okIret dX9_told_85 rfl) ?_
  refine And.intro (okAload_n dX9_told_86 rfl rfl) ?_
  refine And.intro (okCallV (y := yX9_entriesAhead) (T := TX9) (oCallZ_is _ _ _) dX9_told_87 rfl (ok_F_X9_entriesAhead l) rc_F_X9_entriesAhead rfl wm_4_116 wm_4_118 wp_36 wm_1_10 wm_4_119 pl_X9_entriesAhead (by decide)) ?_
  refine And.intro (okIret dX9_told_90 rfl) ?_
  refine And.intro (okAload_n dX9_told_91 rfl rfl) ?_
  refine And.intro (okGet (C := RX9) (T := TX9) (N := 22) dX9_told_92 rfl rfl (by decide) inX9 wm_3_141) ?_
  refine And.intro (okBipush dX9_told_95 rfl (by first | rfl | decide)) ?_
  refine And.intro (okIaldN dX9_told_97 rfl) ?_
  refine And.intro (okIret dX9_told_98 rfl) ?_
  refine And.intro (okAload_n dX9_told_99 rfl rfl) ?_
  refine And.intro (okGet (C := RX9) (T := TX9) (N := 22) dX9_told_100 rfl rfl (by decide) inX9 wm_3_147) ?_
  refine And.intro (okIret dX9_told_103 rfl) ?_
  refine And.intro (okAload_n dX9_told_104 rfl rfl) ?_
  refine And.intro (okGet (C := RX9) (T := TX9) (N := 22) dX9_told_105 rfl rfl (by decide) inX9 wm_3_143) ?_
  refine And.intro (okIret dX9_told_108 rfl) ?_
  refine And.intro (okIconst dX9_told_109 rfl (by first | rfl | decide)) ?_
  refine And.intro (okIret dX9_told_110 rfl) ?_
  exact trivial
def G_X9_told : pG := fun args w => match args with
  | [.ref 0, .int q] => unM w (fun m => pif (eOK m) (some (some (.int (tolR m q)), mdl (m))) none)
  | _ => none
set_option maxHeartbeats 400000 in
set_option maxRecDepth 100000 in
theorem run_X9_told (rg : pRg) (m : pLV) (q : Int32) (hc : eOK m) : ∃ fu, ex k_X9_told fu 0 [(0, .ref 0), (1, .int q)] [] (mdl m) rg = some (some (.int (tolR m q)), mdl (m), rg) := by
  refine ⟨60, ?_⟩
  conv => lhs; whnf
  refine pif_c (fun h0 => ?_) (fun h0 => ?_)
  · rw [show tolR m q = _ from if_pos h0]
    subst h0
    conv => lhs; whnf
    refine (pif_f (by decide)).trans ?_
    rfl
  · conv => lhs; whnf
    refine pif_c (fun h1 => ?_) (fun h1 => ?_)
    · rw [show tolR m q = _ from (if_neg h0).trans (if_pos h1)]
      subst h1
      conv => lhs; whnf
      refine (pif_f (by decide)).trans ?_
      rfl
    · conv => lhs; whnf
      refine pif_c (fun h2 => ?_) (fun h2 => ?_)
      · rw [show tolR m q = _ from (if_neg h0).trans ((if_neg h1).trans (if_pos h2))]
        subst h2
        conv => lhs; whnf
        refine (pif_f (by decide)).trans ?_
        rfl
      · conv => lhs; whnf
        refine pif_c (fun h3 => ?_) (fun h3 => ?_)
        · rw [show tolR m q = _ from (if_neg h0).trans ((if_neg h1).trans ((if_neg h2).trans (if_pos h3)))]
          subst h3
          conv => lhs; whnf
          refine (pif_f (by decide)).trans ?_
          rfl
        · conv => lhs; whnf
          refine pif_c (fun h4 => ?_) (fun h4 => ?_)
          · rw [show tolR m q = _ from (if_neg h0).trans ((if_neg h1).trans ((if_neg h2).trans ((if_neg h3).trans (if_pos h4))))]
            subst h4
            conv => lhs; whnf
            refine (pif_f (by decide)).trans ?_
            rfl
          · conv => lhs; whnf
            refine pif_c (fun h5 => ?_) (fun h5 => ?_)
            · rw [show tolR m q = _ from (if_neg h0).trans ((if_neg h1).trans ((if_neg h2).trans ((if_neg h3).trans ((if_neg h4).trans (if_pos h5)))))]
              subst h5
              conv => lhs; whnf
              refine (pif_f (by decide)).trans ?_
              rfl
            · conv => lhs; whnf
              refine pif_c (fun h6 => ?_) (fun h6 => ?_)
              · rw [show tolR m q = _ from (if_neg h0).trans ((if_neg h1).trans ((if_neg h2).trans ((if_neg h3).trans ((if_neg h4).trans ((if_neg h5).trans (if_pos h6))))))]
                subst h6
                conv => lhs; whnf
                refine (pif_f (by decide)).trans ?_
                rfl
              · conv => lhs; whnf
                refine pif_c (fun h7 => ?_) (fun h7 => ?_)
                · rw [show tolR m q = _ from (if_neg h0).trans ((if_neg h1).trans ((if_neg h2).trans ((if_neg h3).trans ((if_neg h4).trans ((if_neg h5).trans ((if_neg h6).trans (if_pos h7)))))))]
                  subst h7
                  conv => lhs; whnf
                  refine (pif_f (by decide)).trans ?_
                  rfl
                · conv => lhs; whnf
                  refine pif_c (fun h8 => ?_) (fun h8 => ?_)
                  · rw [show tolR m q = _ from (if_neg h0).trans ((if_neg h1).trans ((if_neg h2).trans ((if_neg h3).trans ((if_neg h4).trans ((if_neg h5).trans ((if_neg h6).trans ((if_neg h7).trans (if_pos h8))))))))] <;> rfl
                  · conv => lhs; whnf
                    refine pif_c (fun h9 => ?_) (fun h9 => ?_)
                    · rw [show tolR m q = _ from (if_neg h0).trans ((if_neg h1).trans ((if_neg h2).trans ((if_neg h3).trans ((if_neg h4).trans ((if_neg h5).trans ((if_neg h6).trans ((if_neg h7).trans ((if_neg h8).trans (if_pos h9)))))))))]
                      conv => lhs; whnf
                      refine (callK_r (cl_X9_entriesAhead m rg hc) (by rfl)).trans ?_
                      rw [eaR_NM]
                      rfl
                    · conv => lhs; whnf
                      refine pif_c (fun h10 => ?_) (fun h10 => ?_)
                      · rw [show tolR m q = _ from (if_neg h0).trans ((if_neg h1).trans ((if_neg h2).trans ((if_neg h3).trans ((if_neg h4).trans ((if_neg h5).trans ((if_neg h6).trans ((if_neg h7).trans ((if_neg h8).trans ((if_neg h9).trans (if_pos h10))))))))))] <;> rfl
                      · conv => lhs; whnf
                        refine pif_c (fun h11 => ?_) (fun h11 => ?_)
                        · rw [show tolR m q = _ from (if_neg h0).trans ((if_neg h1).trans ((if_neg h2).trans ((if_neg h3).trans ((if_neg h4).trans ((if_neg h5).trans ((if_neg h6).trans ((if_neg h7).trans ((if_neg h8).trans ((if_neg h9).trans ((if_neg h10).trans (if_pos h11)))))))))))] <;> rfl
                        · conv => lhs; whnf
                          refine pif_c (fun h12 => ?_) (fun h12 => ?_)
                          · rw [show tolR m q = _ from (if_neg h0).trans ((if_neg h1).trans ((if_neg h2).trans ((if_neg h3).trans ((if_neg h4).trans ((if_neg h5).trans ((if_neg h6).trans ((if_neg h7).trans ((if_neg h8).trans ((if_neg h9).trans ((if_neg h10).trans ((if_neg h11).trans (if_pos h12))))))))))))] <;> rfl
                          · rw [show tolR m q = _ from (if_neg h0).trans ((if_neg h1).trans ((if_neg h2).trans ((if_neg h3).trans ((if_neg h4).trans ((if_neg h5).trans ((if_neg h6).trans ((if_neg h7).trans ((if_neg h8).trans ((if_neg h9).trans ((if_neg h10).trans ((if_neg h11).trans (if_neg h12))))))))))))] <;> rfl
theorem ct_X9_told (l : Launch) : ∀ args0 w0 v0 w1 rg, G_X9_told args0 w0 = some (v0, w1) → pCT l yX9_told (pWs yX9_told cX9_told 2 ((some FieldType.int))) rm_X9_told args0 w0 rg (v0, w1, rg) := by
  intro args0 w0 v0 w1 rg h
  unfold G_X9_told at h
  split at h
  next q =>
    obtain ⟨m, hw, h2⟩ := unM_some h
    clear h
    subst hw
    by_cases hc : eOK m
    · have h2 := (pif_t hc).symm.trans h2
      cases h2
      exact met_of_exM (by decide) (ok_k_X9_told l) rfl (run_X9_told rg m q hc) (Nat.le_of_ble_eq_true rfl) rfl rfl
    · have h2 := (pif_f hc).symm.trans h2
      cases h2
  next => cases h
def F_X9_told : pF := faN G_X9_told
theorem ok_F_X9_told (l : Launch) : pFOK l yX9_told (pWs yX9_told cX9_told 2 ((some FieldType.int))) rm_X9_told F_X9_told := pFOK_fa (fun a b c d rg h => ct_X9_told l a b c d rg h)
theorem rc_F_X9_told : pRcv 9 F_X9_told := pRcv_fa (fun a b c d h => by
  unfold G_X9_told at h
  split at h
  next =>
    obtain ⟨m, rfl, h⟩ := unM_some h
    exact ⟨_, _, _, rfl, rfl⟩
  next => cases h)
theorem cl_X9_told (m : pLV) (q : Int32) (rg : pRg) (hc : eOK (NM m)) : F_X9_told [.ref 0, .int q] (mdl m) rg = some (some (.int (tolR (NM m) q)), mdl ((NM m)), rg) := by
  have h : G_X9_told [.ref 0, .int q] (mdl m) = some (some (.int (tolR (NM m) q)), mdl ((NM m))) := pif_t hc
  unfold F_X9_told faN
  rw [h]
end
