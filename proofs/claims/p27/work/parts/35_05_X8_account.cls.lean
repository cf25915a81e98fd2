noncomputable section
theorem dX8_account_0 : decode cX8_account 0 = .ok (.iload_n 1, 1) := by decide +kernel
theorem dX8_account_1 : decode cX8_account 1 = .ok (.tableswitch 125 0 7 #[47, 58, 69, 80, 91, 102, 110, 114], 47) := by decide +kernel
theorem dX8_account_48 : decode cX8_account 48 = .ok (.aload_n 0, 1) := by decide +kernel
theorem dX8_account_49 : decode cX8_account 49 = .ok (.getfield 10, 3) := by decide +kernel
theorem dX8_account_52 : decode cX8_account 52 = .ok (.getfield 90, 3) := by decide +kernel
theorem dX8_account_55 : decode cX8_account 55 = .ok (.getfield 195, 3) := by decide +kernel
theorem dX8_account_58 : decode cX8_account 58 = .ok (.ireturn, 1) := by decide +kernel
theorem dX8_account_59 : decode cX8_account 59 = .ok (.aload_n 0, 1) := by decide +kernel
theorem dX8_account_60 : decode cX8_account 60 = .ok (.getfield 10, 3) := by decide +kernel
theorem dX8_account_63 : decode cX8_account 63 = .ok (.getfield 90, 3) := by decide +kernel
theorem dX8_account_66 : decode cX8_account 66 = .ok (.getfield 94, 3) := by decide +kernel
theorem dX8_account_69 : decode cX8_account 69 = .ok (.ireturn, 1) := by decide +kernel
theorem dX8_account_70 : decode cX8_account 70 = .ok (.aload_n 0, 1) := by decide +kernel
theorem dX8_account_71 : decode cX8_account 71 = .ok (.getfield 10, 3) := by decide +kernel
theorem dX8_account_74 : decode cX8_account 74 = .ok (.getfield 90, 3) := by decide +kernel
theorem dX8_account_77 : decode cX8_account 77 = .ok (.invokevirtual 198, 3) := by decide +kernel
theorem dX8_account_80 : decode cX8_account 80 = .ok (.ireturn, 1) := by decide +kernel
theorem dX8_account_81 : decode cX8_account 81 = .ok (.aload_n 0, 1) := by decide +kernel
theorem dX8_account_82 : decode cX8_account 82 = .ok (.getfield 10, 3) := by decide +kernel
theorem dX8_account_85 : decode cX8_account 85 = .ok (.getfield 90, 3) := by decide +kernel
theorem dX8_account_88 : decode cX8_account 88 = .ok (.getfield 201, 3) := by decide +kernel
theorem dX8_account_91 : decode cX8_account 91 = .ok (.ireturn, 1) := by decide +kernel
theorem dX8_account_92 : decode cX8_account 92 = .ok (.aload_n 0, 1) := by decide +kernel
theorem dX8_account_93 : decode cX8_account 93 = .ok (.getfield 10, 3) := by decide +kernel
theorem dX8_account_96 : decode cX8_account 96 = .ok (.getfield 90, 3) := by decide +kernel
theorem dX8_account_99 : decode cX8_account 99 = .ok (.getfield 116, 3) := by decide +kernel
theorem dX8_account_102 : decode cX8_account 102 = .ok (.ireturn, 1) := by decide +kernel
theorem dX8_account_103 : decode cX8_account 103 = .ok (.aload_n 0, 1) := by decide +kernel
theorem dX8_account_104 : decode cX8_account 104 = .ok (.getfield 10, 3) := by decide +kernel
theorem dX8_account_107 : decode cX8_account 107 = .ok (.invokevirtual 204, 3) := by decide +kernel
theorem dX8_account_110 : decode cX8_account 110 = .ok (.ireturn, 1) := by decide +kernel
theorem dX8_account_111 : decode cX8_account 111 = .ok (.sipush 400, 3) := by decide +kernel
theorem dX8_account_114 : decode cX8_account 114 = .ok (.ireturn, 1) := by decide +kernel
theorem dX8_account_115 : decode cX8_account 115 = .ok (.aload_n 0, 1) := by decide +kernel
theorem dX8_account_116 : decode cX8_account 116 = .ok (.getfield 10, 3) := by decide +kernel
theorem dX8_account_119 : decode cX8_account 119 = .ok (.getfield 90, 3) := by decide +kernel
theorem dX8_account_122 : decode cX8_account 122 = .ok (.getfield 207, 3) := by decide +kernel
theorem dX8_account_125 : decode cX8_account 125 = .ok (.ireturn, 1) := by decide +kernel
theorem dX8_account_126 : decode cX8_account 126 = .ok (.iconst (-1), 1) := by decide +kernel
theorem dX8_account_127 : decode cX8_account 127 = .ok (.ireturn, 1) := by decide +kernel
def k_X8_account : List pEn := [oIload 1, oSw [(0, 2), (1, 7), (2, 12), (3, 17), (4, 22), (5, 27), (6, 31), (7, 33)] 38, oAload 0, oGet 8 0, oGet 5 11, oGet 0 0, oIret, oAload 0, oGet 8 0, oGet 5 11, oGet 0 1, oIret, oAload 0, oGet 8 0, oGet 5 11, oCall 1 F_X0_paperOfAll, oIret, oAload 0, oGet 8 0, oGet 5 11, oGet 0 2, oIret, oAload 0, oGet 8 0, oGet 5 11, oGet 0 3, oIret, oAload 0, oGet 8 0, oCallZ 1 Fb_X5_fibreNow, oIret, oConst (400), oIret, oAload 0, oGet 8 0, oGet 5 11, oGet 0 4, oIret, oConst (-1), oIret]
def pc_X8_account (i : Nat) : Nat := ([0, 1, 48, 49, 52, 55, 58, 59, 60, 63, 66, 69, 70, 71, 74, 77, 80, 81, 82, 85, 88, 91, 92, 93, 96, 99, 102, 103, 104, 107, 110, 111, 114, 115, 116, 119, 122, 125, 126, 127] : List Nat).getD i 0
abbrev rm_X8_account : Room := { frames := 1, cells := 0, slots := 0, locals := 22 }
theorem pl_X8_account : pPlain yX8_account 1 := by decide +kernel
set_option maxRecDepth 100000 in
set_option maxHeartbeats 4000000 in
theorem ok_k_X8_account (l : Launch) : ∀ (i : Nat) (en : pEn), k_X8_account[i]? = some en → EOK l cX8_account yX8_account.cls 2 ((some FieldType.int)) rm_X8_account 0 pc_X8_account i en := by
  refine allOK_at ?_
  refine And.intro (okIload_n dX8_account_0 rfl rfl) ?_
  refine And.intro (okTsw dX8_account_1 (by decide) (by rfl) (by intro z h1 h2; have : z = 0 ∨ z = 1 ∨ z = 2 ∨ z = 3 ∨ z = 4 ∨ z = 5 ∨ z = 6 ∨ z = 7 := (by omega); rcases this with rfl | rfl | rfl | rfl | rfl | rfl | rfl | rfl <;> decide)) ?_
  refine And.intro (okAload_n dX8_account_48 rfl rfl) ?_
  refine And.intro (okGet (C := RX8) (T := TX8) (N := 10) dX8_account_49 rfl rfl (by decide) inX8 wm_2_32) ?_
  refine And.intro (okGet (C := RX5) (T := TX5) (N := 15) dX8_account_52 rfl rfl (by decide) inX5 wm_1_173) ?_
  refine And.intro (okGet (C := RX0) (T := TX0) (N := 6) dX8_account_55 rfl rfl (by decide) inX0 wm_1_57) ?_
  refine And.intro (okIret dX8_account_58 rfl) ?_
  refine And.intro (okAload_n dX8_account_59 rfl rfl) ?_
  refine And.intro (okGet (C := RX8) (T := TX8) (N := 10) dX8_account_60 rfl rfl (by decide) inX8 wm_2_32) ?_
  refine And.intro (okGet (C := RX5) (T := TX5) (N := 15) dX8_account_63 rfl rfl (by decide) inX5 wm_1_173) ?_
  refine And.intro (okGet (C := RX0) (T := TX0) (N := 6) dX8_account_66 rfl rfl (by decide) inX0 wm_1_59) ?_
  refine And.intro (okIret dX8_account_69 rfl) ?_
  refine And.intro (okAload_n dX8_account_70 rfl rfl) ?_
  refine And.intro (okGet (C := RX8) (T := TX8) (N := 10) dX8_account_71 rfl rfl (by decide) inX8 wm_2_32) ?_
  refine And.intro (okGet (C := RX5) (T := TX5) (N := 15) dX8_account_74 rfl rfl (by decide) inX5 wm_1_173) ?_
  refine And.intro (okCallV (y := yX0_paperOfAll) (T := TX0) (oCall_is _ _ _) dX8_account_77 rfl (ok_F_X0_paperOfAll l) rc_F_X0_paperOfAll rfl wm_3_88 wm_2_214 wm_2_215 wm_1_4 wm_2_216 pl_X0_paperOfAll (by decide)) ?_
  refine And.intro (okIret dX8_account_80 rfl) ?_
  refine And.intro (okAload_n dX8_account_81 rfl rfl) ?_
  refine And.intro (okGet (C := RX8) (T := TX8) (N := 10) dX8_account_82 rfl rfl (by decide) inX8 wm_2_32) ?_
  refine And.intro (okGet (C := RX5) (T := TX5) (N := 15) dX8_account_85 rfl rfl (by decide) inX5 wm_1_173) ?_
  refine And.intro (okGet (C := RX0) (T := TX0) (N := 6) dX8_account_88 rfl rfl (by decide) inX0 wm_1_62) ?_
  refine And.intro (okIret dX8_account_91 rfl) ?_
  refine And.intro (okAload_n dX8_account_92 rfl rfl) ?_
  refine And.intro (okGet (C := RX8) (T := TX8) (N := 10) dX8_account_93 rfl rfl (by decide) inX8 wm_2_32) ?_
  refine And.intro (okGet (C := RX5) (T := TX5) (N := 15) dX8_account_96 rfl rfl (by decide) inX5 wm_1_173) ?_
  refine And.intro (okGet (C := RX0) (T := TX0) (N := 6) dX8_account_99 rfl rfl (by decide) inX0 wm_1_64) ?_
  refine And.intro (okIret dX8_account_102 rfl) ?_
  refine And.intro (okAload_n dX8_account_103 rfl rfl) ?_
  refine And.intro (okGet (C := RX8) (T := TX8) (N := 10) dX8_account_104 rfl rfl (by decide) inX8 wm_2_32) ?_
  refine And.intro (okCallV (y := yX5_fibreNow) (T := TX5) (oCallZ_is _ _ _) dX8_account_107 rfl (ok_Fb_X5_fibreNow l) rc_Fb_X5_fibreNow rfl wm_3_89 wm_3_90 wm_3_91 wm_1_2 wm_3_92 pl_X5_fibreNow (by decide)) ?_
  refine And.intro (okIret dX8_account_110 rfl) ?_
  refine And.intro (okSipush dX8_account_111 rfl (by first | rfl | decide)) ?_
  refine And.intro (okIret dX8_account_114 rfl) ?_
  refine And.intro (okAload_n dX8_account_115 rfl rfl) ?_
  refine And.intro (okGet (C := RX8) (T := TX8) (N := 10) dX8_account_116 rfl rfl (by decide) inX8 wm_2_32) ?_
  refine And.intro (okGet (C := RX5) (T := TX5) (N := 15) dX8_account_119 rfl rfl (by decide) inX5 wm_1_173) ?_
  refine And.intro (okGet (C := RX0) (T := TX0) (N := 6) dX8_account_122 rfl rfl (by decide) inX0 wm_1_67) ?_
  refine And.intro (okIret dX8_account_125 rfl) ?_
  refine And.intro (okIconst dX8_account_126 rfl (by first | rfl | decide)) ?_
  refine And.intro (okIret dX8_account_127 rfl) ?_
  exact trivial
def accB (x v : pLV) (q : Int32) : Int32 := if q = 0 then v 0 22 else if q = 1 then v 0 23 else if q = 2 then sumP (v 2) 4 else if q = 3 then v 0 24 else if q = 4 then v 0 25 else if q = 5 then fibV v else if q = 6 then 400 else if q = 7 then v 0 26 else -1
def F_X8_account : pF := fun args w rg => match args with
  | [.ref 0, .int q] => unB w (fun f x v u => pif (bOK f rg) (some (some (.int (accB x v q)), cw f (x) (v) (u), rg)) none)
  | _ => none
set_option maxHeartbeats 400000 in
set_option maxRecDepth 100000 in
theorem run_X8_account (rg : pRg) (f : Nat → Option Nat) (x v u : pLV) (q : Int32) (hc : bOK f rg) : ∃ fu, ex k_X8_account fu 0 [(0, .ref 0), (1, .int q)] [] (cw f x v u) rg = some (some (.int (accB x v q)), cw f (x) (v) (u), rg) := by
  refine ⟨60, ?_⟩
  conv => lhs; whnf
  refine pif_c (fun h0 => ?_) (fun h0 => ?_)
  · rw [show accB x v q = _ from if_pos h0]
    rfl
  · conv => lhs; whnf
    refine pif_c (fun h1 => ?_) (fun h1 => ?_)
    · rw [show accB x v q = _ from (if_neg h0).trans (if_pos h1)]
      rfl
    · conv => lhs; whnf
      refine pif_c (fun h2 => ?_) (fun h2 => ?_)
      · rw [show accB x v q = _ from (if_neg h0).trans ((if_neg h1).trans (if_pos h2))]
        rfl
      · conv => lhs; whnf
        refine pif_c (fun h3 => ?_) (fun h3 => ?_)
        · rw [show accB x v q = _ from (if_neg h0).trans ((if_neg h1).trans ((if_neg h2).trans (if_pos h3)))]
          rfl
        · conv => lhs; whnf
          refine pif_c (fun h4 => ?_) (fun h4 => ?_)
          · rw [show accB x v q = _ from (if_neg h0).trans ((if_neg h1).trans ((if_neg h2).trans ((if_neg h3).trans (if_pos h4))))]
            rfl
          · conv => lhs; whnf
            refine pif_c (fun h5 => ?_) (fun h5 => ?_)
            · rw [show accB x v q = _ from (if_neg h0).trans ((if_neg h1).trans ((if_neg h2).trans ((if_neg h3).trans ((if_neg h4).trans (if_pos h5)))))]
              conv => lhs; whnf
              refine (callK_r (cc1_fibreNow f x v u rg) (by rfl)).trans ?_
              rfl
            · conv => lhs; whnf
              refine pif_c (fun h6 => ?_) (fun h6 => ?_)
              · rw [show accB x v q = _ from (if_neg h0).trans ((if_neg h1).trans ((if_neg h2).trans ((if_neg h3).trans ((if_neg h4).trans ((if_neg h5).trans (if_pos h6))))))]
                rfl
              · conv => lhs; whnf
                refine pif_c (fun h7 => ?_) (fun h7 => ?_)
                · rw [show accB x v q = _ from (if_neg h0).trans ((if_neg h1).trans ((if_neg h2).trans ((if_neg h3).trans ((if_neg h4).trans ((if_neg h5).trans ((if_neg h6).trans (if_pos h7)))))))]
                  rfl
                · rw [show accB x v q = _ from (if_neg h0).trans ((if_neg h1).trans ((if_neg h2).trans ((if_neg h3).trans ((if_neg h4).trans ((if_neg h5).trans ((if_neg h6).trans (if_neg h7)))))))]
                  rfl
theorem ok_F_X8_account (l : Launch) : pFOK l yX8_account (pWs yX8_account cX8_account 2 ((some FieldType.int))) rm_X8_account F_X8_account := by
  refine pFOK_all fun args w rg v0 w' rg' h => ?_
  unfold F_X8_account at h
  split at h
  next q =>
    obtain ⟨f, x, v, u, hw, h2⟩ := unB_some h
    clear h
    subst hw
    by_cases hc : bOK f rg
    · have h2 := (pif_t hc).symm.trans h2
      cases h2
      exact met_of_ex (by decide) (ok_k_X8_account l) rfl (run_X8_account rg f x v u q hc) (Nat.le_of_ble_eq_true rfl) rfl (Nat.le_of_ble_eq_true rfl) (Nat.le_of_ble_eq_true rfl) (Nat.zero_le _) rfl rfl
    · have h2 := (pif_f hc).symm.trans h2
      cases h2
  next => cases h
theorem rc_F_X8_account : pRcv 8 F_X8_account := by
  intro as w rg o h
  obtain ⟨v0, w', rg'⟩ := o
  unfold F_X8_account at h
  split at h
  next =>
    obtain ⟨f, x, v, u, rfl, -⟩ := unB_some h
    exact ⟨_, _, _, rfl, cellOf_get rfl⟩
  next => cases h
theorem cl_X8_account (f : Nat → Option Nat) (x v u : pLV) (q : Int32) (rg : pRg) (hc : bOK f rg) : F_X8_account [.ref 0, .int q] (cw f x v u) rg = some (some (.int (accB (NX x) (NL v) q)), cw f ((NX x)) ((NL v)) ((NL u)), rg) := pif_t hc
end
