noncomputable section
def accR (m : pLV) (q : Int32) : Int32 := if q = 0 then m 1 30 else if q = 1 then m 1 31 else if q = 2 then apM m else if q = 3 then m 1 32 else if q = 4 then m 1 33 else if q = 5 then icM m else if q = 6 then 400 else if q = 7 then m 1 34 else -1
theorem dX9_account_0 : decode cX9_account 0 = .ok (.iload_n 1, 1) := by decide +kernel
theorem dX9_account_1 : decode cX9_account 1 = .ok (.tableswitch 101 0 7 #[47, 55, 63, 68, 76, 84, 89, 93], 47) := by decide +kernel
theorem dX9_account_48 : decode cX9_account 48 = .ok (.aload_n 0, 1) := by decide +kernel
theorem dX9_account_49 : decode cX9_account 49 = .ok (.getfield 7, 3) := by decide +kernel
theorem dX9_account_52 : decode cX9_account 52 = .ok (.bipush 30, 2) := by decide +kernel
theorem dX9_account_54 : decode cX9_account 54 = .ok (.iaload, 1) := by decide +kernel
theorem dX9_account_55 : decode cX9_account 55 = .ok (.ireturn, 1) := by decide +kernel
theorem dX9_account_56 : decode cX9_account 56 = .ok (.aload_n 0, 1) := by decide +kernel
theorem dX9_account_57 : decode cX9_account 57 = .ok (.getfield 7, 3) := by decide +kernel
theorem dX9_account_60 : decode cX9_account 60 = .ok (.bipush 31, 2) := by decide +kernel
theorem dX9_account_62 : decode cX9_account 62 = .ok (.iaload, 1) := by decide +kernel
theorem dX9_account_63 : decode cX9_account 63 = .ok (.ireturn, 1) := by decide +kernel
theorem dX9_account_64 : decode cX9_account 64 = .ok (.aload_n 0, 1) := by decide +kernel
theorem dX9_account_65 : decode cX9_account 65 = .ok (.invokevirtual 156, 3) := by decide +kernel
theorem dX9_account_68 : decode cX9_account 68 = .ok (.ireturn, 1) := by decide +kernel
theorem dX9_account_69 : decode cX9_account 69 = .ok (.aload_n 0, 1) := by decide +kernel
theorem dX9_account_70 : decode cX9_account 70 = .ok (.getfield 7, 3) := by decide +kernel
theorem dX9_account_73 : decode cX9_account 73 = .ok (.bipush 32, 2) := by decide +kernel
theorem dX9_account_75 : decode cX9_account 75 = .ok (.iaload, 1) := by decide +kernel
theorem dX9_account_76 : decode cX9_account 76 = .ok (.ireturn, 1) := by decide +kernel
theorem dX9_account_77 : decode cX9_account 77 = .ok (.aload_n 0, 1) := by decide +kernel
theorem dX9_account_78 : decode cX9_account 78 = .ok (.getfield 7, 3) := by decide +kernel
theorem dX9_account_81 : decode cX9_account 81 = .ok (.bipush 33, 2) := by decide +kernel
theorem dX9_account_83 : decode cX9_account 83 = .ok (.iaload, 1) := by decide +kernel
theorem dX9_account_84 : decode cX9_account 84 = .ok (.ireturn, 1) := by decide +kernel
theorem dX9_account_85 : decode cX9_account 85 = .ok (.aload_n 0, 1) := by decide +kernel
theorem dX9_account_86 : decode cX9_account 86 = .ok (.invokevirtual 166, 3) := by decide +kernel
theorem dX9_account_89 : decode cX9_account 89 = .ok (.ireturn, 1) := by decide +kernel
theorem dX9_account_90 : decode cX9_account 90 = .ok (.sipush 400, 3) := by decide +kernel
theorem dX9_account_93 : decode cX9_account 93 = .ok (.ireturn, 1) := by decide +kernel
theorem dX9_account_94 : decode cX9_account 94 = .ok (.aload_n 0, 1) := by decide +kernel
theorem dX9_account_95 : decode cX9_account 95 = .ok (.getfield 7, 3) := by decide +kernel
theorem dX9_account_98 : decode cX9_account 98 = .ok (.bipush 34, 2) := by decide +kernel
theorem dX9_account_100 : decode cX9_account 100 = .ok (.iaload, 1) := by decide +kernel
theorem dX9_account_101 : decode cX9_account 101 = .ok (.ireturn, 1) := by decide +kernel
theorem dX9_account_102 : decode cX9_account 102 = .ok (.iconst (-1), 1) := by decide +kernel
theorem dX9_account_103 : decode cX9_account 103 = .ok (.ireturn, 1) := by decide +kernel
def k_X9_account : List pEn := [oIload 1, oSw [(0, 2), (1, 7), (2, 12), (3, 15), (4, 20), (5, 25), (6, 28), (7, 30)] 35, oAload 0, oGet 9 0, oConst (30), oIaldN 30, oIret, oAload 0, oGet 9 0, oConst (31), oIaldN 31, oIret, oAload 0, oCallZ 1 F_X9_allPaper, oIret, oAload 0, oGet 9 0, oConst (32), oIaldN 32, oIret, oAload 0, oGet 9 0, oConst (33), oIaldN 33, oIret, oAload 0, oCallZ 1 F_X9_inChests, oIret, oConst (400), oIret, oAload 0, oGet 9 0, oConst (34), oIaldN 34, oIret, oConst (-1), oIret]
def pc_X9_account (i : Nat) : Nat := ([0, 1, 48, 49, 52, 54, 55, 56, 57, 60, 62, 63, 64, 65, 68, 69, 70, 73, 75, 76, 77, 78, 81, 83, 84, 85, 86, 89, 90, 93, 94, 95, 98, 100, 101, 102, 103] : List Nat).getD i 0
abbrev rm_X9_account : Room := { frames := 1, cells := 0, slots := 0, locals := 20 }
theorem pl_X9_account : pPlain yX9_account 1 := by decide +kernel
set_option maxRecDepth 100000 in
set_option maxHeartbeats 4000000 in
theorem ok_k_X9_account (l : Launch) : ∀ (i : Nat) (en : pEn), k_X9_account[i]? = some en → EOK l cX9_account yX9_account.cls 2 ((some FieldType.int)) rm_X9_account 0 pc_X9_account i en := by
  refine allOK_at ?_
  refine And.intro (okIload_n dX9_account_0 rfl rfl) ?_
  refine And.intro (okTsw dX9_account_1 (by decide) (by rfl) (by intro z h1 h2; have : z = 0 ∨ z = 1 ∨ z = 2 ∨ z = 3 ∨ z = 4 ∨ z = 5 ∨ z = 6 ∨ z = 7 := (by omega); rcases this with rfl | rfl | rfl | rfl | rfl | rfl | rfl | rfl <;> decide)) ?_
  refine And.intro (okAload_n dX9_account_48 rfl rfl) ?_
  refine And.intro (okGet (C := RX9) (T := TX9) (N := 22) dX9_account_49 rfl rfl (by decide) inX9 wm_3_141) ?_
  refine And.intro (okBipush dX9_account_52 rfl (by first | rfl | decide)) ?_
  refine And.intro (okIaldN dX9_account_54 rfl) ?_
  refine And.intro (okIret dX9_account_55 rfl) ?_
  refine And.intro (okAload_n dX9_account_56 rfl rfl) ?_
  refine And.intro (okGet (C := RX9) (T := TX9) (N := 22) dX9_account_57 rfl rfl (by decide) inX9 wm_3_141) ?_
  refine And.intro (okBipush dX9_account_60 rfl (by first | rfl | decide)) ?_
  refine And.intro (okIaldN dX9_account_62 rfl) ?_
  refine And.intro (okIret dX9_account_63 rfl) ?_
  refine And.intro (okAload_n dX9_account_64 rfl rfl) ?_
  refine And.intro (okCallV (y := yX9_allPaper) (T := TX9) (oCallZ_is _ _ _) dX9_account_65 rfl (ok_F_X9_allPaper l) rc_F_X9_allPaper rfl wm_4_64 wm_4_66 wp_28 wm_1_10 wm_4_67 pl_X9_allPaper (by decide)) ?_
  refine And.intro (okIret dX9_account_68 rfl) ?_
  refine And.intro (okAload_n dX9_account_69 rfl rfl) ?_
  refine And.intro (okGet (C := RX9) (T := TX9) (N := 22) dX9_account_70 rfl rfl (by decide) inX9 wm_3_141) ?_
  refine And.intro (okBipush dX9_account_73 rfl (by first | rfl | decide)) ?_
  refine And.intro (okIaldN dX9_account_75 rfl) ?_
  refine And.intro (okIret dX9_account_76 rfl) ?_
  refine And.intro (okAload_n dX9_account_77 rfl rfl) ?_
  refine And.intro (okGet (C := RX9) (T := TX9) (N := 22) dX9_account_78 rfl rfl (by decide) inX9 wm_3_141) ?_
  refine And.intro (okBipush dX9_account_81 rfl (by first | rfl | decide)) ?_
  refine And.intro (okIaldN dX9_account_83 rfl) ?_
  refine And.intro (okIret dX9_account_84 rfl) ?_
  refine And.intro (okAload_n dX9_account_85 rfl rfl) ?_
  refine And.intro (okCallV (y := yX9_inChests) (T := TX9) (oCallZ_is _ _ _) dX9_account_86 rfl (ok_F_X9_inChests l) rc_F_X9_inChests rfl wm_4_132 wm_4_134 wp_37 wm_1_10 wm_4_135 pl_X9_inChests (by decide)) ?_
  refine And.intro (okIret dX9_account_89 rfl) ?_
  refine And.intro (okSipush dX9_account_90 rfl (by first | rfl | decide)) ?_
  refine And.intro (okIret dX9_account_93 rfl) ?_
  refine And.intro (okAload_n dX9_account_94 rfl rfl) ?_
  refine And.intro (okGet (C := RX9) (T := TX9) (N := 22) dX9_account_95 rfl rfl (by decide) inX9 wm_3_141) ?_
  refine And.intro (okBipush dX9_account_98 rfl (by first | rfl | decide)) ?_
  refine And.intro (okIaldN dX9_account_100 rfl) ?_
  refine And.intro (okIret dX9_account_101 rfl) ?_
  refine And.intro (okIconst dX9_account_102 rfl (by first | rfl | decide)) ?_
  refine And.intro (okIret dX9_account_103 rfl) ?_
  exact trivial
def G_X9_account : pG := fun args w => match args with
  | [.ref 0, .int q] => unM w (fun m => some (some (.int (accR m q)), mdl (m)))
  | _ => none
set_option maxHeartbeats 400000 in
set_option maxRecDepth 100000 in
theorem run_X9_account (rg : pRg) (m : pLV) (q : Int32)  : ∃ fu, ex k_X9_account fu 0 [(0, .ref 0), (1, .int q)] [] (mdl m) rg = some (some (.int (accR m q)), mdl (m), rg) := by
  refine ⟨60, ?_⟩
  conv => lhs; whnf
  refine pif_c (fun h0 => ?_) (fun h0 => ?_)
  · rw [show accR m q = _ from if_pos h0] <;> rfl
  · conv => lhs; whnf
    refine pif_c (fun h1 => ?_) (fun h1 => ?_)
    · rw [show accR m q = _ from (if_neg h0).trans (if_pos h1)] <;> rfl
    · conv => lhs; whnf
      refine pif_c (fun h2 => ?_) (fun h2 => ?_)
      · rw [show accR m q = _ from (if_neg h0).trans ((if_neg h1).trans (if_pos h2))]
        conv => lhs; whnf
        refine (callK_r (cl_X9_allPaper m rg) (by rfl)).trans ?_
        rfl
      · conv => lhs; whnf
        refine pif_c (fun h3 => ?_) (fun h3 => ?_)
        · rw [show accR m q = _ from (if_neg h0).trans ((if_neg h1).trans ((if_neg h2).trans (if_pos h3)))] <;> rfl
        · conv => lhs; whnf
          refine pif_c (fun h4 => ?_) (fun h4 => ?_)
          · rw [show accR m q = _ from (if_neg h0).trans ((if_neg h1).trans ((if_neg h2).trans ((if_neg h3).trans (if_pos h4))))] <;> rfl
          · conv => lhs; whnf
            refine pif_c (fun h5 => ?_) (fun h5 => ?_)
            · rw [show accR m q = _ from (if_neg h0).trans ((if_neg h1).trans ((if_neg h2).trans ((if_neg h3).trans ((if_neg h4).trans (if_pos h5)))))]
              conv => lhs; whnf
              refine (callK_r (cl_X9_inChests m rg) (by rfl)).trans ?_
              rfl
            · conv => lhs; whnf
              refine pif_c (fun h6 => ?_) (fun h6 => ?_)
              · rw [show accR m q = _ from (if_neg h0).trans ((if_neg h1).trans ((if_neg h2).trans ((if_neg h3).trans ((if_neg h4).trans ((if_neg h5).trans (if_pos h6))))))] <;> rfl
              · conv => lhs; whnf
                refine pif_c (fun h7 => ?_) (fun h7 => ?_)
                · rw [show accR m q = _ from (if_neg h0).trans ((if_neg h1).trans ((if_neg h2).trans ((if_neg h3).trans ((if_neg h4).trans ((if_neg h5).trans ((if_neg h6).trans (if_pos h7)))))))] <;> rfl
                · rw [show accR m q = _ from (if_neg h0).trans ((if_neg h1).trans ((if_neg h2).trans ((if_neg h3).trans ((if_neg h4).trans ((if_neg h5).trans ((if_neg h6).trans (if_neg h7)))))))] <;> rfl
theorem ct_X9_account (l : Launch) : ∀ args0 w0 v0 w1 rg, G_X9_account args0 w0 = some (v0, w1) → pCT l yX9_account (pWs yX9_account cX9_account 2 ((some FieldType.int))) rm_X9_account args0 w0 rg (v0, w1, rg) := by
  intro args0 w0 v0 w1 rg h
  unfold G_X9_account at h
  split at h
  next q =>
    obtain ⟨m, hw, h2⟩ := unM_some h
    clear h
    subst hw
    cases h2
    exact met_of_exM (by decide) (ok_k_X9_account l) rfl (run_X9_account rg m q ) (Nat.le_of_ble_eq_true rfl) rfl rfl
  next => cases h
def F_X9_account : pF := faN G_X9_account
theorem ok_F_X9_account (l : Launch) : pFOK l yX9_account (pWs yX9_account cX9_account 2 ((some FieldType.int))) rm_X9_account F_X9_account := pFOK_fa (fun a b c d rg h => ct_X9_account l a b c d rg h)
theorem rc_F_X9_account : pRcv 9 F_X9_account := pRcv_fa (fun a b c d h => by
  unfold G_X9_account at h
  split at h
  next =>
    obtain ⟨m, rfl, h⟩ := unM_some h
    exact ⟨_, _, _, rfl, rfl⟩
  next => cases h)
theorem cl_X9_account (m : pLV) (q : Int32) (rg : pRg) : F_X9_account [.ref 0, .int q] (mdl m) rg = some (some (.int (accR (NM m) q)), mdl ((NM m)), rg) := rfl
end
