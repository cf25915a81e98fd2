noncomputable section
/-! THE LAW'S areAlike -/
def FBo_X8_told : pF := FB 0 F_X8_told
theorem ok_FBo_X8_told (l : Launch) : pFOK l yX8_told (pWs yX8_told cX8_told 2 ((some FieldType.int))) rm_X8_told FBo_X8_told := pFOK_FB BOK_0 (ok_F_X8_told l)
theorem rc_FBo_X8_told : pRcv 8 FBo_X8_told := rc_FB _
def FBq_X8_told : pF := FB 179 F_X8_told
theorem ok_FBq_X8_told (l : Launch) : pFOK l yX8_told (pWs yX8_told cX8_told 2 ((some FieldType.int))) rm_X8_told FBq_X8_told := pFOK_FB BOK_179 (ok_F_X8_told l)
theorem rc_FBq_X8_told : pRcv 8 FBq_X8_told := rc_FB _
def FBo_X8_chest : pF := FB 0 F_X8_chest
theorem ok_FBo_X8_chest (l : Launch) : pFOK l yX8_chest (pWs yX8_chest cX8_chest 4 ((some FieldType.int))) rm_X8_chest FBo_X8_chest := pFOK_FB BOK_0 (ok_F_X8_chest l)
theorem rc_FBo_X8_chest : pRcv 8 FBo_X8_chest := rc_FB _
def FBq_X8_chest : pF := FB 179 F_X8_chest
theorem ok_FBq_X8_chest (l : Launch) : pFOK l yX8_chest (pWs yX8_chest cX8_chest 4 ((some FieldType.int))) rm_X8_chest FBq_X8_chest := pFOK_FB BOK_179 (ok_F_X8_chest l)
theorem rc_FBq_X8_chest : pRcv 8 FBq_X8_chest := rc_FB _
def FBo_X8_account : pF := FB 0 F_X8_account
theorem ok_FBo_X8_account (l : Launch) : pFOK l yX8_account (pWs yX8_account cX8_account 2 ((some FieldType.int))) rm_X8_account FBo_X8_account := pFOK_FB BOK_0 (ok_F_X8_account l)
theorem rc_FBo_X8_account : pRcv 8 FBo_X8_account := rc_FB _
def FBq_X8_account : pF := FB 179 F_X8_account
theorem ok_FBq_X8_account (l : Launch) : pFOK l yX8_account (pWs yX8_account cX8_account 2 ((some FieldType.int))) rm_X8_account FBq_X8_account := pFOK_FB BOK_179 (ok_F_X8_account l)
theorem rc_FBq_X8_account : pRcv 8 FBq_X8_account := rc_FB _
def FBo_X8_paperShare : pF := FB 0 F_X8_paperShare
theorem ok_FBo_X8_paperShare (l : Launch) : pFOK l yX8_paperShare (pWs yX8_paperShare cX8_paperShare 3 ((some FieldType.float))) rm_X8_paperShare FBo_X8_paperShare := pFOK_FB BOK_0 (ok_F_X8_paperShare l)
theorem rc_FBo_X8_paperShare : pRcv 8 FBo_X8_paperShare := rc_FB _
def FBq_X8_paperShare : pF := FB 179 F_X8_paperShare
theorem ok_FBq_X8_paperShare (l : Launch) : pFOK l yX8_paperShare (pWs yX8_paperShare cX8_paperShare 3 ((some FieldType.float))) rm_X8_paperShare FBq_X8_paperShare := pFOK_FB BOK_179 (ok_F_X8_paperShare l)
theorem rc_FBq_X8_paperShare : pRcv 8 FBq_X8_paperShare := rc_FB _
def FBo_X8_overflow : pF := FB 0 F_X8_overflow
theorem ok_FBo_X8_overflow (l : Launch) : pFOK l yX8_overflow (pWs yX8_overflow cX8_overflow 2 ((some FieldType.int))) rm_X8_overflow FBo_X8_overflow := pFOK_FB BOK_0 (ok_F_X8_overflow l)
theorem rc_FBo_X8_overflow : pRcv 8 FBo_X8_overflow := rc_FB _
def FBq_X8_overflow : pF := FB 179 F_X8_overflow
theorem ok_FBq_X8_overflow (l : Launch) : pFOK l yX8_overflow (pWs yX8_overflow cX8_overflow 2 ((some FieldType.int))) rm_X8_overflow FBq_X8_overflow := pFOK_FB BOK_179 (ok_F_X8_overflow l)
theorem rc_FBq_X8_overflow : pRcv 8 FBq_X8_overflow := rc_FB _
def FBo_X8_bestLimit : pF := FB 0 F_X8_bestLimit
theorem ok_FBo_X8_bestLimit (l : Launch) : pFOK l yX8_bestLimit (pWs yX8_bestLimit cX8_bestLimit 6 ((some FieldType.int))) rm_X8_bestLimit FBo_X8_bestLimit := pFOK_FB BOK_0 (ok_F_X8_bestLimit l)
theorem rc_FBo_X8_bestLimit : pRcv 8 FBo_X8_bestLimit := rc_FB _
def FBq_X8_bestLimit : pF := FB 179 F_X8_bestLimit
theorem ok_FBq_X8_bestLimit (l : Launch) : pFOK l yX8_bestLimit (pWs yX8_bestLimit cX8_bestLimit 6 ((some FieldType.int))) rm_X8_bestLimit FBq_X8_bestLimit := pFOK_FB BOK_179 (ok_F_X8_bestLimit l)
theorem rc_FBq_X8_bestLimit : pRcv 8 FBq_X8_bestLimit := rc_FB _
theorem lawP_nh (b : Nat) (x v u : pLV) (h : Nat → pLV) : lawP b (NX x) (NL v) (NL u) (NHm h) = lawP b x v u h := rfl
theorem lawP_nhu (b : Nat) (x v u u' : pLV) (h : Nat → pLV) : lawP b (NX x) (NL v) u' (NHm h) = lawP b x v u' h := rfl
theorem lawW_o (x v u : pLV) (h : Nat → pLV) (x2 v2 u2 : pLV) (h2 : Nat → pLV) (u' : pLV) : lawW (NX x) (NL v) u' (NHm h) x2 v2 u2 h2 = lawW x v u' h x2 v2 u2 h2 := by
  unfold lawW
  rw [lawP_nhu 0 x v u]
theorem lawW_q (x v u : pLV) (h : Nat → pLV) (x2 v2 u2 : pLV) (h2 : Nat → pLV) (u' : pLV) : lawW x v u h (NX x2) (NL v2) u' (NHm h2) = lawW x v u h x2 v2 u' h2 := by
  unfold lawW
  rw [lawP_nhu 179 x2 v2 u2]
theorem lawW_ou (x v u : pLV) (h : Nat → pLV) (x2 v2 u2 : pLV) (h2 : Nat → pLV) : lawW x v (NL u) h x2 v2 u2 h2 = lawW x v u h x2 v2 u2 h2 := rfl
theorem lawW_qu (x v u : pLV) (h : Nat → pLV) (x2 v2 u2 : pLV) (h2 : Nat → pLV) : lawW x v u h x2 v2 (NL u2) h2 = lawW x v u h x2 v2 u2 h2 := rfl
def bestU (v u : pLV) (n : Int32) : pLV := cbestLimit_U zL (NL v) (NL u) (fun _ => zL) n
section RD
variable (x v u : pLV) (h : Nat → pLV) (x2 v2 u2 : pLV) (h2 : Nat → pLV) (rg : pRg)
theorem ro_told (q : Int32) : FBo_X8_told [.ref 0, .int q] (lawW x v u h x2 v2 u2 h2) rg = some (some (.int (tolB x v q)), lawW x v u h x2 v2 u2 h2, rg) := by
  have g := FB_o (x := x) (v := v) (u := u) (h := h) (x2 := x2) (v2 := v2) (u2 := u2) (h2 := h2) (rg := rg) (rd_told hs0 (NX x) (NL v) (NL u) q (10, NHm h) (hs0_ok _)) rfl rfl
  rw [lawW_o x v u h x2 v2 u2 h2, lawW_ou] at g
  exact g
theorem ro_account (q : Int32) : FBo_X8_account [.ref 0, .int q] (lawW x v u h x2 v2 u2 h2) rg = some (some (.int (accB x v q)), lawW x v u h x2 v2 u2 h2, rg) := by
  have g := FB_o (x := x) (v := v) (u := u) (h := h) (x2 := x2) (v2 := v2) (u2 := u2) (h2 := h2) (rg := rg) (rd_account hs0 (NX x) (NL v) (NL u) q (10, NHm h) (hs0_ok _)) rfl rfl
  rw [lawW_o x v u h x2 v2 u2 h2, lawW_ou] at g
  exact g
theorem ro_paperShare : FBo_X8_paperShare [.ref 0] (lawW x v u h x2 v2 u2 h2) rg = some (some (.float (psI (sumP (v 2) 4) (sumP (v 2) 4 + v 0 26))), lawW x v u h x2 v2 u2 h2, rg) := by
  have g := FB_o (x := x) (v := v) (u := u) (h := h) (x2 := x2) (v2 := v2) (u2 := u2) (h2 := h2) (rg := rg) (rd_share hs0 (NX x) (NL v) (NL u) (10, NHm h) (hs0_ok _)) rfl rfl
  rw [lawW_o x v u h x2 v2 u2 h2, lawW_ou] at g
  exact g
theorem ro_chest (c a : Int32) : FBo_X8_chest [.ref 0, .int c, .int a] (lawW x v u h x2 v2 u2 h2) rg = some (some (.int (chsB (NX x) (NL v) c a)), lawW x v u h x2 v2 u2 h2, rg) := by
  have g := FB_o (x := x) (v := v) (u := u) (h := h) (x2 := x2) (v2 := v2) (u2 := u2) (h2 := h2) (rg := rg) (cl_X8_chest hs0 (NX x) (NL v) (NL u) c a (10, NHm h) (hs0_ok _)) rfl rfl
  exact g
theorem ro_overflow : FBo_X8_overflow [.ref 0] (lawW x v u h x2 v2 u2 h2) rg = some (some (.int (ovR 300 1 (brkV (cpyV (NL u) (NL v)) 300))), lawW x v (ovU 300 (brkV (cpyV (NL u) (NL v)) 300)) h x2 v2 u2 h2, rg) := by
  have g := FB_o (x := x) (v := v) (u := u) (h := h) (x2 := x2) (v2 := v2) (u2 := u2) (h2 := h2) (rg := rg) (cl_X8_overflow hs0 (NX x) (NL v) (NL u) (10, NHm h) (hs0_ok _)) rfl rfl
  exact g
theorem ro_best (n : Int32) : FBo_X8_bestLimit [.ref 0, .int n] (lawW x v u h x2 v2 u2 h2) rg = some (some (.int (cbestLimit_R zL (NL v) (NL u) (fun _ => zL) n)), lawW x v (bestU v u n) h x2 v2 u2 h2, rg) := by
  have g := FB_o (x := x) (v := v) (u := u) (h := h) (x2 := x2) (v2 := v2) (u2 := u2) (h2 := h2) (rg := rg) (cl_X8_bestLimit hs0 (NX x) (NL v) (NL u) n (10, NHm h) (hs0_ok _)) rfl rfl
  exact g
theorem rq_told (q : Int32) : FBq_X8_told [.ref 179, .int q] (lawW x v u h x2 v2 u2 h2) rg = some (some (.int (tolB x2 v2 q)), lawW x v u h x2 v2 u2 h2, rg) := by
  have g := FB_q (x := x) (v := v) (u := u) (h := h) (x2 := x2) (v2 := v2) (u2 := u2) (h2 := h2) (rg := rg) (rd_told hs0 (NX x2) (NL v2) (NL u2) q (10, NHm h2) (hs0_ok _)) rfl rfl
  rw [lawW_q x v u h x2 v2 u2 h2, lawW_qu] at g
  exact g
theorem rq_account (q : Int32) : FBq_X8_account [.ref 179, .int q] (lawW x v u h x2 v2 u2 h2) rg = some (some (.int (accB x2 v2 q)), lawW x v u h x2 v2 u2 h2, rg) := by
  have g := FB_q (x := x) (v := v) (u := u) (h := h) (x2 := x2) (v2 := v2) (u2 := u2) (h2 := h2) (rg := rg) (rd_account hs0 (NX x2) (NL v2) (NL u2) q (10, NHm h2) (hs0_ok _)) rfl rfl
  rw [lawW_q x v u h x2 v2 u2 h2, lawW_qu] at g
  exact g
theorem rq_paperShare : FBq_X8_paperShare [.ref 179] (lawW x v u h x2 v2 u2 h2) rg = some (some (.float (psI (sumP (v2 2) 4) (sumP (v2 2) 4 + v2 0 26))), lawW x v u h x2 v2 u2 h2, rg) := by
  have g := FB_q (x := x) (v := v) (u := u) (h := h) (x2 := x2) (v2 := v2) (u2 := u2) (h2 := h2) (rg := rg) (rd_share hs0 (NX x2) (NL v2) (NL u2) (10, NHm h2) (hs0_ok _)) rfl rfl
  rw [lawW_q x v u h x2 v2 u2 h2, lawW_qu] at g
  exact g
theorem rq_chest (c a : Int32) : FBq_X8_chest [.ref 179, .int c, .int a] (lawW x v u h x2 v2 u2 h2) rg = some (some (.int (chsB (NX x2) (NL v2) c a)), lawW x v u h x2 v2 u2 h2, rg) := by
  have g := FB_q (x := x) (v := v) (u := u) (h := h) (x2 := x2) (v2 := v2) (u2 := u2) (h2 := h2) (rg := rg) (cl_X8_chest hs0 (NX x2) (NL v2) (NL u2) c a (10, NHm h2) (hs0_ok _)) rfl rfl
  exact g
theorem rq_overflow : FBq_X8_overflow [.ref 179] (lawW x v u h x2 v2 u2 h2) rg = some (some (.int (ovR 300 1 (brkV (cpyV (NL u2) (NL v2)) 300))), lawW x v u h x2 v2 (ovU 300 (brkV (cpyV (NL u2) (NL v2)) 300)) h2, rg) := by
  have g := FB_q (x := x) (v := v) (u := u) (h := h) (x2 := x2) (v2 := v2) (u2 := u2) (h2 := h2) (rg := rg) (cl_X8_overflow hs0 (NX x2) (NL v2) (NL u2) (10, NHm h2) (hs0_ok _)) rfl rfl
  exact g
theorem rq_best (n : Int32) : FBq_X8_bestLimit [.ref 179, .int n] (lawW x v u h x2 v2 u2 h2) rg = some (some (.int (cbestLimit_R zL (NL v2) (NL u2) (fun _ => zL) n)), lawW x v u h x2 v2 (bestU v2 u2 n) h2, rg) := by
  have g := FB_q (x := x) (v := v) (u := u) (h := h) (x2 := x2) (v2 := v2) (u2 := u2) (h2 := h2) (rg := rg) (cl_X8_bestLimit hs0 (NX x2) (NL v2) (NL u2) n (10, NHm h2) (hs0_ok _)) rfl rfl
  exact g
end RD
theorem dL_areAlike_0 : decode cL_areAlike 0 = .ok (.aload_n 0, 1) := by decide +kernel
theorem dL_areAlike_1 : decode cL_areAlike 1 = .ok (.invokevirtual 79, 3) := by decide +kernel
theorem dL_areAlike_4 : decode cL_areAlike 4 = .ok (.aload_n 1, 1) := by decide +kernel
theorem dL_areAlike_5 : decode cL_areAlike 5 = .ok (.invokevirtual 79, 3) := by decide +kernel
theorem dL_areAlike_8 : decode cL_areAlike 8 = .ok (.fcmp .l, 1) := by decide +kernel
theorem dL_areAlike_9 : decode cL_areAlike 9 = .ok (.ifCond .ne 33, 3) := by decide +kernel
theorem dL_areAlike_12 : decode cL_areAlike 12 = .ok (.aload_n 0, 1) := by decide +kernel
theorem dL_areAlike_13 : decode cL_areAlike 13 = .ok (.invokevirtual 95, 3) := by decide +kernel
theorem dL_areAlike_16 : decode cL_areAlike 16 = .ok (.aload_n 1, 1) := by decide +kernel
theorem dL_areAlike_17 : decode cL_areAlike 17 = .ok (.invokevirtual 95, 3) := by decide +kernel
theorem dL_areAlike_20 : decode cL_areAlike 20 = .ok (.if_icmp .ne 22, 3) := by decide +kernel
theorem dL_areAlike_23 : decode cL_areAlike 23 = .ok (.aload_n 0, 1) := by decide +kernel
theorem dL_areAlike_24 : decode cL_areAlike 24 = .ok (.bipush 9, 2) := by decide +kernel
theorem dL_areAlike_26 : decode cL_areAlike 26 = .ok (.invokevirtual 98, 3) := by decide +kernel
theorem dL_areAlike_29 : decode cL_areAlike 29 = .ok (.aload_n 1, 1) := by decide +kernel
theorem dL_areAlike_30 : decode cL_areAlike 30 = .ok (.bipush 9, 2) := by decide +kernel
theorem dL_areAlike_32 : decode cL_areAlike 32 = .ok (.invokevirtual 98, 3) := by decide +kernel
theorem dL_areAlike_35 : decode cL_areAlike 35 = .ok (.if_icmp .ne 7, 3) := by decide +kernel
theorem dL_areAlike_38 : decode cL_areAlike 38 = .ok (.iconst 1, 1) := by decide +kernel
theorem dL_areAlike_39 : decode cL_areAlike 39 = .ok (.goto 4, 3) := by decide +kernel
theorem dL_areAlike_42 : decode cL_areAlike 42 = .ok (.iconst 0, 1) := by decide +kernel
theorem dL_areAlike_43 : decode cL_areAlike 43 = .ok (.istore_n 2, 1) := by decide +kernel
theorem dL_areAlike_44 : decode cL_areAlike 44 = .ok (.iconst 0, 1) := by decide +kernel
theorem dL_areAlike_45 : decode cL_areAlike 45 = .ok (.istore_n 3, 1) := by decide +kernel
theorem dL_areAlike_46 : decode cL_areAlike 46 = .ok (.iload_n 3, 1) := by decide +kernel
theorem dL_areAlike_47 : decode cL_areAlike 47 = .ok (.bipush 11, 2) := by decide +kernel
theorem dL_areAlike_49 : decode cL_areAlike 49 = .ok (.if_icmp .ge 32, 3) := by decide +kernel
theorem dL_areAlike_52 : decode cL_areAlike 52 = .ok (.iload_n 2, 1) := by decide +kernel
theorem dL_areAlike_53 : decode cL_areAlike 53 = .ok (.ifCond .eq 20, 3) := by decide +kernel
theorem dL_areAlike_56 : decode cL_areAlike 56 = .ok (.aload_n 0, 1) := by decide +kernel
theorem dL_areAlike_57 : decode cL_areAlike 57 = .ok (.iload_n 3, 1) := by decide +kernel
theorem dL_areAlike_58 : decode cL_areAlike 58 = .ok (.invokevirtual 83, 3) := by decide +kernel
theorem dL_areAlike_61 : decode cL_areAlike 61 = .ok (.aload_n 1, 1) := by decide +kernel
theorem dL_areAlike_62 : decode cL_areAlike 62 = .ok (.iload_n 3, 1) := by decide +kernel
theorem dL_areAlike_63 : decode cL_areAlike 63 = .ok (.invokevirtual 83, 3) := by decide +kernel
theorem dL_areAlike_66 : decode cL_areAlike 66 = .ok (.if_icmp .ne 7, 3) := by decide +kernel
theorem dL_areAlike_69 : decode cL_areAlike 69 = .ok (.iconst 1, 1) := by decide +kernel
theorem dL_areAlike_70 : decode cL_areAlike 70 = .ok (.goto 4, 3) := by decide +kernel
theorem dL_areAlike_73 : decode cL_areAlike 73 = .ok (.iconst 0, 1) := by decide +kernel
theorem dL_areAlike_74 : decode cL_areAlike 74 = .ok (.istore_n 2, 1) := by decide +kernel
theorem dL_areAlike_75 : decode cL_areAlike 75 = .ok (.iinc 3 1, 3) := by decide +kernel
theorem dL_areAlike_78 : decode cL_areAlike 78 = .ok (.goto (-32), 3) := by decide +kernel
theorem dL_areAlike_81 : decode cL_areAlike 81 = .ok (.iconst 0, 1) := by decide +kernel
theorem dL_areAlike_82 : decode cL_areAlike 82 = .ok (.istore_n 3, 1) := by decide +kernel
theorem dL_areAlike_83 : decode cL_areAlike 83 = .ok (.iload_n 3, 1) := by decide +kernel
theorem dL_areAlike_84 : decode cL_areAlike 84 = .ok (.iconst 4, 1) := by decide +kernel
theorem dL_areAlike_85 : decode cL_areAlike 85 = .ok (.if_icmp .ge 51, 3) := by decide +kernel
theorem dL_areAlike_88 : decode cL_areAlike 88 = .ok (.iconst 0, 1) := by decide +kernel
theorem dL_areAlike_89 : decode cL_areAlike 89 = .ok (.istore 4, 2) := by decide +kernel
theorem dL_areAlike_91 : decode cL_areAlike 91 = .ok (.iload 4, 2) := by decide +kernel
theorem dL_areAlike_93 : decode cL_areAlike 93 = .ok (.iconst 5, 1) := by decide +kernel
theorem dL_areAlike_94 : decode cL_areAlike 94 = .ok (.if_icmp .ge 36, 3) := by decide +kernel
theorem dL_areAlike_97 : decode cL_areAlike 97 = .ok (.iload_n 2, 1) := by decide +kernel
theorem dL_areAlike_98 : decode cL_areAlike 98 = .ok (.ifCond .eq 24, 3) := by decide +kernel
theorem dL_areAlike_101 : decode cL_areAlike 101 = .ok (.aload_n 0, 1) := by decide +kernel
theorem dL_areAlike_102 : decode cL_areAlike 102 = .ok (.iload_n 3, 1) := by decide +kernel
theorem dL_areAlike_103 : decode cL_areAlike 103 = .ok (.iload 4, 2) := by decide +kernel
theorem dL_areAlike_105 : decode cL_areAlike 105 = .ok (.invokevirtual 67, 3) := by decide +kernel
theorem dL_areAlike_108 : decode cL_areAlike 108 = .ok (.aload_n 1, 1) := by decide +kernel
theorem dL_areAlike_109 : decode cL_areAlike 109 = .ok (.iload_n 3, 1) := by decide +kernel
theorem dL_areAlike_110 : decode cL_areAlike 110 = .ok (.iload 4, 2) := by decide +kernel
theorem dL_areAlike_112 : decode cL_areAlike 112 = .ok (.invokevirtual 67, 3) := by decide +kernel
theorem dL_areAlike_115 : decode cL_areAlike 115 = .ok (.if_icmp .ne 7, 3) := by decide +kernel
theorem dL_areAlike_118 : decode cL_areAlike 118 = .ok (.iconst 1, 1) := by decide +kernel
theorem dL_areAlike_119 : decode cL_areAlike 119 = .ok (.goto 4, 3) := by decide +kernel
theorem dL_areAlike_122 : decode cL_areAlike 122 = .ok (.iconst 0, 1) := by decide +kernel
theorem dL_areAlike_123 : decode cL_areAlike 123 = .ok (.istore_n 2, 1) := by decide +kernel
theorem dL_areAlike_124 : decode cL_areAlike 124 = .ok (.iinc 4 1, 3) := by decide +kernel
theorem dL_areAlike_127 : decode cL_areAlike 127 = .ok (.goto (-36), 3) := by decide +kernel
theorem dL_areAlike_130 : decode cL_areAlike 130 = .ok (.iinc 3 1, 3) := by decide +kernel
theorem dL_areAlike_133 : decode cL_areAlike 133 = .ok (.goto (-50), 3) := by decide +kernel
theorem dL_areAlike_136 : decode cL_areAlike 136 = .ok (.iconst 0, 1) := by decide +kernel
theorem dL_areAlike_137 : decode cL_areAlike 137 = .ok (.istore_n 3, 1) := by decide +kernel
theorem dL_areAlike_138 : decode cL_areAlike 138 = .ok (.iload_n 3, 1) := by decide +kernel
theorem dL_areAlike_139 : decode cL_areAlike 139 = .ok (.bipush 8, 2) := by decide +kernel
theorem dL_areAlike_141 : decode cL_areAlike 141 = .ok (.if_icmp .ge 32, 3) := by decide +kernel
theorem dL_areAlike_144 : decode cL_areAlike 144 = .ok (.iload_n 2, 1) := by decide +kernel
theorem dL_areAlike_145 : decode cL_areAlike 145 = .ok (.ifCond .eq 20, 3) := by decide +kernel
theorem dL_areAlike_148 : decode cL_areAlike 148 = .ok (.aload_n 0, 1) := by decide +kernel
theorem dL_areAlike_149 : decode cL_areAlike 149 = .ok (.iload_n 3, 1) := by decide +kernel
theorem dL_areAlike_150 : decode cL_areAlike 150 = .ok (.invokevirtual 76, 3) := by decide +kernel
theorem dL_areAlike_153 : decode cL_areAlike 153 = .ok (.aload_n 1, 1) := by decide +kernel
theorem dL_areAlike_154 : decode cL_areAlike 154 = .ok (.iload_n 3, 1) := by decide +kernel
theorem dL_areAlike_155 : decode cL_areAlike 155 = .ok (.invokevirtual 76, 3) := by decide +kernel
theorem dL_areAlike_158 : decode cL_areAlike 158 = .ok (.if_icmp .ne 7, 3) := by decide +kernel
theorem dL_areAlike_161 : decode cL_areAlike 161 = .ok (.iconst 1, 1) := by decide +kernel
theorem dL_areAlike_162 : decode cL_areAlike 162 = .ok (.goto 4, 3) := by decide +kernel
theorem dL_areAlike_165 : decode cL_areAlike 165 = .ok (.iconst 0, 1) := by decide +kernel
theorem dL_areAlike_166 : decode cL_areAlike 166 = .ok (.istore_n 2, 1) := by decide +kernel
theorem dL_areAlike_167 : decode cL_areAlike 167 = .ok (.iinc 3 1, 3) := by decide +kernel
theorem dL_areAlike_170 : decode cL_areAlike 170 = .ok (.goto (-32), 3) := by decide +kernel
theorem dL_areAlike_173 : decode cL_areAlike 173 = .ok (.iload_n 2, 1) := by decide +kernel
theorem dL_areAlike_174 : decode cL_areAlike 174 = .ok (.ireturn, 1) := by decide +kernel
def k_L_areAlike : List pEn := [oAload 0, oCallZ 1 FBo_X8_paperShare, oAload 1, oCallZ 1 FBq_X8_paperShare, oFcmpL, oIfne 20, oAload 0, oCallZ 1 FBo_X8_overflow, oAload 1, oCallZ 1 FBq_X8_overflow, oCne 20, oAload 0, oConst (9), oCallZ 2 FBo_X8_bestLimit, oAload 1, oConst (9), oCallZ 2 FBq_X8_bestLimit, oCne 20, oConst (1), oGoto 21, oConst (0), oIstore 2, oConst (0), oIstore 3, oIload 3, oConst (11), oCge 42, oIload 2, oIfeq 38, oAload 0, oIload 3, oCallZ 2 FBo_X8_told, oAload 1, oIload 3, oCallZ 2 FBq_X8_told, oCne 38, oConst (1), oGoto 39, oConst (0), oIstore 2, oIinc 3 (1), oGoto 24, oConst (0), oIstore 3, oIload 3, oConst (4), oCge 71, oConst (0), oIstore 4, oIload 4, oConst (5), oCge 69, oIload 2, oIfeq 65, oAload 0, oIload 3, oIload 4, oCallZ 3 FBo_X8_chest, oAload 1, oIload 3, oIload 4, oCallZ 3 FBq_X8_chest, oCne 65, oConst (1), oGoto 66, oConst (0), oIstore 2, oIinc 4 (1), oGoto 49, oIinc 3 (1), oGoto 44, oConst (0), oIstore 3, oIload 3, oConst (8), oCge 91, oIload 2, oIfeq 87, oAload 0, oIload 3, oCallZ 2 FBo_X8_account, oAload 1, oIload 3, oCallZ 2 FBq_X8_account, oCne 87, oConst (1), oGoto 88, oConst (0), oIstore 2, oIinc 3 (1), oGoto 73, oIload 2, oZret]
def pc_L_areAlike (i : Nat) : Nat := ([0, 1, 4, 5, 8, 9, 12, 13, 16, 17, 20, 23, 24, 26, 29, 30, 32, 35, 38, 39, 42, 43, 44, 45, 46, 47, 49, 52, 53, 56, 57, 58, 61, 62, 63, 66, 69, 70, 73, 74, 75, 78, 81, 82, 83, 84, 85, 88, 89, 91, 93, 94, 97, 98, 101, 102, 103, 105, 108, 109, 110, 112, 115, 118, 119, 122, 123, 124, 127, 130, 133, 136, 137, 138, 139, 141, 144, 145, 148, 149, 150, 153, 154, 155, 158, 161, 162, 165, 166, 167, 170, 173, 174] : List Nat).getD i 0
abbrev rm_L_areAlike : Room := { frames := 7, cells := 0, slots := 0, locals := 164 }
theorem pl_L_areAlike : pPlain yL_areAlike 2 := by decide +kernel
set_option maxRecDepth 100000 in
set_option maxHeartbeats 4000000 in
theorem ok_k_L_areAlike (l : Launch) : ∀ (i : Nat) (en : pEn), k_L_areAlike[i]? = some en → EOK l cL_areAlike yL_areAlike.cls 5 ((some FieldType.boolean)) rm_L_areAlike 0 pc_L_areAlike i en := by
  refine allOK_at ?_
  refine And.intro (okAload_n dL_areAlike_0 rfl rfl) ?_
  refine And.intro (okCallV (y := yX8_paperShare) (T := TX8) (oCallZ_is _ _ _) dL_areAlike_1 rfl (ok_FBo_X8_paperShare l) rc_FBo_X8_paperShare rfl wn_3_113 wm_3_102 wm_3_103 wm_1_1 wm_3_104 pl_X8_paperShare (by decide)) ?_
  refine And.intro (okAload_n dL_areAlike_4 rfl rfl) ?_
  refine And.intro (okCallV (y := yX8_paperShare) (T := TX8) (oCallZ_is _ _ _) dL_areAlike_5 rfl (ok_FBq_X8_paperShare l) rc_FBq_X8_paperShare rfl wn_3_113 wm_3_102 wm_3_103 wm_1_1 wm_3_104 pl_X8_paperShare (by decide)) ?_
  refine And.intro (okFcmpL dL_areAlike_8 rfl) ?_
  refine And.intro (okIfne dL_areAlike_9 rfl (by rfl)) ?_
  refine And.intro (okAload_n dL_areAlike_12 rfl rfl) ?_
  refine And.intro (okCallV (y := yX8_overflow) (T := TX8) (oCallZ_is _ _ _) dL_areAlike_13 rfl (ok_FBo_X8_overflow l) rc_FBo_X8_overflow rfl wn_3_150 wm_3_111 wm_3_112 wm_1_1 wm_3_113 pl_X8_overflow (by decide)) ?_
  refine And.intro (okAload_n dL_areAlike_16 rfl rfl) ?_
  refine And.intro (okCallV (y := yX8_overflow) (T := TX8) (oCallZ_is _ _ _) dL_areAlike_17 rfl (ok_FBq_X8_overflow l) rc_FBq_X8_overflow rfl wn_3_150 wm_3_111 wm_3_112 wm_1_1 wm_3_113 pl_X8_overflow (by decide)) ?_
  refine And.intro (okCne dL_areAlike_20 rfl (by rfl)) ?_
  refine And.intro (okAload_n dL_areAlike_23 rfl rfl) ?_
  refine And.intro (okBipush dL_areAlike_24 rfl (by first | rfl | decide)) ?_
  refine And.intro (okCallV (y := yX8_bestLimit) (T := TX8) (oCallZ_is _ _ _) dL_areAlike_26 rfl (ok_FBo_X8_bestLimit l) rc_FBo_X8_bestLimit rfl wn_3_155 wm_3_116 wm_3_117 wm_1_1 wm_3_118 pl_X8_bestLimit (by decide)) ?_
  refine And.intro (okAload_n dL_areAlike_29 rfl rfl) ?_
  refine And.intro (okBipush dL_areAlike_30 rfl (by first | rfl | decide)) ?_
  refine And.intro (okCallV (y := yX8_bestLimit) (T := TX8) (oCallZ_is _ _ _) dL_areAlike_32 rfl (ok_FBq_X8_bestLimit l) rc_FBq_X8_bestLimit rfl wn_3_155 wm_3_116 wm_3_117 wm_1_1 wm_3_118 pl_X8_bestLimit (by decide)) ?_
  refine And.intro (okCne dL_areAlike_35 rfl (by rfl)) ?_
  refine And.intro (okIconst dL_areAlike_38 rfl (by first | rfl | decide)) ?_
  refine And.intro (okGoto dL_areAlike_39 (by rfl)) ?_
  refine And.intro (okIconst dL_areAlike_42 rfl (by first | rfl | decide)) ?_
  refine And.intro (okIstore_n dL_areAlike_43 rfl rfl (by decide)) ?_
  refine And.intro (okIconst dL_areAlike_44 rfl (by first | rfl | decide)) ?_
  refine And.intro (okIstore_n dL_areAlike_45 rfl rfl (by decide)) ?_
  refine And.intro (okIload_n dL_areAlike_46 rfl rfl) ?_
  refine And.intro (okBipush dL_areAlike_47 rfl (by first | rfl | decide)) ?_
  refine And.intro (okCge dL_areAlike_49 rfl (by rfl)) ?_
  refine And.intro (okIload_n dL_areAlike_52 rfl rfl) ?_
  refine And.intro (okIfeq dL_areAlike_53 rfl (by rfl)) ?_
  refine And.intro (okAload_n dL_areAlike_56 rfl rfl) ?_
  refine And.intro (okIload_n dL_areAlike_57 rfl rfl) ?_
  refine And.intro (okCallV (y := yX8_told) (T := TX8) (oCallZ_is _ _ _) dL_areAlike_58 rfl (ok_FBo_X8_told l) rc_FBo_X8_told rfl wn_3_120 wm_3_63 wm_3_64 wm_1_1 wm_3_65 pl_X8_told (by decide)) ?_
  refine And.intro (okAload_n dL_areAlike_61 rfl rfl) ?_
  refine And.intro (okIload_n dL_areAlike_62 rfl rfl) ?_
  refine And.intro (okCallV (y := yX8_told) (T := TX8) (oCallZ_is _ _ _) dL_areAlike_63 rfl (ok_FBq_X8_told l) rc_FBq_X8_told rfl wn_3_120 wm_3_63 wm_3_64 wm_1_1 wm_3_65 pl_X8_told (by decide)) ?_
  refine And.intro (okCne dL_areAlike_66 rfl (by rfl)) ?_
  refine And.intro (okIconst dL_areAlike_69 rfl (by first | rfl | decide)) ?_
  refine And.intro (okGoto dL_areAlike_70 (by rfl)) ?_
  refine And.intro (okIconst dL_areAlike_73 rfl (by first | rfl | decide)) ?_
  refine And.intro (okIstore_n dL_areAlike_74 rfl rfl (by decide)) ?_
  refine And.intro (okIinc dL_areAlike_75 rfl (by first | rfl | decide) (by decide)) ?_
  refine And.intro (okGoto dL_areAlike_78 (by rfl)) ?_
  refine And.intro (okIconst dL_areAlike_81 rfl (by first | rfl | decide)) ?_
  refine And.intro (okIstore_n dL_areAlike_82 rfl rfl (by decide)) ?_
  refine And.intro (okIload_n dL_areAlike_83 rfl rfl) ?_
  refine And.intro (okIconst dL_areAlike_84 rfl (by first | rfl | decide)) ?_
  refine And.intro (okCge dL_areAlike_85 rfl (by rfl)) ?_
  refine And.intro (okIconst dL_areAlike_88 rfl (by first | rfl | decide)) ?_
  refine And.intro (okIstore dL_areAlike_89 rfl (by decide)) ?_
  refine And.intro (okIload dL_areAlike_91 rfl) ?_
  refine And.intro (okIconst dL_areAlike_93 rfl (by first | rfl | decide)) ?_
  refine And.intro (okCge dL_areAlike_94 rfl (by rfl)) ?_
  refine And.intro (okIload_n dL_areAlike_97 rfl rfl) ?_
  refine And.intro (okIfeq dL_areAlike_98 rfl (by rfl)) ?_
  refine And.intro (okAload_n dL_areAlike_101 rfl rfl) ?_
  refine And.intro (okIload_n dL_areAlike_102 rfl rfl) ?_
  refine And.intro (okIload dL_areAlike_103 rfl) ?_
  refine And.intro (okCallV (y := yX8_chest) (T := TX8) (oCallZ_is _ _ _) dL_areAlike_105 rfl (ok_FBo_X8_chest l) rc_FBo_X8_chest rfl wn_3_91 wm_3_79 wm_3_80 wm_1_1 wm_3_81 pl_X8_chest (by decide)) ?_
  refine And.intro (okAload_n dL_areAlike_108 rfl rfl) ?_
  refine And.intro (okIload_n dL_areAlike_109 rfl rfl) ?_
  refine And.intro (okIload dL_areAlike_110 rfl) ?_
  refine And.intro (okCallV (y := yX8_chest) (T := TX8) (oCallZ_is _ _ _) dL_areAlike_112 rfl (ok_FBq_X8_chest l) rc_FBq_X8_chest rfl wn_3_91 wm_3_79 wm_3_80 wm_1_1 wm_3_81 pl_X8_chest (by decide)) ?_
  refine And.intro (okCne dL_areAlike_115 rfl (by rfl)) ?_
  refine And.intro (okIconst dL_areAlike_118 rfl (by first | rfl | decide)) ?_
  refine And.intro (okGoto dL_areAlike_119 (by rfl)) ?_
  refine And.intro (okIconst dL_areAlike_122 rfl (by first | rfl | decide)) ?_
  refine And.intro (okIstore_n dL_areAlike_123 rfl rfl (by decide)) ?_
  refine And.intro (okIinc dL_areAlike_124 rfl (by first | rfl | decide) (by decide)) ?_
  refine And.intro (okGoto dL_areAlike_127 (by rfl)) ?_
  refine And.intro (okIinc dL_areAlike_130 rfl (by first | rfl | decide) (by decide)) ?_
  refine And.intro (okGoto dL_areAlike_133 (by rfl)) ?_
  refine And.intro (okIconst dL_areAlike_136 rfl (by first | rfl | decide)) ?_
  refine And.intro (okIstore_n dL_areAlike_137 rfl rfl (by decide)) ?_
  refine And.intro (okIload_n dL_areAlike_138 rfl rfl) ?_
  refine And.intro (okBipush dL_areAlike_139 rfl (by first | rfl | decide)) ?_
  refine And.intro (okCge dL_areAlike_141 rfl (by rfl)) ?_
  refine And.intro (okIload_n dL_areAlike_144 rfl rfl) ?_
  refine And.intro (okIfeq dL_areAlike_145 rfl (by rfl)) ?_
  refine And.intro (okAload_n dL_areAlike_148 rfl rfl) ?_
  refine And.intro (okIload_n dL_areAlike_149 rfl rfl) ?_
  refine And.intro (okCallV (y := yX8_account) (T := TX8) (oCallZ_is _ _ _) dL_areAlike_150 rfl (ok_FBo_X8_account l) rc_FBo_X8_account rfl wn_3_104 wm_3_85 wm_3_86 wm_1_1 wm_3_87 pl_X8_account (by decide)) ?_
  refine And.intro (okAload_n dL_areAlike_153 rfl rfl) ?_
  refine And.intro (okIload_n dL_areAlike_154 rfl rfl) ?_
  refine And.intro (okCallV (y := yX8_account) (T := TX8) (oCallZ_is _ _ _) dL_areAlike_155 rfl (ok_FBq_X8_account l) rc_FBq_X8_account rfl wn_3_104 wm_3_85 wm_3_86 wm_1_1 wm_3_87 pl_X8_account (by decide)) ?_
  refine And.intro (okCne dL_areAlike_158 rfl (by rfl)) ?_
  refine And.intro (okIconst dL_areAlike_161 rfl (by first | rfl | decide)) ?_
  refine And.intro (okGoto dL_areAlike_162 (by rfl)) ?_
  refine And.intro (okIconst dL_areAlike_165 rfl (by first | rfl | decide)) ?_
  refine And.intro (okIstore_n dL_areAlike_166 rfl rfl (by decide)) ?_
  refine And.intro (okIinc dL_areAlike_167 rfl (by first | rfl | decide) (by decide)) ?_
  refine And.intro (okGoto dL_areAlike_170 (by rfl)) ?_
  refine And.intro (okIload_n dL_areAlike_173 rfl rfl) ?_
  refine And.intro (okZret dL_areAlike_174 rfl) ?_
  exact trivial
def ovW (v u : pLV) : pLV := ovU 300 (brkV (cpyV (NL u) (NL v)) 300)
def alU (v u : pLV) : pLV := bestU v (ovW v u) 9
theorem cpy_rm2 {u u2 : pLV} (v : pLV) (hu : IRm u) (hu2 : IRm u2) : cpyV u v = cpyV u2 v := by
  unfold cpyV
  rw [hu.1, hu.2.1, hu.2.2.1, hu.2.2.2, hu2.1, hu2.2.1, hu2.2.2.1, hu2.2.2.2]
theorem ovU_rm : ∀ (d : Nat) {u : pLV}, IRm u → IRm (ovU d u)
  | 0, _, h => h
  | d + 1, u, h => by
    have g : IRm (tickV (NL u)) := IRm.tick (v := NL u) h
    unfold ovU
    split
    · exact ovU_rm d g
    · exact g
theorem ovW_rm (v : pLV) {u : pLV} (h : IRm u) : IRm (ovW v u) := ovU_rm 300 (show IRm (brkV (cpyV (NL u) (NL v)) 300) from h)
theorem btU_rm (n : Nat) (v : pLV) {u : pLV} (h : IRm u) : ∀ j, IRm (btU n v u j)
  | 0 => h
  | j + 1 => IRm.ticks (v := NL (lmV (cpyV (btU n v u j) v) (nI (50 * j)))) (show IRm (cpyV (btU n v u j) v) from btU_rm n v h j) n
theorem btP_eq (n : Nat) (v : pLV) {u u2 : pLV} (h : IRm u) (h2 : IRm u2) (j : Nat) : btP n v u j = btP n v u2 j := by
  unfold btP
  rw [cpy_rm2 v (btU_rm n v h j) (btU_rm n v h2 j)]
theorem btM_eq (n : Nat) (v : pLV) {u u2 : pLV} (h : IRm u) (h2 : IRm u2) : ∀ j, btM n v u j = btM n v u2 j
  | 0 => rfl
  | j + 1 => by
    unfold btM
    rw [btP_eq n v h h2 j, btM_eq n v h h2 j]
theorem btB_eq (n : Nat) (v : pLV) {u u2 : pLV} (h : IRm u) (h2 : IRm u2) : ∀ j, btB n v u j = btB n v u2 j
  | 0 => rfl
  | j + 1 => by
    unfold btB
    rw [btP_eq n v h h2 j, btM_eq n v h h2 j, btB_eq n v h h2 j]
theorem best_eq (v : pLV) {u u2 : pLV} (h : IRm u) (h2 : IRm u2) (n : Int32) : cbestLimit_R zL (NL v) (NL u) (fun _ => zL) n = cbestLimit_R zL (NL v) (NL u2) (fun _ => zL) n := by
  unfold cbestLimit_R
  rw [btB_eq _ (NL v) (u := NL u) (u2 := NL u2) h h2 21]
theorem tol_al (x x2 v : pLV) {k : Nat} (hk : k < 11) : tolB x v (nI k) = tolB x2 v (nI k) := by
  rcases (show k = 0 ∨ k = 1 ∨ k = 2 ∨ k = 3 ∨ k = 4 ∨ k = 5 ∨ k = 6 ∨ k = 7 ∨ k = 8 ∨ k = 9 ∨ k = 10 by omega) with rfl | rfl | rfl | rfl | rfl | rfl | rfl | rfl | rfl | rfl | rfl
  · exact (tol_0 x v).trans (tol_0 x2 v).symm
  · exact (tol_1 x v).trans (tol_1 x2 v).symm
  · exact (tol_2 x v).trans (tol_2 x2 v).symm
  · exact (tol_3 x v).trans (tol_3 x2 v).symm
  · exact (tol_4 x v).trans (tol_4 x2 v).symm
  · exact (tol_5 x v).trans (tol_5 x2 v).symm
  · exact (tol_6 x v).trans (tol_6 x2 v).symm
  · exact (tol_7 x v).trans (tol_7 x2 v).symm
  · exact (tol_8 x v).trans (tol_8 x2 v).symm
  · exact (tol_9 x v).trans (tol_9 x2 v).symm
  · exact (tol_10 x v).trans (tol_10 x2 v).symm
theorem lawWbeq (x v u : pLV) (h : Nat → pLV) (x2 v2 u2 : pLV) (h2 : Nat → pLV) (y w t : pLV) (g : Nat → pLV) (y2 w2 t2 : pLV) (g2 : Nat → pLV) : Nat.beq (lawW x v u h x2 v2 u2 h2).length (lawW y w t g y2 w2 t2 g2).length = true := by
  rw [lawW_len, lawW_len]
  rfl
set_option maxHeartbeats 800000 in
theorem al_s1 {rg : pRg} {x v u : pLV} {h : Nat → pLV} {x2 u2 : pLV} {h2 : Nat → pLV} {T : pOut} {k : Nat} (hk : k < 11) (hm : ∃ m, ex k_L_areAlike m 24 [(3, .int (nI (k + 1))), (2, .int 1), (0, .ref 0), (1, .ref 179)] [] (lawW x v u h x2 v u2 h2) rg = some T) : ∃ m, ex k_L_areAlike m 24 [(3, .int (nI k)), (2, .int 1), (0, .ref 0), (1, .ref 179)] [] (lawW x v u h x2 v u2 h2) rg = some T := by
  obtain ⟨m, hm⟩ := hm
  refine ⟨m + 2, ?_⟩
  conv => lhs; whnf
  refine (pif_f (nI_ge (b := 11) hk (by omega))).trans ?_
  conv => lhs; whnf
  refine (pif_f (by decide)).trans ?_
  conv => lhs; whnf
  refine (callK_r (ro_told x v u h x2 v u2 h2 rg (nI k)) (lawWbeq _ _ _ _ _ _ _ _ _ _ _ _ _ _ _ _)).trans ?_
  conv => lhs; whnf
  refine (callK_r (rq_told x v u h x2 v u2 h2 rg (nI k)) (lawWbeq _ _ _ _ _ _ _ _ _ _ _ _ _ _ _ _)).trans ?_
  conv => lhs; whnf
  refine (pif_t (tol_al x x2 v hk)).trans ?_
  conv => lhs; whnf
  rw [nI_1]
  exact hm
set_option maxHeartbeats 800000 in
theorem al_s2A {rg : pRg} {x v u : pLV} {h : Nat → pLV} {x2 u2 : pLV} {h2 : Nat → pLV} {T : pOut} {k i : Nat} (hk : k < 5) (hm : ∃ m, ex k_L_areAlike m 49 [(4, .int (nI (k + 1))), (2, .int 1), (3, .int (nI i)), (0, .ref 0), (1, .ref 179)] [] (lawW x v u h x2 v u2 h2) rg = some T) : ∃ m, ex k_L_areAlike m 49 [(4, .int (nI k)), (3, .int (nI i)), (2, .int 1), (0, .ref 0), (1, .ref 179)] [] (lawW x v u h x2 v u2 h2) rg = some T := by
  obtain ⟨m, hm⟩ := hm
  refine ⟨m + 2, ?_⟩
  conv => lhs; whnf
  refine (pif_f (nI_ge (b := 5) hk (by omega))).trans ?_
  conv => lhs; whnf
  refine (pif_f (by decide)).trans ?_
  conv => lhs; whnf
  refine (callK_r (ro_chest x v u h x2 v u2 h2 rg (nI i) (nI k)) (lawWbeq _ _ _ _ _ _ _ _ _ _ _ _ _ _ _ _)).trans ?_
  conv => lhs; whnf
  refine (callK_r (rq_chest x v u h x2 v u2 h2 rg (nI i) (nI k)) (lawWbeq _ _ _ _ _ _ _ _ _ _ _ _ _ _ _ _)).trans ?_
  conv => lhs; whnf
  refine (pif_t rfl).trans ?_
  conv => lhs; whnf
  rw [nI_1]
  exact hm
set_option maxHeartbeats 800000 in
theorem al_s2B {rg : pRg} {x v u : pLV} {h : Nat → pLV} {x2 u2 : pLV} {h2 : Nat → pLV} {T : pOut} {k i : Nat} (hk : k < 5) (hm : ∃ m, ex k_L_areAlike m 49 [(4, .int (nI (k + 1))), (2, .int 1), (3, .int (nI i)), (0, .ref 0), (1, .ref 179)] [] (lawW x v u h x2 v u2 h2) rg = some T) : ∃ m, ex k_L_areAlike m 49 [(4, .int (nI k)), (2, .int 1), (3, .int (nI i)), (0, .ref 0), (1, .ref 179)] [] (lawW x v u h x2 v u2 h2) rg = some T := by
  obtain ⟨m, hm⟩ := hm
  refine ⟨m + 2, ?_⟩
  conv => lhs; whnf
  refine (pif_f (nI_ge (b := 5) hk (by omega))).trans ?_
  conv => lhs; whnf
  refine (pif_f (by decide)).trans ?_
  conv => lhs; whnf
  refine (callK_r (ro_chest x v u h x2 v u2 h2 rg (nI i) (nI k)) (lawWbeq _ _ _ _ _ _ _ _ _ _ _ _ _ _ _ _)).trans ?_
  conv => lhs; whnf
  refine (callK_r (rq_chest x v u h x2 v u2 h2 rg (nI i) (nI k)) (lawWbeq _ _ _ _ _ _ _ _ _ _ _ _ _ _ _ _)).trans ?_
  conv => lhs; whnf
  refine (pif_t rfl).trans ?_
  conv => lhs; whnf
  rw [nI_1]
  exact hm
set_option maxHeartbeats 800000 in
theorem al_s3A {rg : pRg} {x v u : pLV} {h : Nat → pLV} {x2 u2 : pLV} {h2 : Nat → pLV} {T : pOut} {k : Nat} (hk : k < 8) (hm : ∃ m, ex k_L_areAlike m 73 [(3, .int (nI (k + 1))), (2, .int 1), (4, .int 5), (0, .ref 0), (1, .ref 179)] [] (lawW x v u h x2 v u2 h2) rg = some T) : ∃ m, ex k_L_areAlike m 73 [(3, .int (nI k)), (4, .int 5), (2, .int 1), (0, .ref 0), (1, .ref 179)] [] (lawW x v u h x2 v u2 h2) rg = some T := by
  obtain ⟨m, hm⟩ := hm
  refine ⟨m + 2, ?_⟩
  conv => lhs; whnf
  refine (pif_f (nI_ge (b := 8) hk (by omega))).trans ?_
  conv => lhs; whnf
  refine (pif_f (by decide)).trans ?_
  conv => lhs; whnf
  refine (callK_r (ro_account x v u h x2 v u2 h2 rg (nI k)) (lawWbeq _ _ _ _ _ _ _ _ _ _ _ _ _ _ _ _)).trans ?_
  conv => lhs; whnf
  refine (callK_r (rq_account x v u h x2 v u2 h2 rg (nI k)) (lawWbeq _ _ _ _ _ _ _ _ _ _ _ _ _ _ _ _)).trans ?_
  conv => lhs; whnf
  refine (pif_t rfl).trans ?_
  conv => lhs; whnf
  rw [nI_1]
  exact hm
set_option maxHeartbeats 800000 in
theorem al_s3B {rg : pRg} {x v u : pLV} {h : Nat → pLV} {x2 u2 : pLV} {h2 : Nat → pLV} {T : pOut} {k : Nat} (hk : k < 8) (hm : ∃ m, ex k_L_areAlike m 73 [(3, .int (nI (k + 1))), (2, .int 1), (4, .int 5), (0, .ref 0), (1, .ref 179)] [] (lawW x v u h x2 v u2 h2) rg = some T) : ∃ m, ex k_L_areAlike m 73 [(3, .int (nI k)), (2, .int 1), (4, .int 5), (0, .ref 0), (1, .ref 179)] [] (lawW x v u h x2 v u2 h2) rg = some T := by
  obtain ⟨m, hm⟩ := hm
  refine ⟨m + 2, ?_⟩
  conv => lhs; whnf
  refine (pif_f (nI_ge (b := 8) hk (by omega))).trans ?_
  conv => lhs; whnf
  refine (pif_f (by decide)).trans ?_
  conv => lhs; whnf
  refine (callK_r (ro_account x v u h x2 v u2 h2 rg (nI k)) (lawWbeq _ _ _ _ _ _ _ _ _ _ _ _ _ _ _ _)).trans ?_
  conv => lhs; whnf
  refine (callK_r (rq_account x v u h x2 v u2 h2 rg (nI k)) (lawWbeq _ _ _ _ _ _ _ _ _ _ _ _ _ _ _ _)).trans ?_
  conv => lhs; whnf
  refine (pif_t rfl).trans ?_
  conv => lhs; whnf
  rw [nI_1]
  exact hm
set_option maxHeartbeats 800000 in
theorem al_e1 {rg : pRg} {x v u : pLV} {h : Nat → pLV} {x2 u2 : pLV} {h2 : Nat → pLV} {T : pOut} (hm : ∃ m, ex k_L_areAlike m 44 [(3, .int (nI 0)), (2, .int 1), (0, .ref 0), (1, .ref 179)] [] (lawW x v u h x2 v u2 h2) rg = some T) : ∃ m, ex k_L_areAlike m 24 [(3, .int (nI 11)), (2, .int 1), (0, .ref 0), (1, .ref 179)] [] (lawW x v u h x2 v u2 h2) rg = some T := by
  obtain ⟨m, hm⟩ := hm
  obtain ⟨m, rfl⟩ := ex_pos hm
  refine ⟨m + 2, ?_⟩
  conv => lhs; whnf
  refine (pif_t (by decide)).trans ?_
  exact hm
set_option maxHeartbeats 800000 in
theorem al_e2 {rg : pRg} {x v u : pLV} {h : Nat → pLV} {x2 u2 : pLV} {h2 : Nat → pLV} {T : pOut} {i : Nat} (hm : ∃ m, ex k_L_areAlike m 44 [(3, .int (nI (i + 1))), (4, .int 5), (2, .int 1), (0, .ref 0), (1, .ref 179)] [] (lawW x v u h x2 v u2 h2) rg = some T) : ∃ m, ex k_L_areAlike m 49 [(4, .int (nI 5)), (2, .int 1), (3, .int (nI i)), (0, .ref 0), (1, .ref 179)] [] (lawW x v u h x2 v u2 h2) rg = some T := by
  obtain ⟨m, hm⟩ := hm
  obtain ⟨m, rfl⟩ := ex_pos hm
  refine ⟨m + 3, ?_⟩
  conv => lhs; whnf
  refine (pif_t (by decide)).trans ?_
  conv => lhs; whnf
  rw [nI_1]
  exact hm
set_option maxHeartbeats 800000 in
theorem al_e2o {rg : pRg} {x v u : pLV} {h : Nat → pLV} {x2 u2 : pLV} {h2 : Nat → pLV} {T : pOut} (hm : ∃ m, ex k_L_areAlike m 73 [(3, .int (nI 0)), (4, .int 5), (2, .int 1), (0, .ref 0), (1, .ref 179)] [] (lawW x v u h x2 v u2 h2) rg = some T) : ∃ m, ex k_L_areAlike m 44 [(3, .int (nI 4)), (4, .int 5), (2, .int 1), (0, .ref 0), (1, .ref 179)] [] (lawW x v u h x2 v u2 h2) rg = some T := by
  obtain ⟨m, hm⟩ := hm
  obtain ⟨m, rfl⟩ := ex_pos hm
  refine ⟨m + 2, ?_⟩
  conv => lhs; whnf
  refine (pif_t (by decide)).trans ?_
  exact hm
set_option maxHeartbeats 800000 in
theorem al_o2A {rg : pRg} {x v u : pLV} {h : Nat → pLV} {x2 u2 : pLV} {h2 : Nat → pLV} {T : pOut} {i : Nat} (hi : i < 4) (hm : ∃ m, ex k_L_areAlike m 49 [(4, .int (nI 0)), (3, .int (nI i)), (2, .int 1), (0, .ref 0), (1, .ref 179)] [] (lawW x v u h x2 v u2 h2) rg = some T) : ∃ m, ex k_L_areAlike m 44 [(3, .int (nI i)), (2, .int 1), (0, .ref 0), (1, .ref 179)] [] (lawW x v u h x2 v u2 h2) rg = some T := by
  obtain ⟨m, hm⟩ := hm
  obtain ⟨m, rfl⟩ := ex_pos hm
  refine ⟨m + 1, ?_⟩
  conv => lhs; whnf
  refine (pif_f (nI_ge (b := 4) hi (by omega))).trans ?_
  exact hm
set_option maxHeartbeats 800000 in
theorem al_o2B {rg : pRg} {x v u : pLV} {h : Nat → pLV} {x2 u2 : pLV} {h2 : Nat → pLV} {T : pOut} {i : Nat} (hi : i < 4) (hm : ∃ m, ex k_L_areAlike m 49 [(4, .int (nI 0)), (3, .int (nI i)), (2, .int 1), (0, .ref 0), (1, .ref 179)] [] (lawW x v u h x2 v u2 h2) rg = some T) : ∃ m, ex k_L_areAlike m 44 [(3, .int (nI i)), (4, .int 5), (2, .int 1), (0, .ref 0), (1, .ref 179)] [] (lawW x v u h x2 v u2 h2) rg = some T := by
  obtain ⟨m, hm⟩ := hm
  obtain ⟨m, rfl⟩ := ex_pos hm
  refine ⟨m + 1, ?_⟩
  conv => lhs; whnf
  refine (pif_f (nI_ge (b := 4) hi (by omega))).trans ?_
  exact hm
set_option maxHeartbeats 800000 in
theorem al_e3 {rg : pRg} {x v u : pLV} {h : Nat → pLV} {x2 u2 : pLV} {h2 : Nat → pLV} : ∃ m, ex k_L_areAlike m 73 [(3, .int (nI 8)), (2, .int 1), (4, .int 5), (0, .ref 0), (1, .ref 179)] [] (lawW x v u h x2 v u2 h2) rg = some (some (.int 1), (lawW x v u h x2 v u2 h2), rg) := by
  refine ⟨3, ?_⟩
  conv => lhs; whnf
  refine (pif_t (by decide)).trans ?_
  conv => lhs; whnf
  exact pif_t (Or.inr rfl)
theorem al_loops {rg : pRg} {x v u : pLV} {h : Nat → pLV} {x2 u2 : pLV} {h2 : Nat → pLV} : ∃ m, ex k_L_areAlike m 24 [(3, .int (nI 0)), (2, .int 1), (0, .ref 0), (1, .ref 179)] [] (lawW x v u h x2 v u2 h2) rg = some (some (.int 1), lawW x v u h x2 v u2 h2, rg) := by
  have c0 := al_e3 (rg := rg) (x := x) (v := v) (u := u) (h := h) (x2 := x2) (u2 := u2) (h2 := h2)
  have c := al_s3A (k := 0) (by omega) (al_s3B (k := 1) (by omega) (al_s3B (k := 2) (by omega) (al_s3B (k := 3) (by omega) (al_s3B (k := 4) (by omega) (al_s3B (k := 5) (by omega) (al_s3B (k := 6) (by omega) (al_s3B (k := 7) (by omega) c0)))))))
  have b4 := al_e2o c
  have inner : ∀ i, (∃ m, ex k_L_areAlike m 44 [(3, .int (nI (i + 1))), (4, .int 5), (2, .int 1), (0, .ref 0), (1, .ref 179)] [] (lawW x v u h x2 v u2 h2) rg = some (some (.int 1), lawW x v u h x2 v u2 h2, rg)) → ∃ m, ex k_L_areAlike m 49 [(4, .int (nI 0)), (3, .int (nI i)), (2, .int 1), (0, .ref 0), (1, .ref 179)] [] (lawW x v u h x2 v u2 h2) rg = some (some (.int 1), lawW x v u h x2 v u2 h2, rg) := fun i hi => al_s2A (k := 0) (i := i) (by omega) (al_s2B (k := 1) (by omega) (al_s2B (k := 2) (by omega) (al_s2B (k := 3) (by omega) (al_s2B (k := 4) (by omega) (al_e2 hi)))))
  have b3 := al_o2B (i := 3) (by omega) (inner 3 b4)
  have b2 := al_o2B (i := 2) (by omega) (inner 2 b3)
  have b1 := al_o2B (i := 1) (by omega) (inner 1 b2)
  have b0 := al_o2A (i := 0) (by omega) (inner 0 b1)
  have a := al_e1 b0
  exact al_s1 (k := 0) (by omega) (al_s1 (k := 1) (by omega) (al_s1 (k := 2) (by omega) (al_s1 (k := 3) (by omega) (al_s1 (k := 4) (by omega) (al_s1 (k := 5) (by omega) (al_s1 (k := 6) (by omega) (al_s1 (k := 7) (by omega) (al_s1 (k := 8) (by omega) (al_s1 (k := 9) (by omega) (al_s1 (k := 10) (by omega) a))))))))))
set_option maxHeartbeats 800000 in
theorem run_L_areAlike (rg : pRg) (x v u : pLV) (h : Nat → pLV) (x2 u2 : pLV) (h2 : Nat → pLV) (hu : IRm u) (hu2 : IRm u2) : ∃ fu, ex k_L_areAlike fu 0 [(0, .ref 0), (1, .ref 179)] [] (lawW x v u h x2 v u2 h2) rg = some (some (.int 1), lawW x v (alU v u) h x2 v (alU v u2) h2, rg) := by
  have e1 : ovR 300 1 (brkV (cpyV (NL u) (NL v)) 300) = ovR 300 1 (brkV (cpyV (NL u2) (NL v)) 300) := by rw [cpy_rm2 (u := NL u) (u2 := NL u2) (NL v) hu hu2]
  have e2 : cbestLimit_R zL (NL v) (NL (ovW v u)) (fun _ => zL) 9 = cbestLimit_R zL (NL v) (NL (ovW v u2)) (fun _ => zL) 9 := best_eq v (ovW_rm v hu) (ovW_rm v hu2) 9
  obtain ⟨m, hm⟩ := al_loops (rg := rg) (x := x) (v := v) (u := alU v u) (h := h) (x2 := x2) (u2 := alU v u2) (h2 := h2)
  obtain ⟨m, rfl⟩ := ex_pos hm
  refine ⟨m + 2, ?_⟩
  conv => lhs; whnf
  refine (callK_r (ro_paperShare x v u h x2 v u2 h2 rg) (lawWbeq _ _ _ _ _ _ _ _ _ _ _ _ _ _ _ _)).trans ?_
  conv => lhs; whnf
  refine (callK_r (rq_paperShare x v u h x2 v u2 h2 rg) (lawWbeq _ _ _ _ _ _ _ _ _ _ _ _ _ _ _ _)).trans ?_
  conv => lhs; whnf
  refine (pif_t (fcL_self (psI_n _ _))).trans ?_
  conv => lhs; whnf
  refine (callK_r (ro_overflow x v u h x2 v u2 h2 rg) (lawWbeq _ _ _ _ _ _ _ _ _ _ _ _ _ _ _ _)).trans ?_
  conv => lhs; whnf
  refine (callK_r (rq_overflow x v (ovW v u) h x2 v u2 h2 rg) (lawWbeq _ _ _ _ _ _ _ _ _ _ _ _ _ _ _ _)).trans ?_
  conv => lhs; whnf
  refine (pif_t e1).trans ?_
  conv => lhs; whnf
  refine (callK_r (ro_best x v (ovW v u) h x2 v (ovW v u2) h2 rg 9) (lawWbeq _ _ _ _ _ _ _ _ _ _ _ _ _ _ _ _)).trans ?_
  conv => lhs; whnf
  refine (callK_r (rq_best x v (alU v u) h x2 v (ovW v u2) h2 rg 9) (lawWbeq _ _ _ _ _ _ _ _ _ _ _ _ _ _ _ _)).trans ?_
  conv => lhs; whnf
  refine (pif_t e2).trans ?_
  exact hm
def alF (x v u : pLV) (h : Nat → pLV) (x2 v2 u2 : pLV) (h2 : Nat → pLV) (rg : pRg) : Option pOut := pif (v2 = v ∧ IRm u ∧ IRm u2) (some (some (.int 1), lawW x v (alU v u) h x2 v2 (alU v2 u2) h2, rg)) none
def alC (w : pWd) (rg : pRg) : Option pOut := cut 179 w (fun b1 b2 => unP 0 b1 (fun x v u h => unP 179 b2 (fun x2 v2 u2 h2 => alF x v u h x2 v2 u2 h2 rg)))
def F_L_areAlike : pF := fun args w rg => match args with
  | [.ref 0, .ref 179] => alC w rg
  | _ => none
theorem ok_F_L_areAlike (l : Launch) : pFOK l yL_areAlike (pWs yL_areAlike cL_areAlike 5 ((some FieldType.boolean))) rm_L_areAlike F_L_areAlike := by
  refine pFOK_all fun args w rg v0 w' rg' hf => ?_
  unfold F_L_areAlike at hf
  split at hf
  next =>
    unfold alC at hf
    obtain ⟨b1, b2, hw, hf, -⟩ := cut_some hf
    obtain ⟨x, v, u, h, hb1, hf⟩ := unP_some hf
    obtain ⟨x2, v2, u2, h2, hb2, hf⟩ := unP_some hf
    unfold alF at hf
    by_cases hc : v2 = v ∧ IRm u ∧ IRm u2
    · have hf := (pif_t hc).symm.trans hf
      cases hf
      obtain ⟨rfl, hu, hu2⟩ := hc
      have hw2 : w = lawW x v2 u h x2 v2 u2 h2 := by
        rw [hw, hb1, hb2]
        unfold lawW
        rfl
      subst hw2
      have g := run_L_areAlike rg x v2 u h x2 u2 h2 hu hu2
      have l1 := lawW_len x v2 u h x2 v2 u2 h2
      have l2 := lawW_len x v2 (alU v2 u) h x2 v2 (alU v2 u2) h2
      generalize lawW x v2 u h x2 v2 u2 h2 = w0 at g l1 ⊢
      generalize lawW x v2 (alU v2 u) h x2 v2 (alU v2 u2) h2 = w1 at g l2 ⊢
      exact met_of_ex (by decide) (ok_k_L_areAlike l) rfl g (Nat.le_of_ble_eq_true rfl) rfl (by dsimp only; omega) (by dsimp only; omega) (Nat.zero_le _) (by dsimp only; rw [l1, l2]) (by dsimp only; rw [l1, l2])
    · have hf := (pif_f hc).symm.trans hf
      cases hf
  next => cases hf
theorem alC_at (x v u : pLV) (h : Nat → pLV) (x2 v2 u2 : pLV) (h2 : Nat → pLV) (rg : pRg) : alC (lawW x v u h x2 v2 u2 h2) rg = alF (NX x) (NL v) (NL u) (NHm h) (NX x2) (NL v2) (NL u2) (NHm h2) rg := by
  unfold alC lawW
  rw [cut_app' (lawP_len 0 x v u h), unP_eq0, unP_eq179]
theorem F_al (w : pWd) (rg : pRg) : F_L_areAlike [.ref 0, .ref 179] w rg = alC w rg := rfl
theorem alF_t {x v u : pLV} {h : Nat → pLV} {x2 v2 u2 : pLV} {h2 : Nat → pLV} {rg : pRg} (hc : v2 = v ∧ IRm u ∧ IRm u2) : alF x v u h x2 v2 u2 h2 rg = some (some (.int 1), lawW x v (alU v u) h x2 v2 (alU v2 u2) h2, rg) := pif_t hc
theorem cl_L_areAlike (x v u : pLV) (h : Nat → pLV) (x2 v2 u2 : pLV) (h2 : Nat → pLV) (rg : pRg) (hv : NL v2 = NL v) (hu : IRm u) (hu2 : IRm u2) : F_L_areAlike [.ref 0, .ref 179] (lawW x v u h x2 v2 u2 h2) rg = some (some (.int 1), lawW (NX x) (NL v) (alU (NL v) (NL u)) (NHm h) (NX x2) (NL v2) (alU (NL v2) (NL u2)) (NHm h2), rg) := by
  rw [F_al, alC_at]
  exact alF_t ⟨hv, hu, hu2⟩
end
