noncomputable section
/-! THE LAW'S isLoop -/
theorem tol_0 (x v : pLV) : tolB x v 0 = v 0 0 := if_pos rfl
theorem tol_1 (x v : pLV) : tolB x v 1 = v 0 1 := (if_neg (by decide)).trans (if_pos rfl)
theorem tol_2 (x v : pLV) : tolB x v 2 = v 0 2 := (if_neg (by decide)).trans ((if_neg (by decide)).trans (if_pos rfl))
theorem tol_3 (x v : pLV) : tolB x v 3 = v 0 3 := (if_neg (by decide)).trans ((if_neg (by decide)).trans ((if_neg (by decide)).trans (if_pos rfl)))
theorem tol_4 (x v : pLV) : tolB x v 4 = v 0 27 := (if_neg (by decide)).trans ((if_neg (by decide)).trans ((if_neg (by decide)).trans ((if_neg (by decide)).trans (if_pos rfl))))
theorem tol_5 (x v : pLV) : tolB x v 5 = v 0 4 := (if_neg (by decide)).trans ((if_neg (by decide)).trans ((if_neg (by decide)).trans ((if_neg (by decide)).trans ((if_neg (by decide)).trans (if_pos rfl)))))
theorem tol_6 (x v : pLV) : tolB x v 6 = v 0 5 := (if_neg (by decide)).trans ((if_neg (by decide)).trans ((if_neg (by decide)).trans ((if_neg (by decide)).trans ((if_neg (by decide)).trans ((if_neg (by decide)).trans (if_pos rfl))))))
theorem tol_7 (x v : pLV) : tolB x v 7 = ltC (v 0 28) (v 3 0) := (if_neg (by decide)).trans ((if_neg (by decide)).trans ((if_neg (by decide)).trans ((if_neg (by decide)).trans ((if_neg (by decide)).trans ((if_neg (by decide)).trans ((if_neg (by decide)).trans (if_pos rfl)))))))
theorem tol_8 (x v : pLV) : tolB x v 8 = v 0 29 := (if_neg (by decide)).trans ((if_neg (by decide)).trans ((if_neg (by decide)).trans ((if_neg (by decide)).trans ((if_neg (by decide)).trans ((if_neg (by decide)).trans ((if_neg (by decide)).trans ((if_neg (by decide)).trans (if_pos rfl))))))))
theorem tol_9 (x v : pLV) : tolB x v 9 = caI (v 4) (v 0 0) (caK (v 0 29)) := (if_neg (by decide)).trans ((if_neg (by decide)).trans ((if_neg (by decide)).trans ((if_neg (by decide)).trans ((if_neg (by decide)).trans ((if_neg (by decide)).trans ((if_neg (by decide)).trans ((if_neg (by decide)).trans ((if_neg (by decide)).trans (if_pos rfl)))))))))
theorem tol_10 (x v : pLV) : tolB x v 10 = v 0 6 := (if_neg (by decide)).trans ((if_neg (by decide)).trans ((if_neg (by decide)).trans ((if_neg (by decide)).trans ((if_neg (by decide)).trans ((if_neg (by decide)).trans ((if_neg (by decide)).trans ((if_neg (by decide)).trans ((if_neg (by decide)).trans ((if_neg (by decide)).trans (if_pos rfl))))))))))
theorem tol_11 (x v : pLV) : tolB x v 11 = x 0 0 := (if_neg (by decide)).trans ((if_neg (by decide)).trans ((if_neg (by decide)).trans ((if_neg (by decide)).trans ((if_neg (by decide)).trans ((if_neg (by decide)).trans ((if_neg (by decide)).trans ((if_neg (by decide)).trans ((if_neg (by decide)).trans ((if_neg (by decide)).trans ((if_neg (by decide)).trans (if_pos rfl)))))))))))
theorem tol_12 (x v : pLV) : tolB x v 12 = x 0 4 := (if_neg (by decide)).trans ((if_neg (by decide)).trans ((if_neg (by decide)).trans ((if_neg (by decide)).trans ((if_neg (by decide)).trans ((if_neg (by decide)).trans ((if_neg (by decide)).trans ((if_neg (by decide)).trans ((if_neg (by decide)).trans ((if_neg (by decide)).trans ((if_neg (by decide)).trans ((if_neg (by decide)).trans (if_pos rfl))))))))))))
theorem nI_le_lt {a b : Nat} (h : a < b) (hb : b < 2 ^ 31) : ¬ nI b ≤ nI a := by
  intro q
  have e := Int32.le_iff_toInt_le.mp q
  rw [nI_toInt hb, nI_toInt (by omega)] at e
  omega
theorem nI_le_ge {a b : Nat} (h : b ≤ a) (ha : a < 2 ^ 31) : nI b ≤ nI a := by
  refine Int32.le_iff_toInt_le.mpr ?_
  rw [nI_toInt ha, nI_toInt (by omega)]
  omega
theorem ent_0 {v : pLV} {N k : Nat} (x : pLV) (hN : v 0 29 = nI N) (h20 : N ≤ 20) (hk : k < N) : entB x v (nI k) 0 = v 4 k := by
  have e : entB x v (nI k) 0 = v 4 (nI k).toNatClampNeg := (if_neg (nI_pos (by omega))).trans ((if_neg (by rw [hN]; exact nI_le_lt hk (by omega))).trans ((if_neg (nI_le_lt (b := 20) (by omega) (by omega))).trans (if_pos rfl)))
  rw [e, nI_clamp (by omega)]
theorem ent_1 {v : pLV} {N k : Nat} (x : pLV) (hN : v 0 29 = nI N) (h20 : N ≤ 20) (hk : k < N) : entB x v (nI k) 1 = v 5 k := by
  have e : entB x v (nI k) 1 = v 5 (nI k).toNatClampNeg := (if_neg (nI_pos (by omega))).trans ((if_neg (by rw [hN]; exact nI_le_lt hk (by omega))).trans ((if_neg (nI_le_lt (b := 20) (by omega) (by omega))).trans ((if_neg (by decide)).trans (if_pos rfl))))
  rw [e, nI_clamp (by omega)]
theorem ent_2 {v : pLV} {N k : Nat} (x : pLV) (hN : v 0 29 = nI N) (h20 : N ≤ 20) (hk : k < N) : entB x v (nI k) 2 = v 6 k := by
  have e : entB x v (nI k) 2 = v 6 (nI k).toNatClampNeg := (if_neg (nI_pos (by omega))).trans ((if_neg (by rw [hN]; exact nI_le_lt hk (by omega))).trans ((if_neg (nI_le_lt (b := 20) (by omega) (by omega))).trans ((if_neg (by decide)).trans ((if_neg (by decide)).trans (if_pos rfl)))))
  rw [e, nI_clamp (by omega)]
theorem ent_out (x v : pLV) {e : Int32} (he : v 0 29 = e) (a : Int32) : entB x v e a = -1 := by
  unfold entB
  by_cases h0 : e < 0
  · rw [if_pos h0]
  · rw [if_neg h0, if_pos (by rw [he]; exact Int32.le_refl _)]
def LooE (v : pLV) (k : Nat) : Prop := ((v 5 k = 0 ∧ v 6 k ≤ 50) ∨ (v 5 k = 1 ∧ v 6 k ≤ 3) ∨ (v 5 k = 2 ∧ v 6 k ≤ 2000)) ∧ ¬ v 6 k < 0
def LooF (v : pLV) : Prop := ¬ v 0 2 < 0 ∧ ¬ 50 < v 0 2 ∧ ¬ v 0 3 < 0 ∧ ¬ 20 < v 0 3 ∧ ¬ v 0 27 < 0 ∧ ¬ 3000 < v 0 27 ∧ ((v 0 0 = 0 ∧ v 0 5 = -9 ∧ ltC (v 0 28) (v 3 0) = -9) ∨ (¬ v 0 0 = 0 ∧ ¬ v 0 5 = -9 ∧ ¬ ltC (v 0 28) (v 3 0) = -9)) ∧ ¬ 4 ≤ v 0 5 ∧ ¬ v 0 0 < v 0 6
def LooC (v : pLV) : Prop := ∃ N : Nat, N ≤ 20 ∧ v 0 29 = nI N ∧ (∀ k, k < N → LooE v k) ∧ (∀ k, k + 1 < N → ¬ v 4 (k + 1) < v 4 k) ∧ LooF v
theorem dL_isLoop_0 : decode cL_isLoop 0 = .ok (.aload_n 0, 1) := by decide +kernel
theorem dL_isLoop_1 : decode cL_isLoop 1 = .ok (.bipush 8, 2) := by decide +kernel
theorem dL_isLoop_3 : decode cL_isLoop 3 = .ok (.invokevirtual 83, 3) := by decide +kernel
theorem dL_isLoop_6 : decode cL_isLoop 6 = .ok (.istore_n 1, 1) := by decide +kernel
theorem dL_isLoop_7 : decode cL_isLoop 7 = .ok (.iconst 0, 1) := by decide +kernel
theorem dL_isLoop_8 : decode cL_isLoop 8 = .ok (.istore_n 2, 1) := by decide +kernel
theorem dL_isLoop_9 : decode cL_isLoop 9 = .ok (.iconst 0, 1) := by decide +kernel
theorem dL_isLoop_10 : decode cL_isLoop 10 = .ok (.istore_n 3, 1) := by decide +kernel
theorem dL_isLoop_11 : decode cL_isLoop 11 = .ok (.iload_n 3, 1) := by decide +kernel
theorem dL_isLoop_12 : decode cL_isLoop 12 = .ok (.iload_n 1, 1) := by decide +kernel
theorem dL_isLoop_13 : decode cL_isLoop 13 = .ok (.if_icmp .ge 118, 3) := by decide +kernel
theorem dL_isLoop_16 : decode cL_isLoop 16 = .ok (.aload_n 0, 1) := by decide +kernel
theorem dL_isLoop_17 : decode cL_isLoop 17 = .ok (.iload_n 3, 1) := by decide +kernel
theorem dL_isLoop_18 : decode cL_isLoop 18 = .ok (.iconst 1, 1) := by decide +kernel
theorem dL_isLoop_19 : decode cL_isLoop 19 = .ok (.invokevirtual 86, 3) := by decide +kernel
theorem dL_isLoop_22 : decode cL_isLoop 22 = .ok (.istore 4, 2) := by decide +kernel
theorem dL_isLoop_24 : decode cL_isLoop 24 = .ok (.aload_n 0, 1) := by decide +kernel
theorem dL_isLoop_25 : decode cL_isLoop 25 = .ok (.iload_n 3, 1) := by decide +kernel
theorem dL_isLoop_26 : decode cL_isLoop 26 = .ok (.iconst 2, 1) := by decide +kernel
theorem dL_isLoop_27 : decode cL_isLoop 27 = .ok (.invokevirtual 86, 3) := by decide +kernel
theorem dL_isLoop_30 : decode cL_isLoop 30 = .ok (.istore 5, 2) := by decide +kernel
theorem dL_isLoop_32 : decode cL_isLoop 32 = .ok (.aload_n 0, 1) := by decide +kernel
theorem dL_isLoop_33 : decode cL_isLoop 33 = .ok (.iload_n 3, 1) := by decide +kernel
theorem dL_isLoop_34 : decode cL_isLoop 34 = .ok (.iconst 0, 1) := by decide +kernel
theorem dL_isLoop_35 : decode cL_isLoop 35 = .ok (.invokevirtual 86, 3) := by decide +kernel
theorem dL_isLoop_38 : decode cL_isLoop 38 = .ok (.aload_n 0, 1) := by decide +kernel
theorem dL_isLoop_39 : decode cL_isLoop 39 = .ok (.iconst 0, 1) := by decide +kernel
theorem dL_isLoop_40 : decode cL_isLoop 40 = .ok (.invokevirtual 83, 3) := by decide +kernel
theorem dL_isLoop_43 : decode cL_isLoop 43 = .ok (.if_icmp .le 9, 3) := by decide +kernel
theorem dL_isLoop_46 : decode cL_isLoop 46 = .ok (.iload_n 2, 1) := by decide +kernel
theorem dL_isLoop_47 : decode cL_isLoop 47 = .ok (.iconst 1, 1) := by decide +kernel
theorem dL_isLoop_48 : decode cL_isLoop 48 = .ok (.iadd, 1) := by decide +kernel
theorem dL_isLoop_49 : decode cL_isLoop 49 = .ok (.goto 4, 3) := by decide +kernel
theorem dL_isLoop_52 : decode cL_isLoop 52 = .ok (.iload_n 2, 1) := by decide +kernel
theorem dL_isLoop_53 : decode cL_isLoop 53 = .ok (.istore_n 2, 1) := by decide +kernel
theorem dL_isLoop_54 : decode cL_isLoop 54 = .ok (.iload 4, 2) := by decide +kernel
theorem dL_isLoop_56 : decode cL_isLoop 56 = .ok (.ifCond .ne 8, 3) := by decide +kernel
theorem dL_isLoop_59 : decode cL_isLoop 59 = .ok (.bipush 50, 2) := by decide +kernel
theorem dL_isLoop_61 : decode cL_isLoop 61 = .ok (.goto 16, 3) := by decide +kernel
theorem dL_isLoop_64 : decode cL_isLoop 64 = .ok (.iload 4, 2) := by decide +kernel
theorem dL_isLoop_66 : decode cL_isLoop 66 = .ok (.iconst 1, 1) := by decide +kernel
theorem dL_isLoop_67 : decode cL_isLoop 67 = .ok (.if_icmp .ne 7, 3) := by decide +kernel
theorem dL_isLoop_70 : decode cL_isLoop 70 = .ok (.iconst 3, 1) := by decide +kernel
theorem dL_isLoop_71 : decode cL_isLoop 71 = .ok (.goto 6, 3) := by decide +kernel
theorem dL_isLoop_74 : decode cL_isLoop 74 = .ok (.sipush 2000, 3) := by decide +kernel
theorem dL_isLoop_77 : decode cL_isLoop 77 = .ok (.istore 6, 2) := by decide +kernel
theorem dL_isLoop_79 : decode cL_isLoop 79 = .ok (.iload_n 3, 1) := by decide +kernel
theorem dL_isLoop_80 : decode cL_isLoop 80 = .ok (.ifCond .le 20, 3) := by decide +kernel
theorem dL_isLoop_83 : decode cL_isLoop 83 = .ok (.aload_n 0, 1) := by decide +kernel
theorem dL_isLoop_84 : decode cL_isLoop 84 = .ok (.iload_n 3, 1) := by decide +kernel
theorem dL_isLoop_85 : decode cL_isLoop 85 = .ok (.iconst 0, 1) := by decide +kernel
theorem dL_isLoop_86 : decode cL_isLoop 86 = .ok (.invokevirtual 86, 3) := by decide +kernel
theorem dL_isLoop_89 : decode cL_isLoop 89 = .ok (.aload_n 0, 1) := by decide +kernel
theorem dL_isLoop_90 : decode cL_isLoop 90 = .ok (.iload_n 3, 1) := by decide +kernel
theorem dL_isLoop_91 : decode cL_isLoop 91 = .ok (.iconst 1, 1) := by decide +kernel
theorem dL_isLoop_92 : decode cL_isLoop 92 = .ok (.isub, 1) := by decide +kernel
theorem dL_isLoop_93 : decode cL_isLoop 93 = .ok (.iconst 0, 1) := by decide +kernel
theorem dL_isLoop_94 : decode cL_isLoop 94 = .ok (.invokevirtual 86, 3) := by decide +kernel
theorem dL_isLoop_97 : decode cL_isLoop 97 = .ok (.if_icmp .lt 26, 3) := by decide +kernel
theorem dL_isLoop_100 : decode cL_isLoop 100 = .ok (.iload 4, 2) := by decide +kernel
theorem dL_isLoop_102 : decode cL_isLoop 102 = .ok (.ifCond .lt 21, 3) := by decide +kernel
theorem dL_isLoop_105 : decode cL_isLoop 105 = .ok (.iload 4, 2) := by decide +kernel
theorem dL_isLoop_107 : decode cL_isLoop 107 = .ok (.iconst 2, 1) := by decide +kernel
theorem dL_isLoop_108 : decode cL_isLoop 108 = .ok (.if_icmp .gt 15, 3) := by decide +kernel
theorem dL_isLoop_111 : decode cL_isLoop 111 = .ok (.iload 5, 2) := by decide +kernel
theorem dL_isLoop_113 : decode cL_isLoop 113 = .ok (.ifCond .lt 10, 3) := by decide +kernel
theorem dL_isLoop_116 : decode cL_isLoop 116 = .ok (.iload 5, 2) := by decide +kernel
theorem dL_isLoop_118 : decode cL_isLoop 118 = .ok (.iload 6, 2) := by decide +kernel
theorem dL_isLoop_120 : decode cL_isLoop 120 = .ok (.if_icmp .le 5, 3) := by decide +kernel
theorem dL_isLoop_123 : decode cL_isLoop 123 = .ok (.iconst 0, 1) := by decide +kernel
theorem dL_isLoop_124 : decode cL_isLoop 124 = .ok (.ireturn, 1) := by decide +kernel
theorem dL_isLoop_125 : decode cL_isLoop 125 = .ok (.iinc 3 1, 3) := by decide +kernel
theorem dL_isLoop_128 : decode cL_isLoop 128 = .ok (.goto (-117), 3) := by decide +kernel
theorem dL_isLoop_131 : decode cL_isLoop 131 = .ok (.aload_n 0, 1) := by decide +kernel
theorem dL_isLoop_132 : decode cL_isLoop 132 = .ok (.bipush 6, 2) := by decide +kernel
theorem dL_isLoop_134 : decode cL_isLoop 134 = .ok (.invokevirtual 83, 3) := by decide +kernel
theorem dL_isLoop_137 : decode cL_isLoop 137 = .ok (.istore_n 3, 1) := by decide +kernel
theorem dL_isLoop_138 : decode cL_isLoop 138 = .ok (.aload_n 0, 1) := by decide +kernel
theorem dL_isLoop_139 : decode cL_isLoop 139 = .ok (.bipush 9, 2) := by decide +kernel
theorem dL_isLoop_141 : decode cL_isLoop 141 = .ok (.invokevirtual 83, 3) := by decide +kernel
theorem dL_isLoop_144 : decode cL_isLoop 144 = .ok (.iload_n 2, 1) := by decide +kernel
theorem dL_isLoop_145 : decode cL_isLoop 145 = .ok (.if_icmp .ne 72, 3) := by decide +kernel
theorem dL_isLoop_148 : decode cL_isLoop 148 = .ok (.aload_n 0, 1) := by decide +kernel
theorem dL_isLoop_149 : decode cL_isLoop 149 = .ok (.iconst 2, 1) := by decide +kernel
theorem dL_isLoop_150 : decode cL_isLoop 150 = .ok (.invokevirtual 83, 3) := by decide +kernel
theorem dL_isLoop_153 : decode cL_isLoop 153 = .ok (.ifCond .lt 64, 3) := by decide +kernel
theorem dL_isLoop_156 : decode cL_isLoop 156 = .ok (.aload_n 0, 1) := by decide +kernel
theorem dL_isLoop_157 : decode cL_isLoop 157 = .ok (.iconst 2, 1) := by decide +kernel
theorem dL_isLoop_158 : decode cL_isLoop 158 = .ok (.invokevirtual 83, 3) := by decide +kernel
theorem dL_isLoop_161 : decode cL_isLoop 161 = .ok (.bipush 50, 2) := by decide +kernel
theorem dL_isLoop_163 : decode cL_isLoop 163 = .ok (.if_icmp .gt 54, 3) := by decide +kernel
theorem dL_isLoop_166 : decode cL_isLoop 166 = .ok (.aload_n 0, 1) := by decide +kernel
theorem dL_isLoop_167 : decode cL_isLoop 167 = .ok (.iconst 3, 1) := by decide +kernel
theorem dL_isLoop_168 : decode cL_isLoop 168 = .ok (.invokevirtual 83, 3) := by decide +kernel
theorem dL_isLoop_171 : decode cL_isLoop 171 = .ok (.ifCond .lt 46, 3) := by decide +kernel
theorem dL_isLoop_174 : decode cL_isLoop 174 = .ok (.aload_n 0, 1) := by decide +kernel
theorem dL_isLoop_175 : decode cL_isLoop 175 = .ok (.iconst 3, 1) := by decide +kernel
theorem dL_isLoop_176 : decode cL_isLoop 176 = .ok (.invokevirtual 83, 3) := by decide +kernel
theorem dL_isLoop_179 : decode cL_isLoop 179 = .ok (.bipush 20, 2) := by decide +kernel
theorem dL_isLoop_181 : decode cL_isLoop 181 = .ok (.if_icmp .gt 36, 3) := by decide +kernel
theorem dL_isLoop_184 : decode cL_isLoop 184 = .ok (.aload_n 0, 1) := by decide +kernel
theorem dL_isLoop_185 : decode cL_isLoop 185 = .ok (.iconst 4, 1) := by decide +kernel
theorem dL_isLoop_186 : decode cL_isLoop 186 = .ok (.invokevirtual 83, 3) := by decide +kernel
theorem dL_isLoop_189 : decode cL_isLoop 189 = .ok (.ifCond .lt 28, 3) := by decide +kernel
theorem dL_isLoop_192 : decode cL_isLoop 192 = .ok (.aload_n 0, 1) := by decide +kernel
theorem dL_isLoop_193 : decode cL_isLoop 193 = .ok (.iconst 4, 1) := by decide +kernel
theorem dL_isLoop_194 : decode cL_isLoop 194 = .ok (.invokevirtual 83, 3) := by decide +kernel
theorem dL_isLoop_197 : decode cL_isLoop 197 = .ok (.sipush 3000, 3) := by decide +kernel
theorem dL_isLoop_200 : decode cL_isLoop 200 = .ok (.if_icmp .gt 17, 3) := by decide +kernel
theorem dL_isLoop_203 : decode cL_isLoop 203 = .ok (.aload_n 0, 1) := by decide +kernel
theorem dL_isLoop_204 : decode cL_isLoop 204 = .ok (.iload_n 1, 1) := by decide +kernel
theorem dL_isLoop_205 : decode cL_isLoop 205 = .ok (.iconst 0, 1) := by decide +kernel
theorem dL_isLoop_206 : decode cL_isLoop 206 = .ok (.invokevirtual 86, 3) := by decide +kernel
theorem dL_isLoop_209 : decode cL_isLoop 209 = .ok (.iconst (-1), 1) := by decide +kernel
theorem dL_isLoop_210 : decode cL_isLoop 210 = .ok (.if_icmp .ne 7, 3) := by decide +kernel
theorem dL_isLoop_213 : decode cL_isLoop 213 = .ok (.iconst 1, 1) := by decide +kernel
theorem dL_isLoop_214 : decode cL_isLoop 214 = .ok (.goto 4, 3) := by decide +kernel
theorem dL_isLoop_217 : decode cL_isLoop 217 = .ok (.iconst 0, 1) := by decide +kernel
theorem dL_isLoop_218 : decode cL_isLoop 218 = .ok (.istore 4, 2) := by decide +kernel
theorem dL_isLoop_220 : decode cL_isLoop 220 = .ok (.iload 4, 2) := by decide +kernel
theorem dL_isLoop_222 : decode cL_isLoop 222 = .ok (.ifCond .eq 83, 3) := by decide +kernel
theorem dL_isLoop_225 : decode cL_isLoop 225 = .ok (.aload_n 0, 1) := by decide +kernel
theorem dL_isLoop_226 : decode cL_isLoop 226 = .ok (.iconst 0, 1) := by decide +kernel
theorem dL_isLoop_227 : decode cL_isLoop 227 = .ok (.invokevirtual 83, 3) := by decide +kernel
theorem dL_isLoop_230 : decode cL_isLoop 230 = .ok (.ifCond .ne 7, 3) := by decide +kernel
theorem dL_isLoop_233 : decode cL_isLoop 233 = .ok (.iconst 1, 1) := by decide +kernel
theorem dL_isLoop_234 : decode cL_isLoop 234 = .ok (.goto 4, 3) := by decide +kernel
theorem dL_isLoop_237 : decode cL_isLoop 237 = .ok (.iconst 0, 1) := by decide +kernel
theorem dL_isLoop_238 : decode cL_isLoop 238 = .ok (.iload_n 3, 1) := by decide +kernel
theorem dL_isLoop_239 : decode cL_isLoop 239 = .ok (.bipush (-9), 2) := by decide +kernel
theorem dL_isLoop_241 : decode cL_isLoop 241 = .ok (.if_icmp .ne 7, 3) := by decide +kernel
theorem dL_isLoop_244 : decode cL_isLoop 244 = .ok (.iconst 1, 1) := by decide +kernel
theorem dL_isLoop_245 : decode cL_isLoop 245 = .ok (.goto 4, 3) := by decide +kernel
theorem dL_isLoop_248 : decode cL_isLoop 248 = .ok (.iconst 0, 1) := by decide +kernel
theorem dL_isLoop_249 : decode cL_isLoop 249 = .ok (.if_icmp .ne 56, 3) := by decide +kernel
theorem dL_isLoop_252 : decode cL_isLoop 252 = .ok (.iload_n 3, 1) := by decide +kernel
theorem dL_isLoop_253 : decode cL_isLoop 253 = .ok (.bipush (-9), 2) := by decide +kernel
theorem dL_isLoop_255 : decode cL_isLoop 255 = .ok (.if_icmp .ne 7, 3) := by decide +kernel
theorem dL_isLoop_258 : decode cL_isLoop 258 = .ok (.iconst 1, 1) := by decide +kernel
theorem dL_isLoop_259 : decode cL_isLoop 259 = .ok (.goto 4, 3) := by decide +kernel
theorem dL_isLoop_262 : decode cL_isLoop 262 = .ok (.iconst 0, 1) := by decide +kernel
theorem dL_isLoop_263 : decode cL_isLoop 263 = .ok (.aload_n 0, 1) := by decide +kernel
theorem dL_isLoop_264 : decode cL_isLoop 264 = .ok (.bipush 7, 2) := by decide +kernel
theorem dL_isLoop_266 : decode cL_isLoop 266 = .ok (.invokevirtual 83, 3) := by decide +kernel
theorem dL_isLoop_269 : decode cL_isLoop 269 = .ok (.bipush (-9), 2) := by decide +kernel
theorem dL_isLoop_271 : decode cL_isLoop 271 = .ok (.if_icmp .ne 7, 3) := by decide +kernel
theorem dL_isLoop_274 : decode cL_isLoop 274 = .ok (.iconst 1, 1) := by decide +kernel
theorem dL_isLoop_275 : decode cL_isLoop 275 = .ok (.goto 4, 3) := by decide +kernel
theorem dL_isLoop_278 : decode cL_isLoop 278 = .ok (.iconst 0, 1) := by decide +kernel
theorem dL_isLoop_279 : decode cL_isLoop 279 = .ok (.if_icmp .ne 26, 3) := by decide +kernel
theorem dL_isLoop_282 : decode cL_isLoop 282 = .ok (.iload_n 3, 1) := by decide +kernel
theorem dL_isLoop_283 : decode cL_isLoop 283 = .ok (.iconst 4, 1) := by decide +kernel
theorem dL_isLoop_284 : decode cL_isLoop 284 = .ok (.if_icmp .ge 21, 3) := by decide +kernel
theorem dL_isLoop_287 : decode cL_isLoop 287 = .ok (.aload_n 0, 1) := by decide +kernel
theorem dL_isLoop_288 : decode cL_isLoop 288 = .ok (.bipush 10, 2) := by decide +kernel
theorem dL_isLoop_290 : decode cL_isLoop 290 = .ok (.invokevirtual 83, 3) := by decide +kernel
theorem dL_isLoop_293 : decode cL_isLoop 293 = .ok (.aload_n 0, 1) := by decide +kernel
theorem dL_isLoop_294 : decode cL_isLoop 294 = .ok (.iconst 0, 1) := by decide +kernel
theorem dL_isLoop_295 : decode cL_isLoop 295 = .ok (.invokevirtual 83, 3) := by decide +kernel
theorem dL_isLoop_298 : decode cL_isLoop 298 = .ok (.if_icmp .gt 7, 3) := by decide +kernel
theorem dL_isLoop_301 : decode cL_isLoop 301 = .ok (.iconst 1, 1) := by decide +kernel
theorem dL_isLoop_302 : decode cL_isLoop 302 = .ok (.goto 4, 3) := by decide +kernel
theorem dL_isLoop_305 : decode cL_isLoop 305 = .ok (.iconst 0, 1) := by decide +kernel
theorem dL_isLoop_306 : decode cL_isLoop 306 = .ok (.ireturn, 1) := by decide +kernel
def k_L_isLoop : List pEn := [oAload 0, oConst (8), oCallZ 2 F_X8_told, oIstore 1, oConst (0), oIstore 2, oConst (0), oIstore 3, oIload 3, oIload 1, oCge 73, oAload 0, oIload 3, oConst (1), oCallZ 3 F_X8_entry, oIstore 4, oAload 0, oIload 3, oConst (2), oCallZ 3 F_X8_entry, oIstore 5, oAload 0, oIload 3, oConst (0), oCallZ 3 F_X8_entry, oAload 0, oConst (0), oCallZ 2 F_X8_told, oCle 33, oIload 2, oConst (1), oAdd, oGoto 34, oIload 2, oIstore 2, oIload 4, oIfne 39, oConst (50), oGoto 45, oIload 4, oConst (1), oCne 44, oConst (3), oGoto 45, oConst (2000), oIstore 6, oIload 3, oIfle 59, oAload 0, oIload 3, oConst (0), oCallZ 3 F_X8_entry, oAload 0, oIload 3, oConst (1), oSub, oConst (0), oCallZ 3 F_X8_entry, oClt 69, oIload 4, oIflt 69, oIload 4, oConst (2), oCgt 69, oIload 5, oIflt 69, oIload 5, oIload 6, oCle 71, oConst (0), oZret, oIinc 3 (1), oGoto 8, oAload 0, oConst (6), oCallZ 2 F_X8_told, oIstore 3, oAload 0, oConst (9), oCallZ 2 F_X8_told, oIload 2, oCne 117, oAload 0, oConst (2), oCallZ 2 F_X8_told, oIflt 117, oAload 0, oConst (2), oCallZ 2 F_X8_told, oConst (50), oCgt 117, oAload 0, oConst (3), oCallZ 2 F_X8_told, oIflt 117, oAload 0, oConst (3), oCallZ 2 F_X8_told, oConst (20), oCgt 117, oAload 0, oConst (4), oCallZ 2 F_X8_told, oIflt 117, oAload 0, oConst (4), oCallZ 2 F_X8_told, oConst (3000), oCgt 117, oAload 0, oIload 1, oConst (0), oCallZ 3 F_X8_entry, oConst (-1), oCne 117, oConst (1), oGoto 118, oConst (0), oIstore 4, oIload 4, oIfeq 162, oAload 0, oConst (0), oCallZ 2 F_X8_told, oIfne 127, oConst (1), oGoto 128, oConst (0), oIload 3, oConst (-9), oCne 133, oConst (1), oGoto 134, oConst (0), oCne 162, oIload 3, oConst (-9), oCne 140, oConst (1), oGoto 141, oConst (0), oAload 0, oConst (7), oCallZ 2 F_X8_told, oConst (-9), oCne 148, oConst (1), oGoto 149, oConst (0), oCne 162, oIload 3, oConst (4), oCge 162, oAload 0, oConst (10), oCallZ 2 F_X8_told, oAload 0, oConst (0), oCallZ 2 F_X8_told, oCgt 162, oConst (1), oGoto 163, oConst (0), oZret]
def pc_L_isLoop (i : Nat) : Nat := ([0, 1, 3, 6, 7, 8, 9, 10, 11, 12, 13, 16, 17, 18, 19, 22, 24, 25, 26, 27, 30, 32, 33, 34, 35, 38, 39, 40, 43, 46, 47, 48, 49, 52, 53, 54, 56, 59, 61, 64, 66, 67, 70, 71, 74, 77, 79, 80, 83, 84, 85, 86, 89, 90, 91, 92, 93, 94, 97, 100, 102, 105, 107, 108, 111, 113, 116, 118, 120, 123, 124, 125, 128, 131, 132, 134, 137, 138, 139, 141, 144, 145, 148, 149, 150, 153, 156, 157, 158, 161, 163, 166, 167, 168, 171, 174, 175, 176, 179, 181, 184, 185, 186, 189, 192, 193, 194, 197, 200, 203, 204, 205, 206, 209, 210, 213, 214, 217, 218, 220, 222, 225, 226, 227, 230, 233, 234, 237, 238, 239, 241, 244, 245, 248, 249, 252, 253, 255, 258, 259, 262, 263, 264, 266, 269, 271, 274, 275, 278, 279, 282, 283, 284, 287, 288, 290, 293, 294, 295, 298, 301, 302, 305, 306] : List Nat).getD i 0
abbrev rm_L_isLoop : Room := { frames := 2, cells := 0, slots := 0, locals := 44 }
theorem pl_L_isLoop : pPlain yL_isLoop 1 := by decide +kernel
set_option maxRecDepth 100000 in
set_option maxHeartbeats 4000000 in
theorem ok_k_L_isLoop (l : Launch) : ∀ (i : Nat) (en : pEn), k_L_isLoop[i]? = some en → EOK l cL_isLoop yL_isLoop.cls 7 ((some FieldType.boolean)) rm_L_isLoop 0 pc_L_isLoop i en := by
  refine allOK_at ?_
  refine And.intro (okAload_n dL_isLoop_0 rfl rfl) ?_
  refine And.intro (okBipush dL_isLoop_1 rfl (by first | rfl | decide)) ?_
  refine And.intro (okCallV (y := yX8_told) (T := TX8) (oCallZ_is _ _ _) dL_isLoop_3 rfl (ok_F_X8_told l) rc_F_X8_told rfl wn_3_120 wm_3_63 wm_3_64 wm_1_1 wm_3_65 pl_X8_told (by decide)) ?_
  refine And.intro (okIstore_n dL_isLoop_6 rfl rfl (by decide)) ?_
  refine And.intro (okIconst dL_isLoop_7 rfl (by first | rfl | decide)) ?_
  refine And.intro (okIstore_n dL_isLoop_8 rfl rfl (by decide)) ?_
  refine And.intro (okIconst dL_isLoop_9 rfl (by first | rfl | decide)) ?_
  refine And.intro (okIstore_n dL_isLoop_10 rfl rfl (by decide)) ?_
  refine And.intro (okIload_n dL_isLoop_11 rfl rfl) ?_
  refine And.intro (okIload_n dL_isLoop_12 rfl rfl) ?_
  refine And.intro (okCge dL_isLoop_13 rfl (by rfl)) ?_
  refine And.intro (okAload_n dL_isLoop_16 rfl rfl) ?_
  refine And.intro (okIload_n dL_isLoop_17 rfl rfl) ?_
  refine And.intro (okIconst dL_isLoop_18 rfl (by first | rfl | decide)) ?_
  refine And.intro (okCallV (y := yX8_entry) (T := TX8) (oCallZ_is _ _ _) dL_isLoop_19 rfl (ok_F_X8_entry l) rc_F_X8_entry rfl wn_3_132 wm_3_98 wm_3_99 wm_1_1 wm_3_100 pl_X8_entry (by decide)) ?_
  refine And.intro (okIstore dL_isLoop_22 rfl (by decide)) ?_
  refine And.intro (okAload_n dL_isLoop_24 rfl rfl) ?_
  refine And.intro (okIload_n dL_isLoop_25 rfl rfl) ?_
  refine And.intro (okIconst dL_isLoop_26 rfl (by first | rfl | decide)) ?_
  refine And.intro (okCallV (y := yX8_entry) (T := TX8) (oCallZ_is _ _ _) dL_isLoop_27 rfl (ok_F_X8_entry l) rc_F_X8_entry rfl wn_3_132 wm_3_98 wm_3_99 wm_1_1 wm_3_100 pl_X8_entry (by decide)) ?_
  refine And.intro (okIstore dL_isLoop_30 rfl (by decide)) ?_
  refine And.intro (okAload_n dL_isLoop_32 rfl rfl) ?_
  refine And.intro (okIload_n dL_isLoop_33 rfl rfl) ?_
  refine And.intro (okIconst dL_isLoop_34 rfl (by first | rfl | decide)) ?_
  refine And.intro (okCallV (y := yX8_entry) (T := TX8) (oCallZ_is _ _ _) dL_isLoop_35 rfl (ok_F_X8_entry l) rc_F_X8_entry rfl wn_3_132 wm_3_98 wm_3_99 wm_1_1 wm_3_100 pl_X8_entry (by decide)) ?_
  refine And.intro (okAload_n dL_isLoop_38 rfl rfl) ?_
  refine And.intro (okIconst dL_isLoop_39 rfl (by first | rfl | decide)) ?_
  refine And.intro (okCallV (y := yX8_told) (T := TX8) (oCallZ_is _ _ _) dL_isLoop_40 rfl (ok_F_X8_told l) rc_F_X8_told rfl wn_3_120 wm_3_63 wm_3_64 wm_1_1 wm_3_65 pl_X8_told (by decide)) ?_
  refine And.intro (okCle dL_isLoop_43 rfl (by rfl)) ?_
  refine And.intro (okIload_n dL_isLoop_46 rfl rfl) ?_
  refine And.intro (okIconst dL_isLoop_47 rfl (by first | rfl | decide)) ?_
  refine And.intro (okAdd dL_isLoop_48 rfl) ?_
  refine And.intro (okGoto dL_isLoop_49 (by rfl)) ?_
  refine And.intro (okIload_n dL_isLoop_52 rfl rfl) ?_
  refine And.intro (okIstore_n dL_isLoop_53 rfl rfl (by decide)) ?_
  refine And.intro (okIload dL_isLoop_54 rfl) ?_
  refine And.intro (okIfne dL_isLoop_56 rfl (by rfl)) ?_
  refine And.intro (okBipush dL_isLoop_59 rfl (by first | rfl | decide)) ?_
  refine And.intro (okGoto dL_isLoop_61 (by rfl)) ?_
  refine And.intro (okIload dL_isLoop_64 rfl) ?_
  refine And.intro (okIconst dL_isLoop_66 rfl (by first | rfl | decide)) ?_
  refine And.intro (okCne dL_isLoop_67 rfl (by rfl)) ?_
  refine And.intro (okIconst dL_isLoop_70 rfl (by first | rfl | decide)) ?_
  refine And.intro (okGoto dL_isLoop_71 (by rfl)) ?_
  refine And.intro (okSipush dL_isLoop_74 rfl (by first | rfl | decide)) ?_
  refine And.intro (okIstore dL_isLoop_77 rfl (by decide)) ?_
  refine And.intro (okIload_n dL_isLoop_79 rfl rfl) ?_
  refine And.intro (okIfle dL_isLoop_80 rfl (by rfl)) ?_
  refine And.intro (okAload_n dL_isLoop_83 rfl rfl) ?_
  refine And.intro (okIload_n dL_isLoop_84 rfl rfl) ?_
  refine And.intro (okIconst dL_isLoop_85 rfl (by first | rfl | decide)) ?_
  refine And.intro (okCallV (y := yX8_entry) (T := TX8) (oCallZ_is _ _ _) dL_isLoop_86 rfl (ok_F_X8_entry l) rc_F_X8_entry rfl wn_3_132 wm_3_98 wm_3_99 wm_1_1 wm_3_100 pl_X8_entry (by decide)) ?_
  refine And.intro (okAload_n dL_isLoop_89 rfl rfl) ?_
  refine And.intro (okIload_n dL_isLoop_90 rfl rfl) ?_
  refine And.intro (okIconst dL_isLoop_91 rfl (by first | rfl | decide)) ?_
  refine And.intro (okSub dL_isLoop_92 rfl) ?_
  refine And.intro (okIconst dL_isLoop_93 rfl (by first | rfl | decide)) ?_
  refine And.intro (okCallV (y := yX8_entry) (T := TX8) (oCallZ_is _ _ _) dL_isLoop_94 rfl (ok_F_X8_entry l) rc_F_X8_entry rfl wn_3_132 wm_3_98 wm_3_99 wm_1_1 wm_3_100 pl_X8_entry (by decide)) ?_
  refine And.intro (okClt dL_isLoop_97 rfl (by rfl)) ?_
  refine And.intro (okIload dL_isLoop_100 rfl) ?_
  refine And.intro (okIflt dL_isLoop_102 rfl (by rfl)) ?_
  refine And.intro (okIload dL_isLoop_105 rfl) ?_
  refine And.intro (okIconst dL_isLoop_107 rfl (by first | rfl | decide)) ?_
  refine And.intro (okCgt dL_isLoop_108 rfl (by rfl)) ?_
  refine And.intro (okIload dL_isLoop_111 rfl) ?_
  refine And.intro (okIflt dL_isLoop_113 rfl (by rfl)) ?_
  refine And.intro (okIload dL_isLoop_116 rfl) ?_
  refine And.intro (okIload dL_isLoop_118 rfl) ?_
  refine And.intro (okCle dL_isLoop_120 rfl (by rfl)) ?_
  refine And.intro (okIconst dL_isLoop_123 rfl (by first | rfl | decide)) ?_
  refine And.intro (okZret dL_isLoop_124 rfl) ?_
  refine And.intro (okIinc dL_isLoop_125 rfl (by first | rfl | decide) (by decide)) ?_
  refine And.intro (okGoto dL_isLoop_128 (by rfl)) ?_
  refine And.intro (okAload_n dL_isLoop_131 rfl rfl) ?_
  refine And.intro (okBipush dL_isLoop_132 rfl (by first | rfl | decide)) ?_
  refine And.intro (okCallV (y := yX8_told) (T := TX8) (oCallZ_is _ _ _) dL_isLoop_134 rfl (ok_F_X8_told l) rc_F_X8_told rfl wn_3_120 wm_3_63 wm_3_64 wm_1_1 wm_3_65 pl_X8_told (by decide)) ?_
  refine And.intro (okIstore_n dL_isLoop_137 rfl rfl (by decide)) ?_
  refine And.intro (okAload_n dL_isLoop_138 rfl rfl) ?_
  refine And.intro (okBipush dL_isLoop_139 rfl (by first | rfl | decide)) ?_
  refine And.intro (okCallV (y := yX8_told) (T := TX8) (oCallZ_is _ _ _) dL_isLoop_141 rfl (ok_F_X8_told l) rc_F_X8_told rfl wn_3_120 wm_3_63 wm_3_64 wm_1_1 wm_3_65 pl_X8_told (by decide)) ?_
  refine And.intro (okIload_n dL_isLoop_144 rfl rfl) ?_
  refine And.intro (okCne dL_isLoop_145 rfl (by rfl)) ?_
  refine And.intro (okAload_n dL_isLoop_148 rfl rfl) ?_
  refine And.intro (okIconst dL_isLoop_149 rfl (by first | rfl | decide)) ?_
  refine And.intro (okCallV (y := yX8_told) (T := TX8) (oCallZ_is _ _ _) dL_isLoop_150 rfl (ok_F_X8_told l) rc_F_X8_told rfl wn_3_120 wm_3_63 wm_3_64 wm_1_1 wm_3_65 pl_X8_told (by decide)) ?_
  refine And.intro (okIflt dL_isLoop_153 rfl (by rfl)) ?_
  refine And.intro (okAload_n dL_isLoop_156 rfl rfl) ?_
  refine And.intro (okIconst dL_isLoop_157 rfl (by first | rfl | decide)) ?_
  refine And.intro (okCallV (y := yX8_told) (T := TX8) (oCallZ_is _ _ _) dL_isLoop_158 rfl (ok_F_X8_told l) rc_F_X8_told rfl wn_3_120 wm_3_63 wm_3_64 wm_1_1 wm_3_65 pl_X8_told (by decide)) ?_
  refine And.intro (okBipush dL_isLoop_161 rfl (by first | rfl | decide)) ?_
  refine And.intro (okCgt dL_isLoop_163 rfl (by rfl)) ?_
  refine And.intro (okAload_n dL_isLoop_166 rfl rfl) ?_
  refine And.intro (okIconst dL_isLoop_167 rfl (by first | rfl | decide)) ?_
  refine And.intro (okCallV (y := yX8_told) (T := TX8) (oCallZ_is _ _ _) dL_isLoop_168 rfl (ok_F_X8_told l) rc_F_X8_told rfl wn_3_120 wm_3_63 wm_3_64 wm_1_1 wm_3_65 pl_X8_told (by decide)) ?_
  refine And.intro (okIflt dL_isLoop_171 rfl (by rfl)) ?_
  refine And.intro (okAload_n dL_isLoop_174 rfl rfl) ?_
  refine And.intro (okIconst dL_isLoop_175 rfl (by first | rfl | decide)) ?_
  refine And.intro (okCallV (y := yX8_told) (T := TX8) (oCallZ_is _ _ _) dL_isLoop_176 rfl (ok_F_X8_told l) rc_F_X8_told rfl wn_3_120 wm_3_63 wm_3_64 wm_1_1 wm_3_65 pl_X8_told (by decide)) ?_
  refine And.intro (okBipush dL_isLoop_179 rfl (by first | rfl | decide)) ?_
  refine And.intro (okCgt dL_isLoop_181 rfl (by rfl)) ?_
  refine And.intro (okAload_n dL_isLoop_184 rfl rfl) ?_
  refine And.intro (okIconst dL_isLoop_185 rfl (by first | rfl | decide)) ?_
  refine And.intro (okCallV (y := yX8_told) (T := TX8) (oCallZ_is _ _ _) dL_isLoop_186 rfl (ok_F_X8_told l) rc_F_X8_told rfl wn_3_120 wm_3_63 wm_3_64 wm_1_1 wm_3_65 pl_X8_told (by decide)) ?_
  refine And.intro (okIflt dL_isLoop_189 rfl (by rfl)) ?_
  refine And.intro (okAload_n dL_isLoop_192 rfl rfl) ?_
  refine And.intro (okIconst dL_isLoop_193 rfl (by first | rfl | decide)) ?_
  refine And.intro (okCallV (y := yX8_told) (T := TX8) (oCallZ_is _ _ _) dL_isLoop_194 rfl (ok_F_X8_told l) rc_F_X8_told rfl wn_3_120 wm_3_63 wm_3_64 wm_1_1 wm_3_65 pl_X8_told (by decide)) ?_
  refine And.intro (okSipush dL_isLoop_197 rfl (by first | rfl | decide)) ?_
  refine And.intro (okCgt dL_isLoop_200 rfl (by rfl)) ?_
  refine And.intro (okAload_n dL_isLoop_203 rfl rfl) ?_
  refine And.intro (okIload_n dL_isLoop_204 rfl rfl) ?_
  refine And.intro (okIconst dL_isLoop_205 rfl (by first | rfl | decide)) ?_
  refine And.intro (okCallV (y := yX8_entry) (T := TX8) (oCallZ_is _ _ _) dL_isLoop_206 rfl (ok_F_X8_entry l) rc_F_X8_entry rfl wn_3_132 wm_3_98 wm_3_99 wm_1_1 wm_3_100 pl_X8_entry (by decide)) ?_
  refine And.intro (okIconst dL_isLoop_209 rfl (by first | rfl | decide)) ?_
  refine And.intro (okCne dL_isLoop_210 rfl (by rfl)) ?_
  refine And.intro (okIconst dL_isLoop_213 rfl (by first | rfl | decide)) ?_
  refine And.intro (okGoto dL_isLoop_214 (by rfl)) ?_
  refine And.intro (okIconst dL_isLoop_217 rfl (by first | rfl | decide)) ?_
  refine And.intro (okIstore dL_isLoop_218 rfl (by decide)) ?_
  refine And.intro (okIload dL_isLoop_220 rfl) ?_
  refine And.intro (okIfeq dL_isLoop_222 rfl (by rfl)) ?_
  refine And.intro (okAload_n dL_isLoop_225 rfl rfl) ?_
  refine And.intro (okIconst dL_isLoop_226 rfl (by first | rfl | decide)) ?_
  refine And.intro (okCallV (y := yX8_told) (T := TX8) (oCallZ_is _ _ _) dL_isLoop_227 rfl (ok_F_X8_told l) rc_F_X8_told rfl wn_3_120 wm_3_63 wm_3_64 wm_1_1 wm_3_65 pl_X8_told (by decide)) ?_
  refine And.intro (okIfne dL_isLoop_230 rfl (by rfl)) ?_
  refine And.intro (okIconst dL_isLoop_233 rfl (by first | rfl | decide)) ?_
  refine And.intro (okGoto dL_isLoop_234 (by rfl)) ?_
  refine And.intro (okIconst dL_isLoop_237 rfl (by first | rfl | decide)) ?_
  refine And.intro (okIload_n dL_isLoop_238 rfl rfl) ?_
  refine And.intro (okBipush dL_isLoop_239 rfl (by first | rfl | decide)) ?_
  refine And.intro (okCne dL_isLoop_241 rfl (by rfl)) ?_
  refine And.intro (okIconst dL_isLoop_244 rfl (by first | rfl | decide)) ?_
  refine And.intro (okGoto dL_isLoop_245 (by rfl)) ?_
  refine And.intro (okIconst dL_isLoop_248 rfl (by first | rfl | decide)) ?_
  refine And.intro (okCne dL_isLoop_249 rfl (by rfl)) ?_
  refine And.intro (okIload_n dL_isLoop_252 rfl rfl) ?_
  refine And.intro (okBipush dL_isLoop_253 rfl (by first | rfl | decide)) ?_
  refine And.intro (okCne dL_isLoop_255 rfl (by rfl)) ?_
  refine And.intro (okIconst dL_isLoop_258 rfl (by first | rfl | decide)) ?_
  refine And.intro (okGoto dL_isLoop_259 (by rfl)) ?_
  refine And.intro (okIconst dL_isLoop_262 rfl (by first | rfl | decide)) ?_
  refine And.intro (okAload_n dL_isLoop_263 rfl rfl) ?_
  refine And.intro (okBipush dL_isLoop_264 rfl (by first | rfl | decide)) ?_
  refine And.intro (okCallV (y := yX8_told) (T := TX8) (oCallZ_is _ _ _) dL_isLoop_266 rfl (ok_F_X8_told l) rc_F_X8_told rfl wn_3_120 wm_3_63 wm_3_64 wm_1_1 wm_3_65 pl_X8_told (by decide)) ?_
  refine And.intro (okBipush dL_isLoop_269 rfl (by first | rfl | decide)) ?_
  refine And.intro (okCne dL_isLoop_271 rfl (by rfl)) ?_
  refine And.intro (okIconst dL_isLoop_274 rfl (by first | rfl | decide)) ?_
  refine And.intro (okGoto dL_isLoop_275 (by rfl)) ?_
  refine And.intro (okIconst dL_isLoop_278 rfl (by first | rfl | decide)) ?_
  refine And.intro (okCne dL_isLoop_279 rfl (by rfl)) ?_
  refine And.intro (okIload_n dL_isLoop_282 rfl rfl) ?_
  refine And.intro (okIconst dL_isLoop_283 rfl (by first | rfl | decide)) ?_
  refine And.intro (okCge dL_isLoop_284 rfl (by rfl)) ?_
  refine And.intro (okAload_n dL_isLoop_287 rfl rfl) ?_
  refine And.intro (okBipush dL_isLoop_288 rfl (by first | rfl | decide)) ?_
  refine And.intro (okCallV (y := yX8_told) (T := TX8) (oCallZ_is _ _ _) dL_isLoop_290 rfl (ok_F_X8_told l) rc_F_X8_told rfl wn_3_120 wm_3_63 wm_3_64 wm_1_1 wm_3_65 pl_X8_told (by decide)) ?_
  refine And.intro (okAload_n dL_isLoop_293 rfl rfl) ?_
  refine And.intro (okIconst dL_isLoop_294 rfl (by first | rfl | decide)) ?_
  refine And.intro (okCallV (y := yX8_told) (T := TX8) (oCallZ_is _ _ _) dL_isLoop_295 rfl (ok_F_X8_told l) rc_F_X8_told rfl wn_3_120 wm_3_63 wm_3_64 wm_1_1 wm_3_65 pl_X8_told (by decide)) ?_
  refine And.intro (okCgt dL_isLoop_298 rfl (by rfl)) ?_
  refine And.intro (okIconst dL_isLoop_301 rfl (by first | rfl | decide)) ?_
  refine And.intro (okGoto dL_isLoop_302 (by rfl)) ?_
  refine And.intro (okIconst dL_isLoop_305 rfl (by first | rfl | decide)) ?_
  refine And.intro (okZret dL_isLoop_306 rfl) ?_
  exact trivial
def F_L_isLoop : pF := fun args w rg => match args with
  | [.ref 0] => unB w (fun f x v u => pif (bOK f rg ∧ LooC v) (some (some (.int (1)), cw f (x) (v) (u), rg)) none)
  | _ => none
set_option maxHeartbeats 800000 in
theorem lo_s000 (rg : pRg) (f : Nat → Option Nat) (x v u : pLV) (s : Int32) {N : Nat} (hc : bOK f rg) (hN : v 0 29 = nI N) (h20 : N ≤ 20) (hk : 0 < N) (ha : v 4 0 ≤ v 0 0) (e1 : v 5 0 = 0) (e2 : v 6 0 ≤ 50) (e3 : ¬ v 6 0 < 0) {T : pOut} (hm : ∃ m, ex k_L_isLoop m 8 [(3, .int (nI (0 + 1))), (6, .int 50), (2, .int s), (5, .int (v 6 0)), (4, .int (v 5 0)), (1, .int (v 0 29)), (0, .ref 0)] [] (cw f x v u) rg = some T) : ∃ m, ex k_L_isLoop m 8 [(3, .int (nI 0)), (2, .int s), (1, .int (v 0 29)), (0, .ref 0)] [] (cw f x v u) rg = some T := by
  obtain ⟨m, hm⟩ := hm
  refine ⟨m + 5, ?_⟩
  conv => lhs; whnf
  refine (pif_f (by rw [hN]; exact nI_le_lt hk (by omega))).trans ?_
  conv => lhs; whnf
  refine (callK_r ((rd_entry f x v u (nI 0) 1 rg hc).trans (by rw [ent_1 x hN h20 hk])) (by rfl)).trans ?_
  conv => lhs; whnf
  refine (callK_r ((rd_entry f x v u (nI 0) 2 rg hc).trans (by rw [ent_2 x hN h20 hk])) (by rfl)).trans ?_
  conv => lhs; whnf
  refine (callK_r ((rd_entry f x v u (nI 0) 0 rg hc).trans (by rw [ent_0 x hN h20 hk])) (by rfl)).trans ?_
  conv => lhs; whnf
  refine (callK_r ((rd_told f x v u 0 rg hc).trans (by rw [tol_0])) (by rfl)).trans ?_
  conv => lhs; whnf
  refine (pif_t ha).trans ?_
  conv => lhs; whnf
  refine (pif_t e1).trans ?_
  conv => lhs; whnf
  refine (pif_t (by decide)).trans ?_
  conv => lhs; whnf
  refine (pif_f (by rw [e1]; decide)).trans ?_
  conv => lhs; whnf
  refine (pif_f (by rw [e1]; decide)).trans ?_
  conv => lhs; whnf
  refine (pif_f e3).trans ?_
  conv => lhs; whnf
  refine (pif_t e2).trans ?_
  conv => lhs; whnf
  rw [nI_1]
  exact hm
set_option maxHeartbeats 800000 in
theorem lo_s001 (rg : pRg) (f : Nat → Option Nat) (x v u : pLV) (s : Int32) {N : Nat} (hc : bOK f rg) (hN : v 0 29 = nI N) (h20 : N ≤ 20) (hk : 0 < N) (ha : v 4 0 ≤ v 0 0) (e1 : v 5 0 = 1) (e2 : v 6 0 ≤ 3) (e3 : ¬ v 6 0 < 0) {T : pOut} (hm : ∃ m, ex k_L_isLoop m 8 [(3, .int (nI (0 + 1))), (6, .int 3), (2, .int s), (5, .int (v 6 0)), (4, .int (v 5 0)), (1, .int (v 0 29)), (0, .ref 0)] [] (cw f x v u) rg = some T) : ∃ m, ex k_L_isLoop m 8 [(3, .int (nI 0)), (2, .int s), (1, .int (v 0 29)), (0, .ref 0)] [] (cw f x v u) rg = some T := by
  obtain ⟨m, hm⟩ := hm
  refine ⟨m + 6, ?_⟩
  conv => lhs; whnf
  refine (pif_f (by rw [hN]; exact nI_le_lt hk (by omega))).trans ?_
  conv => lhs; whnf
  refine (callK_r ((rd_entry f x v u (nI 0) 1 rg hc).trans (by rw [ent_1 x hN h20 hk])) (by rfl)).trans ?_
  conv => lhs; whnf
  refine (callK_r ((rd_entry f x v u (nI 0) 2 rg hc).trans (by rw [ent_2 x hN h20 hk])) (by rfl)).trans ?_
  conv => lhs; whnf
  refine (callK_r ((rd_entry f x v u (nI 0) 0 rg hc).trans (by rw [ent_0 x hN h20 hk])) (by rfl)).trans ?_
  conv => lhs; whnf
  refine (callK_r ((rd_told f x v u 0 rg hc).trans (by rw [tol_0])) (by rfl)).trans ?_
  conv => lhs; whnf
  refine (pif_t ha).trans ?_
  conv => lhs; whnf
  refine (pif_f (by rw [e1]; decide)).trans ?_
  conv => lhs; whnf
  refine (pif_t e1).trans ?_
  conv => lhs; whnf
  refine (pif_t (by decide)).trans ?_
  conv => lhs; whnf
  refine (pif_f (by rw [e1]; decide)).trans ?_
  conv => lhs; whnf
  refine (pif_f (by rw [e1]; decide)).trans ?_
  conv => lhs; whnf
  refine (pif_f e3).trans ?_
  conv => lhs; whnf
  refine (pif_t e2).trans ?_
  conv => lhs; whnf
  rw [nI_1]
  exact hm
set_option maxHeartbeats 800000 in
theorem lo_s002 (rg : pRg) (f : Nat → Option Nat) (x v u : pLV) (s : Int32) {N : Nat} (hc : bOK f rg) (hN : v 0 29 = nI N) (h20 : N ≤ 20) (hk : 0 < N) (ha : v 4 0 ≤ v 0 0) (e1 : v 5 0 = 2) (e2 : v 6 0 ≤ 2000) (e3 : ¬ v 6 0 < 0) {T : pOut} (hm : ∃ m, ex k_L_isLoop m 8 [(3, .int (nI (0 + 1))), (6, .int 2000), (2, .int s), (5, .int (v 6 0)), (4, .int (v 5 0)), (1, .int (v 0 29)), (0, .ref 0)] [] (cw f x v u) rg = some T) : ∃ m, ex k_L_isLoop m 8 [(3, .int (nI 0)), (2, .int s), (1, .int (v 0 29)), (0, .ref 0)] [] (cw f x v u) rg = some T := by
  obtain ⟨m, hm⟩ := hm
  refine ⟨m + 6, ?_⟩
  conv => lhs; whnf
  refine (pif_f (by rw [hN]; exact nI_le_lt hk (by omega))).trans ?_
  conv => lhs; whnf
  refine (callK_r ((rd_entry f x v u (nI 0) 1 rg hc).trans (by rw [ent_1 x hN h20 hk])) (by rfl)).trans ?_
  conv => lhs; whnf
  refine (callK_r ((rd_entry f x v u (nI 0) 2 rg hc).trans (by rw [ent_2 x hN h20 hk])) (by rfl)).trans ?_
  conv => lhs; whnf
  refine (callK_r ((rd_entry f x v u (nI 0) 0 rg hc).trans (by rw [ent_0 x hN h20 hk])) (by rfl)).trans ?_
  conv => lhs; whnf
  refine (callK_r ((rd_told f x v u 0 rg hc).trans (by rw [tol_0])) (by rfl)).trans ?_
  conv => lhs; whnf
  refine (pif_t ha).trans ?_
  conv => lhs; whnf
  refine (pif_f (by rw [e1]; decide)).trans ?_
  conv => lhs; whnf
  refine (pif_f (by rw [e1]; decide)).trans ?_
  conv => lhs; whnf
  refine (pif_t (by decide)).trans ?_
  conv => lhs; whnf
  refine (pif_f (by rw [e1]; decide)).trans ?_
  conv => lhs; whnf
  refine (pif_f (by rw [e1]; decide)).trans ?_
  conv => lhs; whnf
  refine (pif_f e3).trans ?_
  conv => lhs; whnf
  refine (pif_t e2).trans ?_
  conv => lhs; whnf
  rw [nI_1]
  exact hm
set_option maxHeartbeats 800000 in
theorem lo_s010 (rg : pRg) (f : Nat → Option Nat) (x v u : pLV) (s : Int32) {N : Nat} (hc : bOK f rg) (hN : v 0 29 = nI N) (h20 : N ≤ 20) (hk : 0 < N) (ha : ¬ v 4 0 ≤ v 0 0) (e1 : v 5 0 = 0) (e2 : v 6 0 ≤ 50) (e3 : ¬ v 6 0 < 0) {T : pOut} (hm : ∃ m, ex k_L_isLoop m 8 [(3, .int (nI (0 + 1))), (6, .int 50), (2, .int (s + 1)), (5, .int (v 6 0)), (4, .int (v 5 0)), (1, .int (v 0 29)), (0, .ref 0)] [] (cw f x v u) rg = some T) : ∃ m, ex k_L_isLoop m 8 [(3, .int (nI 0)), (2, .int s), (1, .int (v 0 29)), (0, .ref 0)] [] (cw f x v u) rg = some T := by
  obtain ⟨m, hm⟩ := hm
  refine ⟨m + 5, ?_⟩
  conv => lhs; whnf
  refine (pif_f (by rw [hN]; exact nI_le_lt hk (by omega))).trans ?_
  conv => lhs; whnf
  refine (callK_r ((rd_entry f x v u (nI 0) 1 rg hc).trans (by rw [ent_1 x hN h20 hk])) (by rfl)).trans ?_
  conv => lhs; whnf
  refine (callK_r ((rd_entry f x v u (nI 0) 2 rg hc).trans (by rw [ent_2 x hN h20 hk])) (by rfl)).trans ?_
  conv => lhs; whnf
  refine (callK_r ((rd_entry f x v u (nI 0) 0 rg hc).trans (by rw [ent_0 x hN h20 hk])) (by rfl)).trans ?_
  conv => lhs; whnf
  refine (callK_r ((rd_told f x v u 0 rg hc).trans (by rw [tol_0])) (by rfl)).trans ?_
  conv => lhs; whnf
  refine (pif_f ha).trans ?_
  conv => lhs; whnf
  refine (pif_t e1).trans ?_
  conv => lhs; whnf
  refine (pif_t (by decide)).trans ?_
  conv => lhs; whnf
  refine (pif_f (by rw [e1]; decide)).trans ?_
  conv => lhs; whnf
  refine (pif_f (by rw [e1]; decide)).trans ?_
  conv => lhs; whnf
  refine (pif_f e3).trans ?_
  conv => lhs; whnf
  refine (pif_t e2).trans ?_
  conv => lhs; whnf
  rw [nI_1]
  exact hm
set_option maxHeartbeats 800000 in
theorem lo_s011 (rg : pRg) (f : Nat → Option Nat) (x v u : pLV) (s : Int32) {N : Nat} (hc : bOK f rg) (hN : v 0 29 = nI N) (h20 : N ≤ 20) (hk : 0 < N) (ha : ¬ v 4 0 ≤ v 0 0) (e1 : v 5 0 = 1) (e2 : v 6 0 ≤ 3) (e3 : ¬ v 6 0 < 0) {T : pOut} (hm : ∃ m, ex k_L_isLoop m 8 [(3, .int (nI (0 + 1))), (6, .int 3), (2, .int (s + 1)), (5, .int (v 6 0)), (4, .int (v 5 0)), (1, .int (v 0 29)), (0, .ref 0)] [] (cw f x v u) rg = some T) : ∃ m, ex k_L_isLoop m 8 [(3, .int (nI 0)), (2, .int s), (1, .int (v 0 29)), (0, .ref 0)] [] (cw f x v u) rg = some T := by
  obtain ⟨m, hm⟩ := hm
  refine ⟨m + 6, ?_⟩
  conv => lhs; whnf
  refine (pif_f (by rw [hN]; exact nI_le_lt hk (by omega))).trans ?_
  conv => lhs; whnf
  refine (callK_r ((rd_entry f x v u (nI 0) 1 rg hc).trans (by rw [ent_1 x hN h20 hk])) (by rfl)).trans ?_
  conv => lhs; whnf
  refine (callK_r ((rd_entry f x v u (nI 0) 2 rg hc).trans (by rw [ent_2 x hN h20 hk])) (by rfl)).trans ?_
  conv => lhs; whnf
  refine (callK_r ((rd_entry f x v u (nI 0) 0 rg hc).trans (by rw [ent_0 x hN h20 hk])) (by rfl)).trans ?_
  conv => lhs; whnf
  refine (callK_r ((rd_told f x v u 0 rg hc).trans (by rw [tol_0])) (by rfl)).trans ?_
  conv => lhs; whnf
  refine (pif_f ha).trans ?_
  conv => lhs; whnf
  refine (pif_f (by rw [e1]; decide)).trans ?_
  conv => lhs; whnf
  refine (pif_t e1).trans ?_
  conv => lhs; whnf
  refine (pif_t (by decide)).trans ?_
  conv => lhs; whnf
  refine (pif_f (by rw [e1]; decide)).trans ?_
  conv => lhs; whnf
  refine (pif_f (by rw [e1]; decide)).trans ?_
  conv => lhs; whnf
  refine (pif_f e3).trans ?_
  conv => lhs; whnf
  refine (pif_t e2).trans ?_
  conv => lhs; whnf
  rw [nI_1]
  exact hm
set_option maxHeartbeats 800000 in
theorem lo_s012 (rg : pRg) (f : Nat → Option Nat) (x v u : pLV) (s : Int32) {N : Nat} (hc : bOK f rg) (hN : v 0 29 = nI N) (h20 : N ≤ 20) (hk : 0 < N) (ha : ¬ v 4 0 ≤ v 0 0) (e1 : v 5 0 = 2) (e2 : v 6 0 ≤ 2000) (e3 : ¬ v 6 0 < 0) {T : pOut} (hm : ∃ m, ex k_L_isLoop m 8 [(3, .int (nI (0 + 1))), (6, .int 2000), (2, .int (s + 1)), (5, .int (v 6 0)), (4, .int (v 5 0)), (1, .int (v 0 29)), (0, .ref 0)] [] (cw f x v u) rg = some T) : ∃ m, ex k_L_isLoop m 8 [(3, .int (nI 0)), (2, .int s), (1, .int (v 0 29)), (0, .ref 0)] [] (cw f x v u) rg = some T := by
  obtain ⟨m, hm⟩ := hm
  refine ⟨m + 6, ?_⟩
  conv => lhs; whnf
  refine (pif_f (by rw [hN]; exact nI_le_lt hk (by omega))).trans ?_
  conv => lhs; whnf
  refine (callK_r ((rd_entry f x v u (nI 0) 1 rg hc).trans (by rw [ent_1 x hN h20 hk])) (by rfl)).trans ?_
  conv => lhs; whnf
  refine (callK_r ((rd_entry f x v u (nI 0) 2 rg hc).trans (by rw [ent_2 x hN h20 hk])) (by rfl)).trans ?_
  conv => lhs; whnf
  refine (callK_r ((rd_entry f x v u (nI 0) 0 rg hc).trans (by rw [ent_0 x hN h20 hk])) (by rfl)).trans ?_
  conv => lhs; whnf
  refine (callK_r ((rd_told f x v u 0 rg hc).trans (by rw [tol_0])) (by rfl)).trans ?_
  conv => lhs; whnf
  refine (pif_f ha).trans ?_
  conv => lhs; whnf
  refine (pif_f (by rw [e1]; decide)).trans ?_
  conv => lhs; whnf
  refine (pif_f (by rw [e1]; decide)).trans ?_
  conv => lhs; whnf
  refine (pif_t (by decide)).trans ?_
  conv => lhs; whnf
  refine (pif_f (by rw [e1]; decide)).trans ?_
  conv => lhs; whnf
  refine (pif_f (by rw [e1]; decide)).trans ?_
  conv => lhs; whnf
  refine (pif_f e3).trans ?_
  conv => lhs; whnf
  refine (pif_t e2).trans ?_
  conv => lhs; whnf
  rw [nI_1]
  exact hm
set_option maxHeartbeats 800000 in
theorem lo_s100 (rg : pRg) (f : Nat → Option Nat) (x v u : pLV) (s p q r : Int32) {N k : Nat} (hc : bOK f rg) (hN : v 0 29 = nI N) (h20 : N ≤ 20) (hk : k + 1 < N) (hs : ¬ v 4 (k + 1) < v 4 k) (ha : v 4 (k + 1) ≤ v 0 0) (e1 : v 5 (k + 1) = 0) (e2 : v 6 (k + 1) ≤ 50) (e3 : ¬ v 6 (k + 1) < 0) {T : pOut} (hm : ∃ m, ex k_L_isLoop m 8 [(3, .int (nI (k + 1 + 1))), (6, .int 50), (2, .int s), (5, .int (v 6 (k + 1))), (4, .int (v 5 (k + 1))), (1, .int (v 0 29)), (0, .ref 0)] [] (cw f x v u) rg = some T) : ∃ m, ex k_L_isLoop m 8 [(3, .int (nI (k + 1))), (6, .int p), (2, .int s), (5, .int q), (4, .int r), (1, .int (v 0 29)), (0, .ref 0)] [] (cw f x v u) rg = some T := by
  obtain ⟨m, hm⟩ := hm
  refine ⟨m + 4, ?_⟩
  conv => lhs; whnf
  refine (pif_f (by rw [hN]; exact nI_le_lt hk (by omega))).trans ?_
  conv => lhs; whnf
  refine (callK_r ((rd_entry f x v u (nI (k + 1)) 1 rg hc).trans (by rw [ent_1 x hN h20 hk])) (by rfl)).trans ?_
  conv => lhs; whnf
  refine (callK_r ((rd_entry f x v u (nI (k + 1)) 2 rg hc).trans (by rw [ent_2 x hN h20 hk])) (by rfl)).trans ?_
  conv => lhs; whnf
  refine (callK_r ((rd_entry f x v u (nI (k + 1)) 0 rg hc).trans (by rw [ent_0 x hN h20 hk])) (by rfl)).trans ?_
  conv => lhs; whnf
  refine (callK_r ((rd_told f x v u 0 rg hc).trans (by rw [tol_0])) (by rfl)).trans ?_
  conv => lhs; whnf
  refine (pif_t ha).trans ?_
  conv => lhs; whnf
  refine (pif_t e1).trans ?_
  conv => lhs; whnf
  refine (pif_f (nI_nle (by omega) (by omega))).trans ?_
  conv => lhs; whnf
  refine (callK_r ((rd_entry f x v u (nI (k + 1)) 0 rg hc).trans (by rw [ent_0 x hN h20 hk])) (by rfl)).trans ?_
  conv => lhs; whnf
  refine (callK_r ((show F_X8_entry [.ref 0, .int (nI (k + 1) - 1), .int 0] (cw f x v u) rg = _ from by rw [nI_s1]; exact (rd_entry f x v u (nI k) 0 rg hc).trans (by rw [ent_0 x hN h20 (show k < N by omega)]))) (by rfl)).trans ?_
  conv => lhs; whnf
  refine (pif_f hs).trans ?_
  conv => lhs; whnf
  refine (pif_f (by rw [e1]; decide)).trans ?_
  conv => lhs; whnf
  refine (pif_f (by rw [e1]; decide)).trans ?_
  conv => lhs; whnf
  refine (pif_f e3).trans ?_
  conv => lhs; whnf
  refine (pif_t e2).trans ?_
  conv => lhs; whnf
  rw [nI_1]
  exact hm
set_option maxHeartbeats 800000 in
theorem lo_s101 (rg : pRg) (f : Nat → Option Nat) (x v u : pLV) (s p q r : Int32) {N k : Nat} (hc : bOK f rg) (hN : v 0 29 = nI N) (h20 : N ≤ 20) (hk : k + 1 < N) (hs : ¬ v 4 (k + 1) < v 4 k) (ha : v 4 (k + 1) ≤ v 0 0) (e1 : v 5 (k + 1) = 1) (e2 : v 6 (k + 1) ≤ 3) (e3 : ¬ v 6 (k + 1) < 0) {T : pOut} (hm : ∃ m, ex k_L_isLoop m 8 [(3, .int (nI (k + 1 + 1))), (6, .int 3), (2, .int s), (5, .int (v 6 (k + 1))), (4, .int (v 5 (k + 1))), (1, .int (v 0 29)), (0, .ref 0)] [] (cw f x v u) rg = some T) : ∃ m, ex k_L_isLoop m 8 [(3, .int (nI (k + 1))), (6, .int p), (2, .int s), (5, .int q), (4, .int r), (1, .int (v 0 29)), (0, .ref 0)] [] (cw f x v u) rg = some T := by
  obtain ⟨m, hm⟩ := hm
  refine ⟨m + 5, ?_⟩
  conv => lhs; whnf
  refine (pif_f (by rw [hN]; exact nI_le_lt hk (by omega))).trans ?_
  conv => lhs; whnf
  refine (callK_r ((rd_entry f x v u (nI (k + 1)) 1 rg hc).trans (by rw [ent_1 x hN h20 hk])) (by rfl)).trans ?_
  conv => lhs; whnf
  refine (callK_r ((rd_entry f x v u (nI (k + 1)) 2 rg hc).trans (by rw [ent_2 x hN h20 hk])) (by rfl)).trans ?_
  conv => lhs; whnf
  refine (callK_r ((rd_entry f x v u (nI (k + 1)) 0 rg hc).trans (by rw [ent_0 x hN h20 hk])) (by rfl)).trans ?_
  conv => lhs; whnf
  refine (callK_r ((rd_told f x v u 0 rg hc).trans (by rw [tol_0])) (by rfl)).trans ?_
  conv => lhs; whnf
  refine (pif_t ha).trans ?_
  conv => lhs; whnf
  refine (pif_f (by rw [e1]; decide)).trans ?_
  conv => lhs; whnf
  refine (pif_t e1).trans ?_
  conv => lhs; whnf
  refine (pif_f (nI_nle (by omega) (by omega))).trans ?_
  conv => lhs; whnf
  refine (callK_r ((rd_entry f x v u (nI (k + 1)) 0 rg hc).trans (by rw [ent_0 x hN h20 hk])) (by rfl)).trans ?_
  conv => lhs; whnf
  refine (callK_r ((show F_X8_entry [.ref 0, .int (nI (k + 1) - 1), .int 0] (cw f x v u) rg = _ from by rw [nI_s1]; exact (rd_entry f x v u (nI k) 0 rg hc).trans (by rw [ent_0 x hN h20 (show k < N by omega)]))) (by rfl)).trans ?_
  conv => lhs; whnf
  refine (pif_f hs).trans ?_
  conv => lhs; whnf
  refine (pif_f (by rw [e1]; decide)).trans ?_
  conv => lhs; whnf
  refine (pif_f (by rw [e1]; decide)).trans ?_
  conv => lhs; whnf
  refine (pif_f e3).trans ?_
  conv => lhs; whnf
  refine (pif_t e2).trans ?_
  conv => lhs; whnf
  rw [nI_1]
  exact hm
set_option maxHeartbeats 800000 in
theorem lo_s102 (rg : pRg) (f : Nat → Option Nat) (x v u : pLV) (s p q r : Int32) {N k : Nat} (hc : bOK f rg) (hN : v 0 29 = nI N) (h20 : N ≤ 20) (hk : k + 1 < N) (hs : ¬ v 4 (k + 1) < v 4 k) (ha : v 4 (k + 1) ≤ v 0 0) (e1 : v 5 (k + 1) = 2) (e2 : v 6 (k + 1) ≤ 2000) (e3 : ¬ v 6 (k + 1) < 0) {T : pOut} (hm : ∃ m, ex k_L_isLoop m 8 [(3, .int (nI (k + 1 + 1))), (6, .int 2000), (2, .int s), (5, .int (v 6 (k + 1))), (4, .int (v 5 (k + 1))), (1, .int (v 0 29)), (0, .ref 0)] [] (cw f x v u) rg = some T) : ∃ m, ex k_L_isLoop m 8 [(3, .int (nI (k + 1))), (6, .int p), (2, .int s), (5, .int q), (4, .int r), (1, .int (v 0 29)), (0, .ref 0)] [] (cw f x v u) rg = some T := by
  obtain ⟨m, hm⟩ := hm
  refine ⟨m + 5, ?_⟩
  conv => lhs; whnf
  refine (pif_f (by rw [hN]; exact nI_le_lt hk (by omega))).trans ?_
  conv => lhs; whnf
  refine (callK_r ((rd_entry f x v u (nI (k + 1)) 1 rg hc).trans (by rw [ent_1 x hN h20 hk])) (by rfl)).trans ?_
  conv => lhs; whnf
  refine (callK_r ((rd_entry f x v u (nI (k + 1)) 2 rg hc).trans (by rw [ent_2 x hN h20 hk])) (by rfl)).trans ?_
  conv => lhs; whnf
  refine (callK_r ((rd_entry f x v u (nI (k + 1)) 0 rg hc).trans (by rw [ent_0 x hN h20 hk])) (by rfl)).trans ?_
  conv => lhs; whnf
  refine (callK_r ((rd_told f x v u 0 rg hc).trans (by rw [tol_0])) (by rfl)).trans ?_
  conv => lhs; whnf
  refine (pif_t ha).trans ?_
  conv => lhs; whnf
  refine (pif_f (by rw [e1]; decide)).trans ?_
  conv => lhs; whnf
  refine (pif_f (by rw [e1]; decide)).trans ?_
  conv => lhs; whnf
  refine (pif_f (nI_nle (by omega) (by omega))).trans ?_
  conv => lhs; whnf
  refine (callK_r ((rd_entry f x v u (nI (k + 1)) 0 rg hc).trans (by rw [ent_0 x hN h20 hk])) (by rfl)).trans ?_
  conv => lhs; whnf
  refine (callK_r ((show F_X8_entry [.ref 0, .int (nI (k + 1) - 1), .int 0] (cw f x v u) rg = _ from by rw [nI_s1]; exact (rd_entry f x v u (nI k) 0 rg hc).trans (by rw [ent_0 x hN h20 (show k < N by omega)]))) (by rfl)).trans ?_
  conv => lhs; whnf
  refine (pif_f hs).trans ?_
  conv => lhs; whnf
  refine (pif_f (by rw [e1]; decide)).trans ?_
  conv => lhs; whnf
  refine (pif_f (by rw [e1]; decide)).trans ?_
  conv => lhs; whnf
  refine (pif_f e3).trans ?_
  conv => lhs; whnf
  refine (pif_t e2).trans ?_
  conv => lhs; whnf
  rw [nI_1]
  exact hm
set_option maxHeartbeats 800000 in
theorem lo_s110 (rg : pRg) (f : Nat → Option Nat) (x v u : pLV) (s p q r : Int32) {N k : Nat} (hc : bOK f rg) (hN : v 0 29 = nI N) (h20 : N ≤ 20) (hk : k + 1 < N) (hs : ¬ v 4 (k + 1) < v 4 k) (ha : ¬ v 4 (k + 1) ≤ v 0 0) (e1 : v 5 (k + 1) = 0) (e2 : v 6 (k + 1) ≤ 50) (e3 : ¬ v 6 (k + 1) < 0) {T : pOut} (hm : ∃ m, ex k_L_isLoop m 8 [(3, .int (nI (k + 1 + 1))), (6, .int 50), (2, .int (s + 1)), (5, .int (v 6 (k + 1))), (4, .int (v 5 (k + 1))), (1, .int (v 0 29)), (0, .ref 0)] [] (cw f x v u) rg = some T) : ∃ m, ex k_L_isLoop m 8 [(3, .int (nI (k + 1))), (6, .int p), (2, .int s), (5, .int q), (4, .int r), (1, .int (v 0 29)), (0, .ref 0)] [] (cw f x v u) rg = some T := by
  obtain ⟨m, hm⟩ := hm
  refine ⟨m + 4, ?_⟩
  conv => lhs; whnf
  refine (pif_f (by rw [hN]; exact nI_le_lt hk (by omega))).trans ?_
  conv => lhs; whnf
  refine (callK_r ((rd_entry f x v u (nI (k + 1)) 1 rg hc).trans (by rw [ent_1 x hN h20 hk])) (by rfl)).trans ?_
  conv => lhs; whnf
  refine (callK_r ((rd_entry f x v u (nI (k + 1)) 2 rg hc).trans (by rw [ent_2 x hN h20 hk])) (by rfl)).trans ?_
  conv => lhs; whnf
  refine (callK_r ((rd_entry f x v u (nI (k + 1)) 0 rg hc).trans (by rw [ent_0 x hN h20 hk])) (by rfl)).trans ?_
  conv => lhs; whnf
  refine (callK_r ((rd_told f x v u 0 rg hc).trans (by rw [tol_0])) (by rfl)).trans ?_
  conv => lhs; whnf
  refine (pif_f ha).trans ?_
  conv => lhs; whnf
  refine (pif_t e1).trans ?_
  conv => lhs; whnf
  refine (pif_f (nI_nle (by omega) (by omega))).trans ?_
  conv => lhs; whnf
  refine (callK_r ((rd_entry f x v u (nI (k + 1)) 0 rg hc).trans (by rw [ent_0 x hN h20 hk])) (by rfl)).trans ?_
  conv => lhs; whnf
  refine (callK_r ((show F_X8_entry [.ref 0, .int (nI (k + 1) - 1), .int 0] (cw f x v u) rg = _ from by rw [nI_s1]; exact (rd_entry f x v u (nI k) 0 rg hc).trans (by rw [ent_0 x hN h20 (show k < N by omega)]))) (by rfl)).trans ?_
  conv => lhs; whnf
  refine (pif_f hs).trans ?_
  conv => lhs; whnf
  refine (pif_f (by rw [e1]; decide)).trans ?_
  conv => lhs; whnf
  refine (pif_f (by rw [e1]; decide)).trans ?_
  conv => lhs; whnf
  refine (pif_f e3).trans ?_
  conv => lhs; whnf
  refine (pif_t e2).trans ?_
  conv => lhs; whnf
  rw [nI_1]
  exact hm
set_option maxHeartbeats 800000 in
theorem lo_s111 (rg : pRg) (f : Nat → Option Nat) (x v u : pLV) (s p q r : Int32) {N k : Nat} (hc : bOK f rg) (hN : v 0 29 = nI N) (h20 : N ≤ 20) (hk : k + 1 < N) (hs : ¬ v 4 (k + 1) < v 4 k) (ha : ¬ v 4 (k + 1) ≤ v 0 0) (e1 : v 5 (k + 1) = 1) (e2 : v 6 (k + 1) ≤ 3) (e3 : ¬ v 6 (k + 1) < 0) {T : pOut} (hm : ∃ m, ex k_L_isLoop m 8 [(3, .int (nI (k + 1 + 1))), (6, .int 3), (2, .int (s + 1)), (5, .int (v 6 (k + 1))), (4, .int (v 5 (k + 1))), (1, .int (v 0 29)), (0, .ref 0)] [] (cw f x v u) rg = some T) : ∃ m, ex k_L_isLoop m 8 [(3, .int (nI (k + 1))), (6, .int p), (2, .int s), (5, .int q), (4, .int r), (1, .int (v 0 29)), (0, .ref 0)] [] (cw f x v u) rg = some T := by
  obtain ⟨m, hm⟩ := hm
  refine ⟨m + 5, ?_⟩
  conv => lhs; whnf
  refine (pif_f (by rw [hN]; exact nI_le_lt hk (by omega))).trans ?_
  conv => lhs; whnf
  refine (callK_r ((rd_entry f x v u (nI (k + 1)) 1 rg hc).trans (by rw [ent_1 x hN h20 hk])) (by rfl)).trans ?_
  conv => lhs; whnf
  refine (callK_r ((rd_entry f x v u (nI (k + 1)) 2 rg hc).trans (by rw [ent_2 x hN h20 hk])) (by rfl)).trans ?_
  conv => lhs; whnf
  refine (callK_r ((rd_entry f x v u (nI (k + 1)) 0 rg hc).trans (by rw [ent_0 x hN h20 hk])) (by rfl)).trans ?_
  conv => lhs; whnf
  refine (callK_r ((rd_told f x v u 0 rg hc).trans (by rw [tol_0])) (by rfl)).trans ?_
  conv => lhs; whnf
  refine (pif_f ha).trans ?_
  conv => lhs; whnf
  refine (pif_f (by rw [e1]; decide)).trans ?_
  conv => lhs; whnf
  refine (pif_t e1).trans ?_
  conv => lhs; whnf
  refine (pif_f (nI_nle (by omega) (by omega))).trans ?_
  conv => lhs; whnf
  refine (callK_r ((rd_entry f x v u (nI (k + 1)) 0 rg hc).trans (by rw [ent_0 x hN h20 hk])) (by rfl)).trans ?_
  conv => lhs; whnf
  refine (callK_r ((show F_X8_entry [.ref 0, .int (nI (k + 1) - 1), .int 0] (cw f x v u) rg = _ from by rw [nI_s1]; exact (rd_entry f x v u (nI k) 0 rg hc).trans (by rw [ent_0 x hN h20 (show k < N by omega)]))) (by rfl)).trans ?_
  conv => lhs; whnf
  refine (pif_f hs).trans ?_
  conv => lhs; whnf
  refine (pif_f (by rw [e1]; decide)).trans ?_
  conv => lhs; whnf
  refine (pif_f (by rw [e1]; decide)).trans ?_
  conv => lhs; whnf
  refine (pif_f e3).trans ?_
  conv => lhs; whnf
  refine (pif_t e2).trans ?_
  conv => lhs; whnf
  rw [nI_1]
  exact hm
set_option maxHeartbeats 800000 in
theorem lo_s112 (rg : pRg) (f : Nat → Option Nat) (x v u : pLV) (s p q r : Int32) {N k : Nat} (hc : bOK f rg) (hN : v 0 29 = nI N) (h20 : N ≤ 20) (hk : k + 1 < N) (hs : ¬ v 4 (k + 1) < v 4 k) (ha : ¬ v 4 (k + 1) ≤ v 0 0) (e1 : v 5 (k + 1) = 2) (e2 : v 6 (k + 1) ≤ 2000) (e3 : ¬ v 6 (k + 1) < 0) {T : pOut} (hm : ∃ m, ex k_L_isLoop m 8 [(3, .int (nI (k + 1 + 1))), (6, .int 2000), (2, .int (s + 1)), (5, .int (v 6 (k + 1))), (4, .int (v 5 (k + 1))), (1, .int (v 0 29)), (0, .ref 0)] [] (cw f x v u) rg = some T) : ∃ m, ex k_L_isLoop m 8 [(3, .int (nI (k + 1))), (6, .int p), (2, .int s), (5, .int q), (4, .int r), (1, .int (v 0 29)), (0, .ref 0)] [] (cw f x v u) rg = some T := by
  obtain ⟨m, hm⟩ := hm
  refine ⟨m + 5, ?_⟩
  conv => lhs; whnf
  refine (pif_f (by rw [hN]; exact nI_le_lt hk (by omega))).trans ?_
  conv => lhs; whnf
  refine (callK_r ((rd_entry f x v u (nI (k + 1)) 1 rg hc).trans (by rw [ent_1 x hN h20 hk])) (by rfl)).trans ?_
  conv => lhs; whnf
  refine (callK_r ((rd_entry f x v u (nI (k + 1)) 2 rg hc).trans (by rw [ent_2 x hN h20 hk])) (by rfl)).trans ?_
  conv => lhs; whnf
  refine (callK_r ((rd_entry f x v u (nI (k + 1)) 0 rg hc).trans (by rw [ent_0 x hN h20 hk])) (by rfl)).trans ?_
  conv => lhs; whnf
  refine (callK_r ((rd_told f x v u 0 rg hc).trans (by rw [tol_0])) (by rfl)).trans ?_
  conv => lhs; whnf
  refine (pif_f ha).trans ?_
  conv => lhs; whnf
  refine (pif_f (by rw [e1]; decide)).trans ?_
  conv => lhs; whnf
  refine (pif_f (by rw [e1]; decide)).trans ?_
  conv => lhs; whnf
  refine (pif_f (nI_nle (by omega) (by omega))).trans ?_
  conv => lhs; whnf
  refine (callK_r ((rd_entry f x v u (nI (k + 1)) 0 rg hc).trans (by rw [ent_0 x hN h20 hk])) (by rfl)).trans ?_
  conv => lhs; whnf
  refine (callK_r ((show F_X8_entry [.ref 0, .int (nI (k + 1) - 1), .int 0] (cw f x v u) rg = _ from by rw [nI_s1]; exact (rd_entry f x v u (nI k) 0 rg hc).trans (by rw [ent_0 x hN h20 (show k < N by omega)]))) (by rfl)).trans ?_
  conv => lhs; whnf
  refine (pif_f hs).trans ?_
  conv => lhs; whnf
  refine (pif_f (by rw [e1]; decide)).trans ?_
  conv => lhs; whnf
  refine (pif_f (by rw [e1]; decide)).trans ?_
  conv => lhs; whnf
  refine (pif_f e3).trans ?_
  conv => lhs; whnf
  refine (pif_t e2).trans ?_
  conv => lhs; whnf
  rw [nI_1]
  exact hm
set_option maxHeartbeats 800000 in
theorem lo_e00 (rg : pRg) (f : Nat → Option Nat) (x v u : pLV) (s : Int32) {N : Nat} (hc : bOK f rg) (hN : v 0 29 = nI N) (h20 : N ≤ 20) (hs : caI (v 4) (v 0 0) (caK (v 0 29)) = s) (h1 : ¬ v 0 2 < 0) (h2 : ¬ 50 < v 0 2) (h3 : ¬ v 0 3 < 0) (h4 : ¬ 20 < v 0 3) (h5 : ¬ v 0 27 < 0) (h6 : ¬ 3000 < v 0 27) (z1 : v 0 0 = 0) (z2 : v 0 5 = -9) (z3 : ltC (v 0 28) (v 3 0) = -9) (h8 : ¬ 4 ≤ v 0 5) (h9 : ¬ v 0 0 < v 0 6) : ∃ m, ex k_L_isLoop m 8 [(3, .int (nI N)), (2, .int s), (1, .int (v 0 29)), (0, .ref 0)] [] (cw f x v u) rg = some (some (.int 1), cw f x v u, rg) := by
  refine ⟨20, ?_⟩
  conv => lhs; whnf
  refine (pif_t (by rw [hN]; exact nI_le_ge (Nat.le_refl _) (by omega))).trans ?_
  conv => lhs; whnf
  refine (callK_r ((rd_told f x v u 6 rg hc).trans (by rw [tol_6])) (by rfl)).trans ?_
  conv => lhs; whnf
  refine (callK_r ((rd_told f x v u 9 rg hc).trans (by rw [tol_9])) (by rfl)).trans ?_
  conv => lhs; whnf
  refine (pif_t hs).trans ?_
  conv => lhs; whnf
  refine (callK_r ((rd_told f x v u 2 rg hc).trans (by rw [tol_2])) (by rfl)).trans ?_
  conv => lhs; whnf
  refine (pif_f h1).trans ?_
  conv => lhs; whnf
  refine (callK_r ((rd_told f x v u 2 rg hc).trans (by rw [tol_2])) (by rfl)).trans ?_
  conv => lhs; whnf
  refine (pif_f h2).trans ?_
  conv => lhs; whnf
  refine (callK_r ((rd_told f x v u 3 rg hc).trans (by rw [tol_3])) (by rfl)).trans ?_
  conv => lhs; whnf
  refine (pif_f h3).trans ?_
  conv => lhs; whnf
  refine (callK_r ((rd_told f x v u 3 rg hc).trans (by rw [tol_3])) (by rfl)).trans ?_
  conv => lhs; whnf
  refine (pif_f h4).trans ?_
  conv => lhs; whnf
  refine (callK_r ((rd_told f x v u 4 rg hc).trans (by rw [tol_4])) (by rfl)).trans ?_
  conv => lhs; whnf
  refine (pif_f h5).trans ?_
  conv => lhs; whnf
  refine (callK_r ((rd_told f x v u 4 rg hc).trans (by rw [tol_4])) (by rfl)).trans ?_
  conv => lhs; whnf
  refine (pif_f h6).trans ?_
  conv => lhs; whnf
  refine (callK_r ((rd_entry f x v u (v 0 29) 0 rg hc).trans (by rw [ent_out x v rfl])) (by rfl)).trans ?_
  conv => lhs; whnf
  refine (pif_t rfl).trans ?_
  conv => lhs; whnf
  refine (pif_f (by decide)).trans ?_
  conv => lhs; whnf
  refine (callK_r ((rd_told f x v u 0 rg hc).trans (by rw [tol_0])) (by rfl)).trans ?_
  conv => lhs; whnf
  refine (pif_t z1).trans ?_
  conv => lhs; whnf
  refine (pif_t z2).trans ?_
  conv => lhs; whnf
  refine (pif_t rfl).trans ?_
  conv => lhs; whnf
  refine (pif_t z2).trans ?_
  conv => lhs; whnf
  refine (callK_r ((rd_told f x v u 7 rg hc).trans (by rw [tol_7])) (by rfl)).trans ?_
  conv => lhs; whnf
  refine (pif_t z3).trans ?_
  conv => lhs; whnf
  refine (pif_t rfl).trans ?_
  conv => lhs; whnf
  refine (pif_f h8).trans ?_
  conv => lhs; whnf
  refine (callK_r ((rd_told f x v u 10 rg hc).trans (by rw [tol_10])) (by rfl)).trans ?_
  conv => lhs; whnf
  refine (callK_r ((rd_told f x v u 0 rg hc).trans (by rw [tol_0])) (by rfl)).trans ?_
  conv => lhs; whnf
  refine (pif_f h9).trans ?_
  conv => lhs; whnf
  exact pif_t (Or.inr rfl)
set_option maxHeartbeats 800000 in
theorem lo_e01 (rg : pRg) (f : Nat → Option Nat) (x v u : pLV) (s : Int32) {N : Nat} (hc : bOK f rg) (hN : v 0 29 = nI N) (h20 : N ≤ 20) (hs : caI (v 4) (v 0 0) (caK (v 0 29)) = s) (h1 : ¬ v 0 2 < 0) (h2 : ¬ 50 < v 0 2) (h3 : ¬ v 0 3 < 0) (h4 : ¬ 20 < v 0 3) (h5 : ¬ v 0 27 < 0) (h6 : ¬ 3000 < v 0 27) (z1 : ¬ v 0 0 = 0) (z2 : ¬ v 0 5 = -9) (z3 : ¬ ltC (v 0 28) (v 3 0) = -9) (h8 : ¬ 4 ≤ v 0 5) (h9 : ¬ v 0 0 < v 0 6) : ∃ m, ex k_L_isLoop m 8 [(3, .int (nI N)), (2, .int s), (1, .int (v 0 29)), (0, .ref 0)] [] (cw f x v u) rg = some (some (.int 1), cw f x v u, rg) := by
  refine ⟨20, ?_⟩
  conv => lhs; whnf
  refine (pif_t (by rw [hN]; exact nI_le_ge (Nat.le_refl _) (by omega))).trans ?_
  conv => lhs; whnf
  refine (callK_r ((rd_told f x v u 6 rg hc).trans (by rw [tol_6])) (by rfl)).trans ?_
  conv => lhs; whnf
  refine (callK_r ((rd_told f x v u 9 rg hc).trans (by rw [tol_9])) (by rfl)).trans ?_
  conv => lhs; whnf
  refine (pif_t hs).trans ?_
  conv => lhs; whnf
  refine (callK_r ((rd_told f x v u 2 rg hc).trans (by rw [tol_2])) (by rfl)).trans ?_
  conv => lhs; whnf
  refine (pif_f h1).trans ?_
  conv => lhs; whnf
  refine (callK_r ((rd_told f x v u 2 rg hc).trans (by rw [tol_2])) (by rfl)).trans ?_
  conv => lhs; whnf
  refine (pif_f h2).trans ?_
  conv => lhs; whnf
  refine (callK_r ((rd_told f x v u 3 rg hc).trans (by rw [tol_3])) (by rfl)).trans ?_
  conv => lhs; whnf
  refine (pif_f h3).trans ?_
  conv => lhs; whnf
  refine (callK_r ((rd_told f x v u 3 rg hc).trans (by rw [tol_3])) (by rfl)).trans ?_
  conv => lhs; whnf
  refine (pif_f h4).trans ?_
  conv => lhs; whnf
  refine (callK_r ((rd_told f x v u 4 rg hc).trans (by rw [tol_4])) (by rfl)).trans ?_
  conv => lhs; whnf
  refine (pif_f h5).trans ?_
  conv => lhs; whnf
  refine (callK_r ((rd_told f x v u 4 rg hc).trans (by rw [tol_4])) (by rfl)).trans ?_
  conv => lhs; whnf
  refine (pif_f h6).trans ?_
  conv => lhs; whnf
  refine (callK_r ((rd_entry f x v u (v 0 29) 0 rg hc).trans (by rw [ent_out x v rfl])) (by rfl)).trans ?_
  conv => lhs; whnf
  refine (pif_t rfl).trans ?_
  conv => lhs; whnf
  refine (pif_f (by decide)).trans ?_
  conv => lhs; whnf
  refine (callK_r ((rd_told f x v u 0 rg hc).trans (by rw [tol_0])) (by rfl)).trans ?_
  conv => lhs; whnf
  refine (pif_f z1).trans ?_
  conv => lhs; whnf
  refine (pif_f z2).trans ?_
  conv => lhs; whnf
  refine (pif_t rfl).trans ?_
  conv => lhs; whnf
  refine (pif_f z2).trans ?_
  conv => lhs; whnf
  refine (callK_r ((rd_told f x v u 7 rg hc).trans (by rw [tol_7])) (by rfl)).trans ?_
  conv => lhs; whnf
  refine (pif_f z3).trans ?_
  conv => lhs; whnf
  refine (pif_t rfl).trans ?_
  conv => lhs; whnf
  refine (pif_f h8).trans ?_
  conv => lhs; whnf
  refine (callK_r ((rd_told f x v u 10 rg hc).trans (by rw [tol_10])) (by rfl)).trans ?_
  conv => lhs; whnf
  refine (callK_r ((rd_told f x v u 0 rg hc).trans (by rw [tol_0])) (by rfl)).trans ?_
  conv => lhs; whnf
  refine (pif_f h9).trans ?_
  conv => lhs; whnf
  exact pif_t (Or.inr rfl)
set_option maxHeartbeats 800000 in
theorem lo_e10 (rg : pRg) (f : Nat → Option Nat) (x v u : pLV) (s p q r : Int32) {N : Nat} (hc : bOK f rg) (hN : v 0 29 = nI N) (h20 : N ≤ 20) (hs : caI (v 4) (v 0 0) (caK (v 0 29)) = s) (h1 : ¬ v 0 2 < 0) (h2 : ¬ 50 < v 0 2) (h3 : ¬ v 0 3 < 0) (h4 : ¬ 20 < v 0 3) (h5 : ¬ v 0 27 < 0) (h6 : ¬ 3000 < v 0 27) (z1 : v 0 0 = 0) (z2 : v 0 5 = -9) (z3 : ltC (v 0 28) (v 3 0) = -9) (h8 : ¬ 4 ≤ v 0 5) (h9 : ¬ v 0 0 < v 0 6) : ∃ m, ex k_L_isLoop m 8 [(3, .int (nI N)), (6, .int p), (2, .int s), (5, .int q), (4, .int r), (1, .int (v 0 29)), (0, .ref 0)] [] (cw f x v u) rg = some (some (.int 1), cw f x v u, rg) := by
  refine ⟨20, ?_⟩
  conv => lhs; whnf
  refine (pif_t (by rw [hN]; exact nI_le_ge (Nat.le_refl _) (by omega))).trans ?_
  conv => lhs; whnf
  refine (callK_r ((rd_told f x v u 6 rg hc).trans (by rw [tol_6])) (by rfl)).trans ?_
  conv => lhs; whnf
  refine (callK_r ((rd_told f x v u 9 rg hc).trans (by rw [tol_9])) (by rfl)).trans ?_
  conv => lhs; whnf
  refine (pif_t hs).trans ?_
  conv => lhs; whnf
  refine (callK_r ((rd_told f x v u 2 rg hc).trans (by rw [tol_2])) (by rfl)).trans ?_
  conv => lhs; whnf
  refine (pif_f h1).trans ?_
  conv => lhs; whnf
  refine (callK_r ((rd_told f x v u 2 rg hc).trans (by rw [tol_2])) (by rfl)).trans ?_
  conv => lhs; whnf
  refine (pif_f h2).trans ?_
  conv => lhs; whnf
  refine (callK_r ((rd_told f x v u 3 rg hc).trans (by rw [tol_3])) (by rfl)).trans ?_
  conv => lhs; whnf
  refine (pif_f h3).trans ?_
  conv => lhs; whnf
  refine (callK_r ((rd_told f x v u 3 rg hc).trans (by rw [tol_3])) (by rfl)).trans ?_
  conv => lhs; whnf
  refine (pif_f h4).trans ?_
  conv => lhs; whnf
  refine (callK_r ((rd_told f x v u 4 rg hc).trans (by rw [tol_4])) (by rfl)).trans ?_
  conv => lhs; whnf
  refine (pif_f h5).trans ?_
  conv => lhs; whnf
  refine (callK_r ((rd_told f x v u 4 rg hc).trans (by rw [tol_4])) (by rfl)).trans ?_
  conv => lhs; whnf
  refine (pif_f h6).trans ?_
  conv => lhs; whnf
  refine (callK_r ((rd_entry f x v u (v 0 29) 0 rg hc).trans (by rw [ent_out x v rfl])) (by rfl)).trans ?_
  conv => lhs; whnf
  refine (pif_t rfl).trans ?_
  conv => lhs; whnf
  refine (pif_f (by decide)).trans ?_
  conv => lhs; whnf
  refine (callK_r ((rd_told f x v u 0 rg hc).trans (by rw [tol_0])) (by rfl)).trans ?_
  conv => lhs; whnf
  refine (pif_t z1).trans ?_
  conv => lhs; whnf
  refine (pif_t z2).trans ?_
  conv => lhs; whnf
  refine (pif_t rfl).trans ?_
  conv => lhs; whnf
  refine (pif_t z2).trans ?_
  conv => lhs; whnf
  refine (callK_r ((rd_told f x v u 7 rg hc).trans (by rw [tol_7])) (by rfl)).trans ?_
  conv => lhs; whnf
  refine (pif_t z3).trans ?_
  conv => lhs; whnf
  refine (pif_t rfl).trans ?_
  conv => lhs; whnf
  refine (pif_f h8).trans ?_
  conv => lhs; whnf
  refine (callK_r ((rd_told f x v u 10 rg hc).trans (by rw [tol_10])) (by rfl)).trans ?_
  conv => lhs; whnf
  refine (callK_r ((rd_told f x v u 0 rg hc).trans (by rw [tol_0])) (by rfl)).trans ?_
  conv => lhs; whnf
  refine (pif_f h9).trans ?_
  conv => lhs; whnf
  exact pif_t (Or.inr rfl)
set_option maxHeartbeats 800000 in
theorem lo_e11 (rg : pRg) (f : Nat → Option Nat) (x v u : pLV) (s p q r : Int32) {N : Nat} (hc : bOK f rg) (hN : v 0 29 = nI N) (h20 : N ≤ 20) (hs : caI (v 4) (v 0 0) (caK (v 0 29)) = s) (h1 : ¬ v 0 2 < 0) (h2 : ¬ 50 < v 0 2) (h3 : ¬ v 0 3 < 0) (h4 : ¬ 20 < v 0 3) (h5 : ¬ v 0 27 < 0) (h6 : ¬ 3000 < v 0 27) (z1 : ¬ v 0 0 = 0) (z2 : ¬ v 0 5 = -9) (z3 : ¬ ltC (v 0 28) (v 3 0) = -9) (h8 : ¬ 4 ≤ v 0 5) (h9 : ¬ v 0 0 < v 0 6) : ∃ m, ex k_L_isLoop m 8 [(3, .int (nI N)), (6, .int p), (2, .int s), (5, .int q), (4, .int r), (1, .int (v 0 29)), (0, .ref 0)] [] (cw f x v u) rg = some (some (.int 1), cw f x v u, rg) := by
  refine ⟨20, ?_⟩
  conv => lhs; whnf
  refine (pif_t (by rw [hN]; exact nI_le_ge (Nat.le_refl _) (by omega))).trans ?_
  conv => lhs; whnf
  refine (callK_r ((rd_told f x v u 6 rg hc).trans (by rw [tol_6])) (by rfl)).trans ?_
  conv => lhs; whnf
  refine (callK_r ((rd_told f x v u 9 rg hc).trans (by rw [tol_9])) (by rfl)).trans ?_
  conv => lhs; whnf
  refine (pif_t hs).trans ?_
  conv => lhs; whnf
  refine (callK_r ((rd_told f x v u 2 rg hc).trans (by rw [tol_2])) (by rfl)).trans ?_
  conv => lhs; whnf
  refine (pif_f h1).trans ?_
  conv => lhs; whnf
  refine (callK_r ((rd_told f x v u 2 rg hc).trans (by rw [tol_2])) (by rfl)).trans ?_
  conv => lhs; whnf
  refine (pif_f h2).trans ?_
  conv => lhs; whnf
  refine (callK_r ((rd_told f x v u 3 rg hc).trans (by rw [tol_3])) (by rfl)).trans ?_
  conv => lhs; whnf
  refine (pif_f h3).trans ?_
  conv => lhs; whnf
  refine (callK_r ((rd_told f x v u 3 rg hc).trans (by rw [tol_3])) (by rfl)).trans ?_
  conv => lhs; whnf
  refine (pif_f h4).trans ?_
  conv => lhs; whnf
  refine (callK_r ((rd_told f x v u 4 rg hc).trans (by rw [tol_4])) (by rfl)).trans ?_
  conv => lhs; whnf
  refine (pif_f h5).trans ?_
  conv => lhs; whnf
  refine (callK_r ((rd_told f x v u 4 rg hc).trans (by rw [tol_4])) (by rfl)).trans ?_
  conv => lhs; whnf
  refine (pif_f h6).trans ?_
  conv => lhs; whnf
  refine (callK_r ((rd_entry f x v u (v 0 29) 0 rg hc).trans (by rw [ent_out x v rfl])) (by rfl)).trans ?_
  conv => lhs; whnf
  refine (pif_t rfl).trans ?_
  conv => lhs; whnf
  refine (pif_f (by decide)).trans ?_
  conv => lhs; whnf
  refine (callK_r ((rd_told f x v u 0 rg hc).trans (by rw [tol_0])) (by rfl)).trans ?_
  conv => lhs; whnf
  refine (pif_f z1).trans ?_
  conv => lhs; whnf
  refine (pif_f z2).trans ?_
  conv => lhs; whnf
  refine (pif_t rfl).trans ?_
  conv => lhs; whnf
  refine (pif_f z2).trans ?_
  conv => lhs; whnf
  refine (callK_r ((rd_told f x v u 7 rg hc).trans (by rw [tol_7])) (by rfl)).trans ?_
  conv => lhs; whnf
  refine (pif_f z3).trans ?_
  conv => lhs; whnf
  refine (pif_t rfl).trans ?_
  conv => lhs; whnf
  refine (pif_f h8).trans ?_
  conv => lhs; whnf
  refine (callK_r ((rd_told f x v u 10 rg hc).trans (by rw [tol_10])) (by rfl)).trans ?_
  conv => lhs; whnf
  refine (callK_r ((rd_told f x v u 0 rg hc).trans (by rw [tol_0])) (by rfl)).trans ?_
  conv => lhs; whnf
  refine (pif_f h9).trans ?_
  conv => lhs; whnf
  exact pif_t (Or.inr rfl)
theorem caI_s (f : Nat → Int32) (t : Int32) (k : Nat) : caI f t (k + 1) = if f k ≤ t then caI f t k else caI f t k + 1 := rfl
theorem lo_end (rg : pRg) (f : Nat → Option Nat) (x v u : pLV) {N : Nat} (hc : bOK f rg) (hN : v 0 29 = nI N) (h20 : N ≤ 20) (hF : LooF v) (ls0 : pLs) (hl : ls0 = [(3, .int (nI N)), (2, .int (caI (v 4) (v 0 0) N)), (1, .int (v 0 29)), (0, .ref 0)] ∨ ∃ p q r : Int32, ls0 = [(3, .int (nI N)), (6, .int p), (2, .int (caI (v 4) (v 0 0) N)), (5, .int q), (4, .int r), (1, .int (v 0 29)), (0, .ref 0)]) : ∃ m, ex k_L_isLoop m 8 ls0 [] (cw f x v u) rg = some (some (.int 1), cw f x v u, rg) := by
  obtain ⟨h1, h2, h3, h4, h5, h6, h7, h8, h9⟩ := hF
  have hs : caI (v 4) (v 0 0) (caK (v 0 29)) = caI (v 4) (v 0 0) N := by
    have : caK (v 0 29) = N := by
      unfold caK
      rw [hN, nI_clamp (by omega)]
      omega
    rw [this]
  rcases h7 with ⟨z1, z2, z3⟩ | ⟨z1, z2, z3⟩
  · rcases hl with rfl | ⟨p, q, r, rfl⟩
    · exact lo_e00 rg f x v u _ hc hN h20 hs h1 h2 h3 h4 h5 h6 z1 z2 z3 h8 h9
    · exact lo_e10 rg f x v u _ p q r hc hN h20 hs h1 h2 h3 h4 h5 h6 z1 z2 z3 h8 h9
  · rcases hl with rfl | ⟨p, q, r, rfl⟩
    · exact lo_e01 rg f x v u _ hc hN h20 hs h1 h2 h3 h4 h5 h6 z1 z2 z3 h8 h9
    · exact lo_e11 rg f x v u _ p q r hc hN h20 hs h1 h2 h3 h4 h5 h6 z1 z2 z3 h8 h9
theorem lo_lo (rg : pRg) (f : Nat → Option Nat) (x v u : pLV) {N : Nat} (hc : bOK f rg) (hN : v 0 29 = nI N) (h20 : N ≤ 20) (hE : ∀ k, k < N → LooE v k) (hS : ∀ k, k + 1 < N → ¬ v 4 (k + 1) < v 4 k) (hF : LooF v) : ∀ (d k : Nat), k + 1 + d = N → ∀ ls0, (∃ p q r : Int32, ls0 = [(3, .int (nI (k + 1))), (6, .int p), (2, .int (caI (v 4) (v 0 0) (k + 1))), (5, .int q), (4, .int r), (1, .int (v 0 29)), (0, .ref 0)]) → ∃ m, ex k_L_isLoop m 8 ls0 [] (cw f x v u) rg = some (some (.int 1), cw f x v u, rg) := by
  intro d
  induction d with
  | zero =>
    intro k hk ls0 hl
    obtain rfl : N = k + 1 := by omega
    exact lo_end rg f x v u hc hN h20 hF ls0 (Or.inr hl)
  | succ d ih =>
    intro k hk0 ls0 hl
    have hk : k + 1 < N := by omega
    obtain ⟨e1, e3⟩ := hE (k + 1) hk
    have g := ih (k + 1) (by omega)
    obtain ⟨p, q, r, rfl⟩ := hl
    by_cases ha : v 4 (k + 1) ≤ v 0 0
    · rw [show caI (v 4) (v 0 0) ((k + 1) + 1) = caI (v 4) (v 0 0) (k + 1) from (caI_s _ _ _).trans (if_pos ha)] at g
      rcases e1 with ⟨e1, e2⟩ | ⟨e1, e2⟩ | ⟨e1, e2⟩
      · exact lo_s100 rg f x v u _ p q r hc hN h20 hk (hS k hk) ha e1 e2 e3 (g _ ⟨_, _, _, rfl⟩)
      · exact lo_s101 rg f x v u _ p q r hc hN h20 hk (hS k hk) ha e1 e2 e3 (g _ ⟨_, _, _, rfl⟩)
      · exact lo_s102 rg f x v u _ p q r hc hN h20 hk (hS k hk) ha e1 e2 e3 (g _ ⟨_, _, _, rfl⟩)
    · rw [show caI (v 4) (v 0 0) ((k + 1) + 1) = caI (v 4) (v 0 0) (k + 1) + 1 from (caI_s _ _ _).trans (if_neg ha)] at g
      rcases e1 with ⟨e1, e2⟩ | ⟨e1, e2⟩ | ⟨e1, e2⟩
      · exact lo_s110 rg f x v u _ p q r hc hN h20 hk (hS k hk) ha e1 e2 e3 (g _ ⟨_, _, _, rfl⟩)
      · exact lo_s111 rg f x v u _ p q r hc hN h20 hk (hS k hk) ha e1 e2 e3 (g _ ⟨_, _, _, rfl⟩)
      · exact lo_s112 rg f x v u _ p q r hc hN h20 hk (hS k hk) ha e1 e2 e3 (g _ ⟨_, _, _, rfl⟩)
set_option maxHeartbeats 400000 in
set_option maxRecDepth 100000 in
theorem run_L_isLoop (rg : pRg) (f : Nat → Option Nat) (x v u : pLV) (hc : bOK f rg ∧ LooC v) : ∃ fu, ex k_L_isLoop fu 0 [(0, .ref 0)] [] (cw f x v u) rg = some (some (.int (1)), cw f (x) (v) (u), rg) := by
  obtain ⟨hc, N, h20, hN, hE, hS, hF⟩ := hc
  have g0 : ∃ m, ex k_L_isLoop m 8 [(3, .int (nI 0)), (2, .int (caI (v 4) (v 0 0) 0)), (1, .int (v 0 29)), (0, .ref 0)] [] (cw f x v u) rg = some (some (.int 1), cw f x v u, rg) := by
    by_cases hN0 : N = 0
    · subst hN0
      exact lo_end rg f x v u hc hN h20 hF _ (Or.inl rfl)
    · have hk : 0 < N := by omega
      obtain ⟨e1, e3⟩ := hE 0 hk
      have g := lo_lo rg f x v u hc hN h20 hE hS hF (N - 1) 0 (by omega)
      by_cases ha : v 4 0 ≤ v 0 0
      · rw [show caI (v 4) (v 0 0) (0 + 1) = caI (v 4) (v 0 0) 0 from (caI_s _ _ _).trans (if_pos ha)] at g
        rcases e1 with ⟨e1, e2⟩ | ⟨e1, e2⟩ | ⟨e1, e2⟩
        · exact lo_s000 rg f x v u _ hc hN h20 hk ha e1 e2 e3 (g _ ⟨_, _, _, rfl⟩)
        · exact lo_s001 rg f x v u _ hc hN h20 hk ha e1 e2 e3 (g _ ⟨_, _, _, rfl⟩)
        · exact lo_s002 rg f x v u _ hc hN h20 hk ha e1 e2 e3 (g _ ⟨_, _, _, rfl⟩)
      · rw [show caI (v 4) (v 0 0) (0 + 1) = caI (v 4) (v 0 0) 0 + 1 from (caI_s _ _ _).trans (if_neg ha)] at g
        rcases e1 with ⟨e1, e2⟩ | ⟨e1, e2⟩ | ⟨e1, e2⟩
        · exact lo_s010 rg f x v u _ hc hN h20 hk ha e1 e2 e3 (g _ ⟨_, _, _, rfl⟩)
        · exact lo_s011 rg f x v u _ hc hN h20 hk ha e1 e2 e3 (g _ ⟨_, _, _, rfl⟩)
        · exact lo_s012 rg f x v u _ hc hN h20 hk ha e1 e2 e3 (g _ ⟨_, _, _, rfl⟩)
  obtain ⟨m, hm⟩ := g0
  obtain ⟨m', rfl⟩ := ex_pos hm
  refine ⟨m' + 1, ?_⟩
  conv => lhs; whnf
  refine (callK_r ((rd_told f x v u 8 rg hc).trans (by rw [tol_8])) (by rfl)).trans ?_
  exact hm
theorem ok_F_L_isLoop (l : Launch) : pFOK l yL_isLoop (pWs yL_isLoop cL_isLoop 7 ((some FieldType.boolean))) rm_L_isLoop F_L_isLoop := by
  refine pFOK_all fun args w rg v0 w' rg' h => ?_
  unfold F_L_isLoop at h
  split at h
  next  =>
    obtain ⟨f, x, v, u, hw, h2⟩ := unB_some h
    clear h
    subst hw
    by_cases hc : bOK f rg ∧ LooC v
    · have h2 := (pif_t hc).symm.trans h2
      cases h2
      exact met_of_ex (by decide) (ok_k_L_isLoop l) rfl (run_L_isLoop rg f x v u  hc) (Nat.le_of_ble_eq_true rfl) rfl (Nat.le_of_ble_eq_true rfl) (Nat.le_of_ble_eq_true rfl) (Nat.zero_le _) rfl rfl
    · have h2 := (pif_f hc).symm.trans h2
      cases h2
  next => cases h
theorem cl_L_isLoop (f : Nat → Option Nat) (x v u : pLV) (rg : pRg) (hc : bOK f rg ∧ LooC (NL v)) : F_L_isLoop [.ref 0] (cw f x v u) rg = some (some (.int (1)), cw f ((NX x)) ((NL v)) (NL u), rg) := pif_t hc
end
