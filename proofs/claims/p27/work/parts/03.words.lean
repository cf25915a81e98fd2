/-! words of the tables, by their places (written by a program of mine out of the Statement) -/
def pWA : List Cond := lw_tbl.filter goodWord
theorem pWA_tbl {w : Cond} (h : w ∈ pWA) : w ∈ lw_tbl := (List.mem_filter.mp h).1
theorem pWA_good {w : Cond} (h : w ∈ pWA) : goodWord w = true := (List.mem_filter.mp h).2
set_option maxRecDepth 20000 in
theorem wm_1_0 : Cond.initialized RL ∈ pWA := List.mem_filter.mpr ⟨List.mem_append_right _ (List.mem_append_left _ (List.mem_of_getElem? (i := 0) rfl)), rfl⟩
set_option maxRecDepth 20000 in
theorem wm_1_1 : Cond.initialized RX8 ∈ pWA := List.mem_filter.mpr ⟨List.mem_append_right _ (List.mem_append_left _ (List.mem_of_getElem? (i := 1) rfl)), rfl⟩
set_option maxRecDepth 20000 in
theorem wm_1_2 : Cond.initialized RX5 ∈ pWA := List.mem_filter.mpr ⟨List.mem_append_right _ (List.mem_append_left _ (List.mem_of_getElem? (i := 2) rfl)), rfl⟩
set_option maxRecDepth 20000 in
theorem wm_1_3 : Cond.initialized RX1 ∈ pWA := List.mem_filter.mpr ⟨List.mem_append_right _ (List.mem_append_left _ (List.mem_of_getElem? (i := 3) rfl)), rfl⟩
set_option maxRecDepth 20000 in
theorem wm_1_4 : Cond.initialized RX0 ∈ pWA := List.mem_filter.mpr ⟨List.mem_append_right _ (List.mem_append_left _ (List.mem_of_getElem? (i := 4) rfl)), rfl⟩
set_option maxRecDepth 20000 in
theorem wm_1_5 : Cond.initialized RX2 ∈ pWA := List.mem_filter.mpr ⟨List.mem_append_right _ (List.mem_append_left _ (List.mem_of_getElem? (i := 5) rfl)), rfl⟩
set_option maxRecDepth 20000 in
theorem wm_1_6 : Cond.initialized RX7 ∈ pWA := List.mem_filter.mpr ⟨List.mem_append_right _ (List.mem_append_left _ (List.mem_of_getElem? (i := 6) rfl)), rfl⟩
set_option maxRecDepth 20000 in
theorem wm_1_7 : Cond.initialized RX3 ∈ pWA := List.mem_filter.mpr ⟨List.mem_append_right _ (List.mem_append_left _ (List.mem_of_getElem? (i := 7) rfl)), rfl⟩
set_option maxRecDepth 20000 in
theorem wm_1_8 : Cond.initialized RX4 ∈ pWA := List.mem_filter.mpr ⟨List.mem_append_right _ (List.mem_append_left _ (List.mem_of_getElem? (i := 8) rfl)), rfl⟩
set_option maxRecDepth 20000 in
theorem wm_1_9 : Cond.initialized RX6 ∈ pWA := List.mem_filter.mpr ⟨List.mem_append_right _ (List.mem_append_left _ (List.mem_of_getElem? (i := 9) rfl)), rfl⟩
set_option maxRecDepth 20000 in
theorem wm_1_11 : Cond.initialized RJ9 ∈ pWA := List.mem_filter.mpr ⟨List.mem_append_right _ (List.mem_append_left _ (List.mem_of_getElem? (i := 10) rfl)), rfl⟩
set_option maxRecDepth 20000 in
theorem wn_1_11 : Cond.classLink RL 10 RX8 ∈ pWA := List.mem_filter.mpr ⟨List.mem_append_right _ (List.mem_append_left _ (List.mem_of_getElem? (i := 11) rfl)), rfl⟩
set_option maxRecDepth 20000 in
theorem wm_1_13 : Cond.instantiable RX8 10 ∈ pWA := List.mem_filter.mpr ⟨List.mem_append_right _ (List.mem_append_left _ (List.mem_of_getElem? (i := 12) rfl)), rfl⟩
set_option maxRecDepth 20000 in
theorem wn_1_13 : Cond.methodLink RL 101 yX8_init ∈ pWA := List.mem_filter.mpr ⟨List.mem_append_right _ (List.mem_append_left _ (List.mem_of_getElem? (i := 13) rfl)), rfl⟩
set_option maxRecDepth 20000 in
theorem wm_1_15 : Cond.instanceMethod yX8_init ∈ pWA := List.mem_filter.mpr ⟨List.mem_append_right _ (List.mem_append_left _ (List.mem_of_getElem? (i := 14) rfl)), rfl⟩
set_option maxRecDepth 20000 in
theorem wm_1_16 : Cond.code yX8_init cX8_init 1 (none : Option FieldType) ∈ pWA := List.mem_filter.mpr ⟨List.mem_append_right _ (List.mem_append_left _ (List.mem_of_getElem? (i := 15) rfl)), rfl⟩
set_option maxRecDepth 20000 in
theorem wm_1_17 : Cond.methodLink RX8 1 ⟨"java/lang/Object", "<init>", "()V"⟩ ∈ pWA := List.mem_filter.mpr ⟨List.mem_append_right _ (List.mem_append_left _ (List.mem_of_getElem? (i := 16) rfl)), rfl⟩
set_option maxRecDepth 20000 in
theorem wm_1_18 : Cond.instanceMethod ⟨"java/lang/Object", "<init>", "()V"⟩ ∈ pWA := List.mem_filter.mpr ⟨List.mem_append_right _ (List.mem_append_left _ (List.mem_of_getElem? (i := 17) rfl)), rfl⟩
set_option maxRecDepth 20000 in
theorem wm_1_19 : Cond.code ⟨"java/lang/Object", "<init>", "()V"⟩ object_method_1_code 1 (none : Option FieldType) ∈ pWA := List.mem_filter.mpr ⟨List.mem_append_right _ (List.mem_append_left _ (List.mem_of_getElem? (i := 18) rfl)), rfl⟩
set_option maxRecDepth 20000 in
theorem wm_1_20 : Cond.classLink RX8 7 RX5 ∈ pWA := List.mem_filter.mpr ⟨List.mem_append_right _ (List.mem_append_left _ (List.mem_of_getElem? (i := 19) rfl)), rfl⟩
set_option maxRecDepth 20000 in
theorem wm_1_21 : Cond.instantiable RX5 15 ∈ pWA := List.mem_filter.mpr ⟨List.mem_append_right _ (List.mem_append_left _ (List.mem_of_getElem? (i := 20) rfl)), rfl⟩
set_option maxRecDepth 20000 in
theorem wm_1_22 : Cond.methodLink RX8 9 yX5_init ∈ pWA := List.mem_filter.mpr ⟨List.mem_append_right _ (List.mem_append_left _ (List.mem_of_getElem? (i := 21) rfl)), rfl⟩
set_option maxRecDepth 20000 in
theorem wm_1_23 : Cond.instanceMethod yX5_init ∈ pWA := List.mem_filter.mpr ⟨List.mem_append_right _ (List.mem_append_left _ (List.mem_of_getElem? (i := 22) rfl)), rfl⟩
set_option maxRecDepth 20000 in
theorem wm_1_24 : Cond.code yX5_init cX5_init 1 (none : Option FieldType) ∈ pWA := List.mem_filter.mpr ⟨List.mem_append_right _ (List.mem_append_left _ (List.mem_of_getElem? (i := 23) rfl)), rfl⟩
set_option maxRecDepth 20000 in
theorem wm_1_25 : Cond.methodLink RX5 3 ⟨"java/lang/Object", "<init>", "()V"⟩ ∈ pWA := List.mem_filter.mpr ⟨List.mem_append_right _ (List.mem_append_left _ (List.mem_of_getElem? (i := 24) rfl)), rfl⟩
set_option maxRecDepth 20000 in
theorem wm_1_26 : Cond.classLink RX5 33 RX1 ∈ pWA := List.mem_filter.mpr ⟨List.mem_append_right _ (List.mem_append_left _ (List.mem_of_getElem? (i := 25) rfl)), rfl⟩
set_option maxRecDepth 20000 in
theorem wm_1_27 : Cond.instantiable RX1 4 ∈ pWA := List.mem_filter.mpr ⟨List.mem_append_right _ (List.mem_append_left _ (List.mem_of_getElem? (i := 26) rfl)), rfl⟩
set_option maxRecDepth 20000 in
theorem wm_1_28 : Cond.methodLink RX5 35 yX1_init ∈ pWA := List.mem_filter.mpr ⟨List.mem_append_right _ (List.mem_append_left _ (List.mem_of_getElem? (i := 27) rfl)), rfl⟩
set_option maxRecDepth 20000 in
theorem wm_1_29 : Cond.instanceMethod yX1_init ∈ pWA := List.mem_filter.mpr ⟨List.mem_append_right _ (List.mem_append_left _ (List.mem_of_getElem? (i := 28) rfl)), rfl⟩
set_option maxRecDepth 20000 in
theorem wm_1_30 : Cond.code yX1_init cX1_init 2 (none : Option FieldType) ∈ pWA := List.mem_filter.mpr ⟨List.mem_append_right _ (List.mem_append_left _ (List.mem_of_getElem? (i := 29) rfl)), rfl⟩
set_option maxRecDepth 20000 in
theorem wm_1_31 : Cond.methodLink RX1 1 ⟨"java/lang/Object", "<init>", "()V"⟩ ∈ pWA := List.mem_filter.mpr ⟨List.mem_append_right _ (List.mem_append_left _ (List.mem_of_getElem? (i := 30) rfl)), rfl⟩
set_option maxRecDepth 20000 in
theorem wm_1_32 : Cond.fieldLink RX1 19 RX1 "room" "I" ∈ pWA := List.mem_filter.mpr ⟨List.mem_append_right _ (List.mem_append_left _ (List.mem_of_getElem? (i := 31) rfl)), rfl⟩
set_option maxRecDepth 20000 in
theorem wm_1_33 : Cond.fieldLink RX1 7 RX1 "fibre" "I" ∈ pWA := List.mem_filter.mpr ⟨List.mem_append_right _ (List.mem_append_left _ (List.mem_of_getElem? (i := 32) rfl)), rfl⟩
set_option maxRecDepth 20000 in
theorem wm_1_34 : Cond.fieldLink RX5 107 RX1 "fibre" "I" ∈ pWA := List.mem_filter.mpr ⟨List.mem_append_right _ (List.mem_append_left _ (List.mem_of_getElem? (i := 33) rfl)), rfl⟩
set_option maxRecDepth 20000 in
theorem wm_1_35 : Cond.fieldLink RX8 180 RX1 "fibre" "I" ∈ pWA := List.mem_filter.mpr ⟨List.mem_append_right _ (List.mem_append_left _ (List.mem_of_getElem? (i := 34) rfl)), rfl⟩
set_option maxRecDepth 20000 in
theorem wm_1_36 : Cond.fieldLink RX1 13 RX1 "water" "I" ∈ pWA := List.mem_filter.mpr ⟨List.mem_append_right _ (List.mem_append_left _ (List.mem_of_getElem? (i := 35) rfl)), rfl⟩
set_option maxRecDepth 20000 in
theorem wm_1_37 : Cond.fieldLink RX8 183 RX1 "water" "I" ∈ pWA := List.mem_filter.mpr ⟨List.mem_append_right _ (List.mem_append_left _ (List.mem_of_getElem? (i := 36) rfl)), rfl⟩
set_option maxRecDepth 20000 in
theorem wm_1_38 : Cond.fieldLink RX1 16 RX1 "greatest" "I" ∈ pWA := List.mem_filter.mpr ⟨List.mem_append_right _ (List.mem_append_left _ (List.mem_of_getElem? (i := 37) rfl)), rfl⟩
set_option maxRecDepth 20000 in
theorem wm_1_39 : Cond.fieldLink RX8 192 RX1 "greatest" "I" ∈ pWA := List.mem_filter.mpr ⟨List.mem_append_right _ (List.mem_append_left _ (List.mem_of_getElem? (i := 38) rfl)), rfl⟩
set_option maxRecDepth 20000 in
theorem wm_1_40 : Cond.laysFinal RX1 RX1 "room" "I" ∈ pWA := List.mem_filter.mpr ⟨List.mem_append_right _ (List.mem_append_left _ (List.mem_of_getElem? (i := 39) rfl)), rfl⟩
set_option maxRecDepth 20000 in
theorem wm_1_42 : Cond.lays RX1 RX1 "fibre" "I" ∈ pWA := List.mem_filter.mpr ⟨List.mem_append_right _ (List.mem_append_left _ (List.mem_of_getElem? (i := 41) rfl)), rfl⟩
set_option maxRecDepth 20000 in
theorem wm_1_44 : Cond.lays RX1 RX1 "water" "I" ∈ pWA := List.mem_filter.mpr ⟨List.mem_append_right _ (List.mem_append_left _ (List.mem_of_getElem? (i := 43) rfl)), rfl⟩
set_option maxRecDepth 20000 in
theorem wm_1_46 : Cond.lays RX1 RX1 "greatest" "I" ∈ pWA := List.mem_filter.mpr ⟨List.mem_append_right _ (List.mem_append_left _ (List.mem_of_getElem? (i := 45) rfl)), rfl⟩
set_option maxRecDepth 20000 in
theorem wm_1_49 : Cond.classLink RX5 51 RX0 ∈ pWA := List.mem_filter.mpr ⟨List.mem_append_right _ (List.mem_append_left _ (List.mem_of_getElem? (i := 48) rfl)), rfl⟩
set_option maxRecDepth 20000 in
theorem wm_1_50 : Cond.instantiable RX0 6 ∈ pWA := List.mem_filter.mpr ⟨List.mem_append_right _ (List.mem_append_left _ (List.mem_of_getElem? (i := 49) rfl)), rfl⟩
set_option maxRecDepth 20000 in
theorem wm_1_51 : Cond.methodLinkNest RX5 53 yX0_init RX8 ∈ lw_tbl := List.mem_append_right _ (List.mem_append_left _ (List.mem_of_getElem? (i := 50) rfl))
set_option maxRecDepth 20000 in
theorem wm_1_52 : Cond.instanceMethod yX0_init ∈ pWA := List.mem_filter.mpr ⟨List.mem_append_right _ (List.mem_append_left _ (List.mem_of_getElem? (i := 51) rfl)), rfl⟩
set_option maxRecDepth 20000 in
theorem wm_1_53 : Cond.code yX0_init cX0_init 1 (none : Option FieldType) ∈ pWA := List.mem_filter.mpr ⟨List.mem_append_right _ (List.mem_append_left _ (List.mem_of_getElem? (i := 52) rfl)), rfl⟩
set_option maxRecDepth 20000 in
theorem wm_1_54 : Cond.methodLink RX0 3 ⟨"java/lang/Object", "<init>", "()V"⟩ ∈ pWA := List.mem_filter.mpr ⟨List.mem_append_right _ (List.mem_append_left _ (List.mem_of_getElem? (i := 53) rfl)), rfl⟩
set_option maxRecDepth 20000 in
theorem wm_1_55 : Cond.fieldLink RX0 9 RX0 "inflow" "I" ∈ pWA := List.mem_filter.mpr ⟨List.mem_append_right _ (List.mem_append_left _ (List.mem_of_getElem? (i := 54) rfl)), rfl⟩
set_option maxRecDepth 20000 in
theorem wm_1_56 : Cond.fieldLink RX5 133 RX0 "inflow" "I" ∈ pWA := List.mem_filter.mpr ⟨List.mem_append_right _ (List.mem_append_left _ (List.mem_of_getElem? (i := 55) rfl)), rfl⟩
set_option maxRecDepth 20000 in
theorem wm_1_57 : Cond.fieldLink RX8 195 RX0 "inflow" "I" ∈ pWA := List.mem_filter.mpr ⟨List.mem_append_right _ (List.mem_append_left _ (List.mem_of_getElem? (i := 56) rfl)), rfl⟩
set_option maxRecDepth 20000 in
theorem wm_1_58 : Cond.fieldLink RX0 15 RX0 "given" "I" ∈ pWA := List.mem_filter.mpr ⟨List.mem_append_right _ (List.mem_append_left _ (List.mem_of_getElem? (i := 57) rfl)), rfl⟩
set_option maxRecDepth 20000 in
theorem wm_1_59 : Cond.fieldLink RX8 94 RX0 "given" "I" ∈ pWA := List.mem_filter.mpr ⟨List.mem_append_right _ (List.mem_append_left _ (List.mem_of_getElem? (i := 58) rfl)), rfl⟩
set_option maxRecDepth 20000 in
theorem wm_1_60 : Cond.fieldLink RX0 18 RX0 "spilled" "I" ∈ pWA := List.mem_filter.mpr ⟨List.mem_append_right _ (List.mem_append_left _ (List.mem_of_getElem? (i := 59) rfl)), rfl⟩
set_option maxRecDepth 20000 in
theorem wm_1_61 : Cond.fieldLink RX5 119 RX0 "spilled" "I" ∈ pWA := List.mem_filter.mpr ⟨List.mem_append_right _ (List.mem_append_left _ (List.mem_of_getElem? (i := 60) rfl)), rfl⟩
set_option maxRecDepth 20000 in
theorem wm_1_62 : Cond.fieldLink RX8 201 RX0 "spilled" "I" ∈ pWA := List.mem_filter.mpr ⟨List.mem_append_right _ (List.mem_append_left _ (List.mem_of_getElem? (i := 61) rfl)), rfl⟩
set_option maxRecDepth 20000 in
theorem wm_1_63 : Cond.fieldLink RX0 21 RX0 "drained" "I" ∈ pWA := List.mem_filter.mpr ⟨List.mem_append_right _ (List.mem_append_left _ (List.mem_of_getElem? (i := 62) rfl)), rfl⟩
set_option maxRecDepth 20000 in
theorem wm_1_64 : Cond.fieldLink RX8 116 RX0 "drained" "I" ∈ pWA := List.mem_filter.mpr ⟨List.mem_append_right _ (List.mem_append_left _ (List.mem_of_getElem? (i := 63) rfl)), rfl⟩
set_option maxRecDepth 20000 in
theorem wm_1_65 : Cond.fieldLink RX0 24 RX0 "broke" "I" ∈ pWA := List.mem_filter.mpr ⟨List.mem_append_right _ (List.mem_append_left _ (List.mem_of_getElem? (i := 64) rfl)), rfl⟩
set_option maxRecDepth 20000 in
theorem wm_1_66 : Cond.fieldLink RX5 206 RX0 "broke" "I" ∈ pWA := List.mem_filter.mpr ⟨List.mem_append_right _ (List.mem_append_left _ (List.mem_of_getElem? (i := 65) rfl)), rfl⟩
set_option maxRecDepth 20000 in
theorem wm_1_67 : Cond.fieldLink RX8 207 RX0 "broke" "I" ∈ pWA := List.mem_filter.mpr ⟨List.mem_append_right _ (List.mem_append_left _ (List.mem_of_getElem? (i := 66) rfl)), rfl⟩
set_option maxRecDepth 20000 in
theorem wm_1_68 : Cond.fieldLink RX0 27 RX0 "paper" "[I" ∈ pWA := List.mem_filter.mpr ⟨List.mem_append_right _ (List.mem_append_left _ (List.mem_of_getElem? (i := 67) rfl)), rfl⟩
set_option maxRecDepth 20000 in
theorem wm_1_69 : Cond.fieldLink RX5 208 RX0 "paper" "[I" ∈ pWA := List.mem_filter.mpr ⟨List.mem_append_right _ (List.mem_append_left _ (List.mem_of_getElem? (i := 68) rfl)), rfl⟩
set_option maxRecDepth 20000 in
theorem wm_1_70 : Cond.fieldLink RX8 210 RX0 "paper" "[I" ∈ pWA := List.mem_filter.mpr ⟨List.mem_append_right _ (List.mem_append_left _ (List.mem_of_getElem? (i := 69) rfl)), rfl⟩
set_option maxRecDepth 20000 in
theorem wm_1_71 : Cond.lays RX0 RX0 "inflow" "I" ∈ pWA := List.mem_filter.mpr ⟨List.mem_append_right _ (List.mem_append_left _ (List.mem_of_getElem? (i := 70) rfl)), rfl⟩
set_option maxRecDepth 20000 in
theorem wm_1_73 : Cond.lays RX0 RX0 "given" "I" ∈ pWA := List.mem_filter.mpr ⟨List.mem_append_right _ (List.mem_append_left _ (List.mem_of_getElem? (i := 72) rfl)), rfl⟩
set_option maxRecDepth 20000 in
theorem wm_1_75 : Cond.lays RX0 RX0 "spilled" "I" ∈ pWA := List.mem_filter.mpr ⟨List.mem_append_right _ (List.mem_append_left _ (List.mem_of_getElem? (i := 74) rfl)), rfl⟩
set_option maxRecDepth 20000 in
theorem wm_1_77 : Cond.lays RX0 RX0 "drained" "I" ∈ pWA := List.mem_filter.mpr ⟨List.mem_append_right _ (List.mem_append_left _ (List.mem_of_getElem? (i := 76) rfl)), rfl⟩
set_option maxRecDepth 20000 in
theorem wm_1_79 : Cond.lays RX0 RX0 "broke" "I" ∈ pWA := List.mem_filter.mpr ⟨List.mem_append_right _ (List.mem_append_left _ (List.mem_of_getElem? (i := 78) rfl)), rfl⟩
set_option maxRecDepth 20000 in
theorem wm_1_81 : Cond.laysFinal RX0 RX0 "paper" "[I" ∈ pWA := List.mem_filter.mpr ⟨List.mem_append_right _ (List.mem_append_left _ (List.mem_of_getElem? (i := 80) rfl)), rfl⟩
set_option maxRecDepth 20000 in
theorem wm_1_84 : Cond.arrayClass FieldType.int ∈ pWA := List.mem_filter.mpr ⟨List.mem_append_right _ (List.mem_append_left _ (List.mem_of_getElem? (i := 83) rfl)), rfl⟩
set_option maxRecDepth 20000 in
theorem wm_1_85 : Cond.classLink RX5 58 RX2 ∈ pWA := List.mem_filter.mpr ⟨List.mem_append_right _ (List.mem_append_left _ (List.mem_of_getElem? (i := 84) rfl)), rfl⟩
set_option maxRecDepth 20000 in
theorem wm_1_86 : Cond.instantiable RX2 3 ∈ pWA := List.mem_filter.mpr ⟨List.mem_append_right _ (List.mem_append_left _ (List.mem_of_getElem? (i := 85) rfl)), rfl⟩
set_option maxRecDepth 20000 in
theorem wm_1_87 : Cond.methodLinkNest RX5 60 yX2_init RX8 ∈ lw_tbl := List.mem_append_right _ (List.mem_append_left _ (List.mem_of_getElem? (i := 86) rfl))
set_option maxRecDepth 20000 in
theorem wm_1_88 : Cond.instanceMethod yX2_init ∈ pWA := List.mem_filter.mpr ⟨List.mem_append_right _ (List.mem_append_left _ (List.mem_of_getElem? (i := 87) rfl)), rfl⟩
set_option maxRecDepth 20000 in
theorem wm_1_89 : Cond.code yX2_init cX2_init 1 (none : Option FieldType) ∈ pWA := List.mem_filter.mpr ⟨List.mem_append_right _ (List.mem_append_left _ (List.mem_of_getElem? (i := 88) rfl)), rfl⟩
set_option maxRecDepth 20000 in
theorem wm_1_90 : Cond.methodLink RX2 3 ⟨"java/lang/Object", "<init>", "()V"⟩ ∈ pWA := List.mem_filter.mpr ⟨List.mem_append_right _ (List.mem_append_left _ (List.mem_of_getElem? (i := 89) rfl)), rfl⟩
set_option maxRecDepth 20000 in
theorem wm_1_91 : Cond.fieldLink RX2 9 RX2 "valve" "I" ∈ pWA := List.mem_filter.mpr ⟨List.mem_append_right _ (List.mem_append_left _ (List.mem_of_getElem? (i := 90) rfl)), rfl⟩
set_option maxRecDepth 20000 in
theorem wm_1_92 : Cond.fieldLink RX8 159 RX2 "valve" "I" ∈ pWA := List.mem_filter.mpr ⟨List.mem_append_right _ (List.mem_append_left _ (List.mem_of_getElem? (i := 91) rfl)), rfl⟩
set_option maxRecDepth 20000 in
theorem wm_1_93 : Cond.fieldLink RX5 200 RX2 "valve" "I" ∈ pWA := List.mem_filter.mpr ⟨List.mem_append_right _ (List.mem_append_left _ (List.mem_of_getElem? (i := 92) rfl)), rfl⟩
set_option maxRecDepth 20000 in
theorem wm_1_94 : Cond.fieldLink RX2 15 RX2 "measured" "[I" ∈ pWA := List.mem_filter.mpr ⟨List.mem_append_right _ (List.mem_append_left _ (List.mem_of_getElem? (i := 93) rfl)), rfl⟩
set_option maxRecDepth 20000 in
theorem wm_1_95 : Cond.fieldLink RX2 19 RX2 "size" "I" ∈ pWA := List.mem_filter.mpr ⟨List.mem_append_right _ (List.mem_append_left _ (List.mem_of_getElem? (i := 94) rfl)), rfl⟩
set_option maxRecDepth 20000 in
theorem wm_1_96 : Cond.lays RX2 RX2 "valve" "I" ∈ pWA := List.mem_filter.mpr ⟨List.mem_append_right _ (List.mem_append_left _ (List.mem_of_getElem? (i := 95) rfl)), rfl⟩
set_option maxRecDepth 20000 in
theorem wm_1_98 : Cond.laysFinal RX2 RX2 "measured" "[I" ∈ pWA := List.mem_filter.mpr ⟨List.mem_append_right _ (List.mem_append_left _ (List.mem_of_getElem? (i := 97) rfl)), rfl⟩
set_option maxRecDepth 20000 in
theorem wm_1_100 : Cond.lays RX2 RX2 "size" "I" ∈ pWA := List.mem_filter.mpr ⟨List.mem_append_right _ (List.mem_append_left _ (List.mem_of_getElem? (i := 99) rfl)), rfl⟩
set_option maxRecDepth 20000 in
theorem wm_1_103 : Cond.classLink RX5 65 RX7 ∈ pWA := List.mem_filter.mpr ⟨List.mem_append_right _ (List.mem_append_left _ (List.mem_of_getElem? (i := 102) rfl)), rfl⟩
set_option maxRecDepth 20000 in
theorem wm_1_104 : Cond.instantiable RX7 4 ∈ pWA := List.mem_filter.mpr ⟨List.mem_append_right _ (List.mem_append_left _ (List.mem_of_getElem? (i := 103) rfl)), rfl⟩
set_option maxRecDepth 20000 in
theorem wm_1_105 : Cond.methodLinkNest RX5 67 yX7_init RX8 ∈ lw_tbl := List.mem_append_right _ (List.mem_append_left _ (List.mem_of_getElem? (i := 104) rfl))
set_option maxRecDepth 20000 in
theorem wm_1_106 : Cond.instanceMethod yX7_init ∈ pWA := List.mem_filter.mpr ⟨List.mem_append_right _ (List.mem_append_left _ (List.mem_of_getElem? (i := 105) rfl)), rfl⟩
set_option maxRecDepth 20000 in
theorem wm_1_107 : Cond.code yX7_init cX7_init 1 (none : Option FieldType) ∈ pWA := List.mem_filter.mpr ⟨List.mem_append_right _ (List.mem_append_left _ (List.mem_of_getElem? (i := 106) rfl)), rfl⟩
set_option maxRecDepth 20000 in
theorem wm_1_108 : Cond.methodLink RX7 3 ⟨"java/lang/Object", "<init>", "()V"⟩ ∈ pWA := List.mem_filter.mpr ⟨List.mem_append_right _ (List.mem_append_left _ (List.mem_of_getElem? (i := 107) rfl)), rfl⟩
set_option maxRecDepth 20000 in
theorem wm_1_109 : Cond.fieldLink RX7 9 RX7 "times" "[I" ∈ pWA := List.mem_filter.mpr ⟨List.mem_append_right _ (List.mem_append_left _ (List.mem_of_getElem? (i := 108) rfl)), rfl⟩
set_option maxRecDepth 20000 in
theorem wm_1_110 : Cond.fieldLink RX5 165 RX7 "times" "[I" ∈ pWA := List.mem_filter.mpr ⟨List.mem_append_right _ (List.mem_append_left _ (List.mem_of_getElem? (i := 109) rfl)), rfl⟩
set_option maxRecDepth 20000 in
theorem wm_1_111 : Cond.fieldLink RX8 213 RX7 "times" "[I" ∈ pWA := List.mem_filter.mpr ⟨List.mem_append_right _ (List.mem_append_left _ (List.mem_of_getElem? (i := 110) rfl)), rfl⟩
set_option maxRecDepth 20000 in
theorem wm_1_112 : Cond.fieldLink RX7 15 RX7 "kinds" "[I" ∈ pWA := List.mem_filter.mpr ⟨List.mem_append_right _ (List.mem_append_left _ (List.mem_of_getElem? (i := 111) rfl)), rfl⟩
set_option maxRecDepth 20000 in
theorem wm_1_113 : Cond.fieldLink RX5 168 RX7 "kinds" "[I" ∈ pWA := List.mem_filter.mpr ⟨List.mem_append_right _ (List.mem_append_left _ (List.mem_of_getElem? (i := 112) rfl)), rfl⟩
set_option maxRecDepth 20000 in
theorem wm_1_114 : Cond.fieldLink RX8 216 RX7 "kinds" "[I" ∈ pWA := List.mem_filter.mpr ⟨List.mem_append_right _ (List.mem_append_left _ (List.mem_of_getElem? (i := 113) rfl)), rfl⟩
set_option maxRecDepth 20000 in
theorem wm_1_115 : Cond.fieldLink RX7 18 RX7 "numbers" "[I" ∈ pWA := List.mem_filter.mpr ⟨List.mem_append_right _ (List.mem_append_left _ (List.mem_of_getElem? (i := 114) rfl)), rfl⟩
set_option maxRecDepth 20000 in
theorem wm_1_116 : Cond.fieldLink RX5 171 RX7 "numbers" "[I" ∈ pWA := List.mem_filter.mpr ⟨List.mem_append_right _ (List.mem_append_left _ (List.mem_of_getElem? (i := 115) rfl)), rfl⟩
set_option maxRecDepth 20000 in
theorem wm_1_117 : Cond.fieldLink RX8 219 RX7 "numbers" "[I" ∈ pWA := List.mem_filter.mpr ⟨List.mem_append_right _ (List.mem_append_left _ (List.mem_of_getElem? (i := 116) rfl)), rfl⟩
set_option maxRecDepth 20000 in
theorem wm_1_118 : Cond.fieldLink RX7 21 RX7 "size" "I" ∈ pWA := List.mem_filter.mpr ⟨List.mem_append_right _ (List.mem_append_left _ (List.mem_of_getElem? (i := 117) rfl)), rfl⟩
set_option maxRecDepth 20000 in
theorem wm_1_119 : Cond.fieldLink RX6 28 RX7 "size" "I" ∈ pWA := List.mem_filter.mpr ⟨List.mem_append_right _ (List.mem_append_left _ (List.mem_of_getElem? (i := 118) rfl)), rfl⟩
set_option maxRecDepth 20000 in
theorem wm_1_120 : Cond.fieldLink RX8 142 RX7 "size" "I" ∈ pWA := List.mem_filter.mpr ⟨List.mem_append_right _ (List.mem_append_left _ (List.mem_of_getElem? (i := 119) rfl)), rfl⟩
set_option maxRecDepth 20000 in
theorem wm_1_121 : Cond.fieldLink RX5 162 RX7 "size" "I" ∈ pWA := List.mem_filter.mpr ⟨List.mem_append_right _ (List.mem_append_left _ (List.mem_of_getElem? (i := 120) rfl)), rfl⟩
set_option maxRecDepth 20000 in
theorem wm_1_122 : Cond.laysFinal RX7 RX7 "times" "[I" ∈ pWA := List.mem_filter.mpr ⟨List.mem_append_right _ (List.mem_append_left _ (List.mem_of_getElem? (i := 121) rfl)), rfl⟩
set_option maxRecDepth 20000 in
theorem wm_1_124 : Cond.laysFinal RX7 RX7 "kinds" "[I" ∈ pWA := List.mem_filter.mpr ⟨List.mem_append_right _ (List.mem_append_left _ (List.mem_of_getElem? (i := 123) rfl)), rfl⟩
set_option maxRecDepth 20000 in
theorem wm_1_126 : Cond.laysFinal RX7 RX7 "numbers" "[I" ∈ pWA := List.mem_filter.mpr ⟨List.mem_append_right _ (List.mem_append_left _ (List.mem_of_getElem? (i := 125) rfl)), rfl⟩
set_option maxRecDepth 20000 in
theorem wm_1_128 : Cond.lays RX7 RX7 "size" "I" ∈ pWA := List.mem_filter.mpr ⟨List.mem_append_right _ (List.mem_append_left _ (List.mem_of_getElem? (i := 127) rfl)), rfl⟩
set_option maxRecDepth 20000 in
theorem wm_1_131 : Cond.fieldLinkNest RX5 76 RX8 "FIRST_VALUE" "[I" RX8 ∈ lw_tbl := List.mem_append_right _ (List.mem_append_left _ (List.mem_of_getElem? (i := 130) rfl))
set_option maxRecDepth 20000 in
theorem wm_1_132 : Cond.laysStatic RX8 "FIRST_VALUE" "[I" ∈ lw_tbl := List.mem_append_right _ (List.mem_append_left _ (List.mem_of_getElem? (i := 131) rfl))
set_option maxRecDepth 20000 in
theorem wm_1_133 : Cond.methodLinkNest RX5 79 yX8_copyNumbers RX8 ∈ lw_tbl := List.mem_append_right _ (List.mem_append_left _ (List.mem_of_getElem? (i := 132) rfl))
set_option maxRecDepth 20000 in
theorem wm_1_134 : Cond.static yX8_copyNumbers ∈ pWA := List.mem_filter.mpr ⟨List.mem_append_right _ (List.mem_append_left _ (List.mem_of_getElem? (i := 133) rfl)), rfl⟩
set_option maxRecDepth 20000 in
theorem wm_1_135 : Cond.code yX8_copyNumbers cX8_copyNumbers 3 (none : Option FieldType) ∈ pWA := List.mem_filter.mpr ⟨List.mem_append_right _ (List.mem_append_left _ (List.mem_of_getElem? (i := 134) rfl)), rfl⟩
set_option maxRecDepth 20000 in
theorem wm_1_136 : Cond.methodLink RX5 83 yX5_startAnew ∈ pWA := List.mem_filter.mpr ⟨List.mem_append_right _ (List.mem_append_left _ (List.mem_of_getElem? (i := 135) rfl)), rfl⟩
set_option maxRecDepth 20000 in
theorem wm_1_137 : Cond.instanceMethod yX5_startAnew ∈ pWA := List.mem_filter.mpr ⟨List.mem_append_right _ (List.mem_append_left _ (List.mem_of_getElem? (i := 136) rfl)), rfl⟩
set_option maxRecDepth 20000 in
theorem wm_1_138 : Cond.selects RX5 yX5_startAnew yX5_startAnew ∈ pWA := List.mem_filter.mpr ⟨List.mem_append_right _ (List.mem_append_left _ (List.mem_of_getElem? (i := 137) rfl)), rfl⟩
set_option maxRecDepth 20000 in
theorem wm_1_139 : Cond.code yX5_startAnew cX5_startAnew 1 (none : Option FieldType) ∈ pWA := List.mem_filter.mpr ⟨List.mem_append_right _ (List.mem_append_left _ (List.mem_of_getElem? (i := 138) rfl)), rfl⟩
set_option maxRecDepth 20000 in
theorem wm_1_140 : Cond.methodLink RX5 86 yX1_startWith ∈ pWA := List.mem_filter.mpr ⟨List.mem_append_right _ (List.mem_append_left _ (List.mem_of_getElem? (i := 139) rfl)), rfl⟩
set_option maxRecDepth 20000 in
theorem wm_1_141 : Cond.instanceMethod yX1_startWith ∈ pWA := List.mem_filter.mpr ⟨List.mem_append_right _ (List.mem_append_left _ (List.mem_of_getElem? (i := 140) rfl)), rfl⟩
set_option maxRecDepth 20000 in
theorem wm_1_142 : Cond.selects RX1 yX1_startWith yX1_startWith ∈ pWA := List.mem_filter.mpr ⟨List.mem_append_right _ (List.mem_append_left _ (List.mem_of_getElem? (i := 141) rfl)), rfl⟩
set_option maxRecDepth 20000 in
theorem wm_1_143 : Cond.code yX1_startWith cX1_startWith 3 (none : Option FieldType) ∈ pWA := List.mem_filter.mpr ⟨List.mem_append_right _ (List.mem_append_left _ (List.mem_of_getElem? (i := 142) rfl)), rfl⟩
set_option maxRecDepth 20000 in
theorem wm_1_144 : Cond.methodLink RX5 90 yX0_clear ∈ pWA := List.mem_filter.mpr ⟨List.mem_append_right _ (List.mem_append_left _ (List.mem_of_getElem? (i := 143) rfl)), rfl⟩
set_option maxRecDepth 20000 in
theorem wm_1_145 : Cond.instanceMethod yX0_clear ∈ pWA := List.mem_filter.mpr ⟨List.mem_append_right _ (List.mem_append_left _ (List.mem_of_getElem? (i := 144) rfl)), rfl⟩
set_option maxRecDepth 20000 in
theorem wm_1_146 : Cond.selects RX0 yX0_clear yX0_clear ∈ pWA := List.mem_filter.mpr ⟨List.mem_append_right _ (List.mem_append_left _ (List.mem_of_getElem? (i := 145) rfl)), rfl⟩
set_option maxRecDepth 20000 in
theorem wm_1_147 : Cond.code yX0_clear cX0_clear 2 (none : Option FieldType) ∈ pWA := List.mem_filter.mpr ⟨List.mem_append_right _ (List.mem_append_left _ (List.mem_of_getElem? (i := 146) rfl)), rfl⟩
set_option maxRecDepth 20000 in
theorem wm_1_148 : Cond.methodLink RX5 93 yX2_clear ∈ pWA := List.mem_filter.mpr ⟨List.mem_append_right _ (List.mem_append_left _ (List.mem_of_getElem? (i := 147) rfl)), rfl⟩
set_option maxRecDepth 20000 in
theorem wm_1_149 : Cond.instanceMethod yX2_clear ∈ pWA := List.mem_filter.mpr ⟨List.mem_append_right _ (List.mem_append_left _ (List.mem_of_getElem? (i := 148) rfl)), rfl⟩
set_option maxRecDepth 20000 in
theorem wm_1_150 : Cond.selects RX2 yX2_clear yX2_clear ∈ pWA := List.mem_filter.mpr ⟨List.mem_append_right _ (List.mem_append_left _ (List.mem_of_getElem? (i := 149) rfl)), rfl⟩
set_option maxRecDepth 20000 in
theorem wm_1_151 : Cond.code yX2_clear cX2_clear 1 (none : Option FieldType) ∈ pWA := List.mem_filter.mpr ⟨List.mem_append_right _ (List.mem_append_left _ (List.mem_of_getElem? (i := 150) rfl)), rfl⟩
set_option maxRecDepth 20000 in
theorem wm_1_152 : Cond.fieldLink RX5 9 RX5 "clock" "I" ∈ pWA := List.mem_filter.mpr ⟨List.mem_append_right _ (List.mem_append_left _ (List.mem_of_getElem? (i := 151) rfl)), rfl⟩
set_option maxRecDepth 20000 in
theorem wm_1_153 : Cond.fieldLink RX8 61 RX5 "clock" "I" ∈ pWA := List.mem_filter.mpr ⟨List.mem_append_right _ (List.mem_append_left _ (List.mem_of_getElem? (i := 152) rfl)), rfl⟩
set_option maxRecDepth 20000 in
theorem wm_1_154 : Cond.fieldLink RX5 15 RX5 "grade" "I" ∈ pWA := List.mem_filter.mpr ⟨List.mem_append_right _ (List.mem_append_left _ (List.mem_of_getElem? (i := 153) rfl)), rfl⟩
set_option maxRecDepth 20000 in
theorem wm_1_155 : Cond.fieldLink RX8 83 RX5 "grade" "I" ∈ pWA := List.mem_filter.mpr ⟨List.mem_append_right _ (List.mem_append_left _ (List.mem_of_getElem? (i := 154) rfl)), rfl⟩
set_option maxRecDepth 20000 in
theorem wm_1_156 : Cond.fieldLink RX5 18 RX5 "broken" "I" ∈ pWA := List.mem_filter.mpr ⟨List.mem_append_right _ (List.mem_append_left _ (List.mem_of_getElem? (i := 155) rfl)), rfl⟩
set_option maxRecDepth 20000 in
theorem wm_1_157 : Cond.fieldLink RX8 80 RX5 "broken" "I" ∈ pWA := List.mem_filter.mpr ⟨List.mem_append_right _ (List.mem_append_left _ (List.mem_of_getElem? (i := 156) rfl)), rfl⟩
set_option maxRecDepth 20000 in
theorem wm_1_158 : Cond.fieldLink RX5 21 RX5 "offGrade" "I" ∈ pWA := List.mem_filter.mpr ⟨List.mem_append_right _ (List.mem_append_left _ (List.mem_of_getElem? (i := 157) rfl)), rfl⟩
set_option maxRecDepth 20000 in
theorem wm_1_159 : Cond.fieldLink RX8 152 RX5 "offGrade" "I" ∈ pWA := List.mem_filter.mpr ⟨List.mem_append_right _ (List.mem_append_left _ (List.mem_of_getElem? (i := 158) rfl)), rfl⟩
set_option maxRecDepth 20000 in
theorem wm_1_160 : Cond.fieldLink RX5 24 RX5 "brokeGrade" "I" ∈ pWA := List.mem_filter.mpr ⟨List.mem_append_right _ (List.mem_append_left _ (List.mem_of_getElem? (i := 159) rfl)), rfl⟩
set_option maxRecDepth 20000 in
theorem wm_1_161 : Cond.fieldLink RX8 164 RX5 "brokeGrade" "I" ∈ pWA := List.mem_filter.mpr ⟨List.mem_append_right _ (List.mem_append_left _ (List.mem_of_getElem? (i := 160) rfl)), rfl⟩
set_option maxRecDepth 20000 in
theorem wm_1_162 : Cond.fieldLink RX5 27 RX5 "reason" "I" ∈ pWA := List.mem_filter.mpr ⟨List.mem_append_right _ (List.mem_append_left _ (List.mem_of_getElem? (i := 161) rfl)), rfl⟩
set_option maxRecDepth 20000 in
theorem wm_1_163 : Cond.fieldLink RX8 167 RX5 "reason" "I" ∈ pWA := List.mem_filter.mpr ⟨List.mem_append_right _ (List.mem_append_left _ (List.mem_of_getElem? (i := 162) rfl)), rfl⟩
set_option maxRecDepth 20000 in
theorem wm_1_164 : Cond.fieldLink RX5 30 RX5 "lostTicks" "I" ∈ pWA := List.mem_filter.mpr ⟨List.mem_append_right _ (List.mem_append_left _ (List.mem_of_getElem? (i := 163) rfl)), rfl⟩
set_option maxRecDepth 20000 in
theorem wm_1_165 : Cond.fieldLink RX8 177 RX5 "lostTicks" "I" ∈ pWA := List.mem_filter.mpr ⟨List.mem_append_right _ (List.mem_append_left _ (List.mem_of_getElem? (i := 164) rfl)), rfl⟩
set_option maxRecDepth 20000 in
theorem wm_1_166 : Cond.fieldLink RX5 38 RX5 "pulp" "LBrokeLoop$Chest;" ∈ pWA := List.mem_filter.mpr ⟨List.mem_append_right _ (List.mem_append_left _ (List.mem_of_getElem? (i := 165) rfl)), rfl⟩
set_option maxRecDepth 20000 in
theorem wm_1_167 : Cond.fieldLink RX5 42 RX5 "broke" "LBrokeLoop$Chest;" ∈ pWA := List.mem_filter.mpr ⟨List.mem_append_right _ (List.mem_append_left _ (List.mem_of_getElem? (i := 166) rfl)), rfl⟩
set_option maxRecDepth 20000 in
theorem wm_1_168 : Cond.fieldLink RX8 228 RX5 "broke" "LBrokeLoop$Chest;" ∈ pWA := List.mem_filter.mpr ⟨List.mem_append_right _ (List.mem_append_left _ (List.mem_of_getElem? (i := 167) rfl)), rfl⟩
set_option maxRecDepth 20000 in
theorem wm_1_169 : Cond.fieldLink RX5 45 RX5 "mixing" "LBrokeLoop$Chest;" ∈ pWA := List.mem_filter.mpr ⟨List.mem_append_right _ (List.mem_append_left _ (List.mem_of_getElem? (i := 168) rfl)), rfl⟩
set_option maxRecDepth 20000 in
theorem wm_1_170 : Cond.fieldLink RX5 48 RX5 "machine" "LBrokeLoop$Chest;" ∈ pWA := List.mem_filter.mpr ⟨List.mem_append_right _ (List.mem_append_left _ (List.mem_of_getElem? (i := 169) rfl)), rfl⟩
set_option maxRecDepth 20000 in
theorem wm_1_171 : Cond.fieldLink RX8 224 RX5 "machine" "LBrokeLoop$Chest;" ∈ pWA := List.mem_filter.mpr ⟨List.mem_append_right _ (List.mem_append_left _ (List.mem_of_getElem? (i := 170) rfl)), rfl⟩
set_option maxRecDepth 20000 in
theorem wm_1_172 : Cond.fieldLink RX5 54 RX5 "account" "LBrokeLoop$Account;" ∈ pWA := List.mem_filter.mpr ⟨List.mem_append_right _ (List.mem_append_left _ (List.mem_of_getElem? (i := 171) rfl)), rfl⟩
set_option maxRecDepth 20000 in
theorem wm_1_173 : Cond.fieldLink RX8 90 RX5 "account" "LBrokeLoop$Account;" ∈ pWA := List.mem_filter.mpr ⟨List.mem_append_right _ (List.mem_append_left _ (List.mem_of_getElem? (i := 172) rfl)), rfl⟩
set_option maxRecDepth 20000 in
theorem wm_1_174 : Cond.fieldLink RX5 61 RX5 "controller" "LBrokeLoop$Controller;" ∈ pWA := List.mem_filter.mpr ⟨List.mem_append_right _ (List.mem_append_left _ (List.mem_of_getElem? (i := 173) rfl)), rfl⟩
set_option maxRecDepth 20000 in
theorem wm_1_175 : Cond.fieldLink RX8 155 RX5 "controller" "LBrokeLoop$Controller;" ∈ pWA := List.mem_filter.mpr ⟨List.mem_append_right _ (List.mem_append_left _ (List.mem_of_getElem? (i := 174) rfl)), rfl⟩
set_option maxRecDepth 20000 in
theorem wm_1_176 : Cond.fieldLink RX5 68 RX5 "schedule" "LBrokeLoop$Schedule;" ∈ pWA := List.mem_filter.mpr ⟨List.mem_append_right _ (List.mem_append_left _ (List.mem_of_getElem? (i := 175) rfl)), rfl⟩
set_option maxRecDepth 20000 in
theorem wm_1_177 : Cond.fieldLink RX8 129 RX5 "schedule" "LBrokeLoop$Schedule;" ∈ pWA := List.mem_filter.mpr ⟨List.mem_append_right _ (List.mem_append_left _ (List.mem_of_getElem? (i := 176) rfl)), rfl⟩
set_option maxRecDepth 20000 in
theorem wm_1_178 : Cond.fieldLink RX5 72 RX5 "settings" "[I" ∈ pWA := List.mem_filter.mpr ⟨List.mem_append_right _ (List.mem_append_left _ (List.mem_of_getElem? (i := 177) rfl)), rfl⟩
set_option maxRecDepth 20000 in
theorem wm_1_179 : Cond.fieldLink RX8 73 RX5 "settings" "[I" ∈ pWA := List.mem_filter.mpr ⟨List.mem_append_right _ (List.mem_append_left _ (List.mem_of_getElem? (i := 178) rfl)), rfl⟩
set_option maxRecDepth 20000 in
theorem wm_1_180 : Cond.lays RX5 RX5 "clock" "I" ∈ pWA := List.mem_filter.mpr ⟨List.mem_append_right _ (List.mem_append_left _ (List.mem_of_getElem? (i := 179) rfl)), rfl⟩
set_option maxRecDepth 20000 in
theorem wm_1_182 : Cond.lays RX5 RX5 "grade" "I" ∈ pWA := List.mem_filter.mpr ⟨List.mem_append_right _ (List.mem_append_left _ (List.mem_of_getElem? (i := 181) rfl)), rfl⟩
set_option maxRecDepth 20000 in
theorem wm_1_184 : Cond.lays RX5 RX5 "broken" "I" ∈ pWA := List.mem_filter.mpr ⟨List.mem_append_right _ (List.mem_append_left _ (List.mem_of_getElem? (i := 183) rfl)), rfl⟩
set_option maxRecDepth 20000 in
theorem wm_1_186 : Cond.lays RX5 RX5 "offGrade" "I" ∈ pWA := List.mem_filter.mpr ⟨List.mem_append_right _ (List.mem_append_left _ (List.mem_of_getElem? (i := 185) rfl)), rfl⟩
set_option maxRecDepth 20000 in
theorem wm_1_188 : Cond.lays RX5 RX5 "brokeGrade" "I" ∈ pWA := List.mem_filter.mpr ⟨List.mem_append_right _ (List.mem_append_left _ (List.mem_of_getElem? (i := 187) rfl)), rfl⟩
set_option maxRecDepth 20000 in
theorem wm_1_190 : Cond.lays RX5 RX5 "reason" "I" ∈ pWA := List.mem_filter.mpr ⟨List.mem_append_right _ (List.mem_append_left _ (List.mem_of_getElem? (i := 189) rfl)), rfl⟩
set_option maxRecDepth 20000 in
theorem wm_1_192 : Cond.lays RX5 RX5 "lostTicks" "I" ∈ pWA := List.mem_filter.mpr ⟨List.mem_append_right _ (List.mem_append_left _ (List.mem_of_getElem? (i := 191) rfl)), rfl⟩
set_option maxRecDepth 20000 in
theorem wm_1_194 : Cond.laysFinal RX5 RX5 "pulp" "LBrokeLoop$Chest;" ∈ pWA := List.mem_filter.mpr ⟨List.mem_append_right _ (List.mem_append_left _ (List.mem_of_getElem? (i := 193) rfl)), rfl⟩
set_option maxRecDepth 20000 in
theorem wm_1_196 : Cond.laysFinal RX5 RX5 "broke" "LBrokeLoop$Chest;" ∈ pWA := List.mem_filter.mpr ⟨List.mem_append_right _ (List.mem_append_left _ (List.mem_of_getElem? (i := 195) rfl)), rfl⟩
set_option maxRecDepth 20000 in
theorem wm_1_198 : Cond.laysFinal RX5 RX5 "mixing" "LBrokeLoop$Chest;" ∈ pWA := List.mem_filter.mpr ⟨List.mem_append_right _ (List.mem_append_left _ (List.mem_of_getElem? (i := 197) rfl)), rfl⟩
set_option maxRecDepth 20000 in
theorem wm_1_200 : Cond.laysFinal RX5 RX5 "machine" "LBrokeLoop$Chest;" ∈ pWA := List.mem_filter.mpr ⟨List.mem_append_right _ (List.mem_append_left _ (List.mem_of_getElem? (i := 199) rfl)), rfl⟩
set_option maxRecDepth 20000 in
theorem wm_1_202 : Cond.laysFinal RX5 RX5 "account" "LBrokeLoop$Account;" ∈ pWA := List.mem_filter.mpr ⟨List.mem_append_right _ (List.mem_append_left _ (List.mem_of_getElem? (i := 201) rfl)), rfl⟩
set_option maxRecDepth 20000 in
theorem wm_1_204 : Cond.laysFinal RX5 RX5 "controller" "LBrokeLoop$Controller;" ∈ pWA := List.mem_filter.mpr ⟨List.mem_append_right _ (List.mem_append_left _ (List.mem_of_getElem? (i := 203) rfl)), rfl⟩
set_option maxRecDepth 20000 in
theorem wm_1_206 : Cond.laysFinal RX5 RX5 "schedule" "LBrokeLoop$Schedule;" ∈ pWA := List.mem_filter.mpr ⟨List.mem_append_right _ (List.mem_append_left _ (List.mem_of_getElem? (i := 205) rfl)), rfl⟩
set_option maxRecDepth 20000 in
theorem wm_1_208 : Cond.laysFinal RX5 RX5 "settings" "[I" ∈ pWA := List.mem_filter.mpr ⟨List.mem_append_right _ (List.mem_append_left _ (List.mem_of_getElem? (i := 207) rfl)), rfl⟩
set_option maxRecDepth 20000 in
theorem wm_1_211 : Cond.classLink RX8 19 RX3 ∈ pWA := List.mem_filter.mpr ⟨List.mem_append_right _ (List.mem_append_left _ (List.mem_of_getElem? (i := 210) rfl)), rfl⟩
set_option maxRecDepth 20000 in
theorem wm_1_212 : Cond.instantiable RX3 3 ∈ pWA := List.mem_filter.mpr ⟨List.mem_append_right _ (List.mem_append_left _ (List.mem_of_getElem? (i := 211) rfl)), rfl⟩
set_option maxRecDepth 20000 in
theorem wm_1_213 : Cond.methodLink RX8 21 yX3_init ∈ pWA := List.mem_filter.mpr ⟨List.mem_append_right _ (List.mem_append_left _ (List.mem_of_getElem? (i := 212) rfl)), rfl⟩
set_option maxRecDepth 20000 in
theorem wm_1_214 : Cond.instanceMethod yX3_init ∈ pWA := List.mem_filter.mpr ⟨List.mem_append_right _ (List.mem_append_left _ (List.mem_of_getElem? (i := 213) rfl)), rfl⟩
set_option maxRecDepth 20000 in
theorem wm_1_215 : Cond.code yX3_init cX3_init 2 (none : Option FieldType) ∈ pWA := List.mem_filter.mpr ⟨List.mem_append_right _ (List.mem_append_left _ (List.mem_of_getElem? (i := 214) rfl)), rfl⟩
set_option maxRecDepth 20000 in
theorem wm_1_216 : Cond.methodLink RX3 3 ⟨"java/lang/Object", "<init>", "()V"⟩ ∈ pWA := List.mem_filter.mpr ⟨List.mem_append_right _ (List.mem_append_left _ (List.mem_of_getElem? (i := 215) rfl)), rfl⟩
set_option maxRecDepth 20000 in
theorem wm_1_217 : Cond.classLink RX3 9 RX5 ∈ pWA := List.mem_filter.mpr ⟨List.mem_append_right _ (List.mem_append_left _ (List.mem_of_getElem? (i := 216) rfl)), rfl⟩
set_option maxRecDepth 20000 in
theorem wm_1_218 : Cond.arrayOver (FieldType.object "BrokeLoop$Loop") ∈ lw_tbl := List.mem_append_right _ (List.mem_append_left _ (List.mem_of_getElem? (i := 217) rfl))
set_option maxRecDepth 20000 in
theorem wm_1_219 : Cond.methodLink RX3 24 yX5_init ∈ pWA := List.mem_filter.mpr ⟨List.mem_append_right _ (List.mem_append_left _ (List.mem_of_getElem? (i := 218) rfl)), rfl⟩
set_option maxRecDepth 20000 in
theorem wm_1_220 : Cond.fieldLink RX3 11 RX3 "states" "[LBrokeLoop$Loop;" ∈ pWA := List.mem_filter.mpr ⟨List.mem_append_right _ (List.mem_append_left _ (List.mem_of_getElem? (i := 219) rfl)), rfl⟩
set_option maxRecDepth 20000 in
theorem wm_1_221 : Cond.fieldLink RX3 17 RX3 "newest" "I" ∈ pWA := List.mem_filter.mpr ⟨List.mem_append_right _ (List.mem_append_left _ (List.mem_of_getElem? (i := 220) rfl)), rfl⟩
set_option maxRecDepth 20000 in
theorem wm_1_222 : Cond.fieldLink RX3 21 RX3 "size" "I" ∈ pWA := List.mem_filter.mpr ⟨List.mem_append_right _ (List.mem_append_left _ (List.mem_of_getElem? (i := 221) rfl)), rfl⟩
set_option maxRecDepth 20000 in
theorem wm_1_223 : Cond.fieldLink RX8 148 RX3 "size" "I" ∈ pWA := List.mem_filter.mpr ⟨List.mem_append_right _ (List.mem_append_left _ (List.mem_of_getElem? (i := 222) rfl)), rfl⟩
set_option maxRecDepth 20000 in
theorem wm_1_224 : Cond.laysFinal RX3 RX3 "states" "[LBrokeLoop$Loop;" ∈ pWA := List.mem_filter.mpr ⟨List.mem_append_right _ (List.mem_append_left _ (List.mem_of_getElem? (i := 223) rfl)), rfl⟩
set_option maxRecDepth 20000 in
theorem wm_1_226 : Cond.lays RX3 RX3 "newest" "I" ∈ pWA := List.mem_filter.mpr ⟨List.mem_append_right _ (List.mem_append_left _ (List.mem_of_getElem? (i := 225) rfl)), rfl⟩
set_option maxRecDepth 20000 in
theorem wm_1_228 : Cond.lays RX3 RX3 "size" "I" ∈ pWA := List.mem_filter.mpr ⟨List.mem_append_right _ (List.mem_append_left _ (List.mem_of_getElem? (i := 227) rfl)), rfl⟩
set_option maxRecDepth 20000 in
theorem wm_1_231 : Cond.classLink RX8 26 RX4 ∈ pWA := List.mem_filter.mpr ⟨List.mem_append_right _ (List.mem_append_left _ (List.mem_of_getElem? (i := 230) rfl)), rfl⟩
set_option maxRecDepth 20000 in
theorem wm_1_232 : Cond.instantiable RX4 2 ∈ pWA := List.mem_filter.mpr ⟨List.mem_append_right _ (List.mem_append_left _ (List.mem_of_getElem? (i := 231) rfl)), rfl⟩
set_option maxRecDepth 20000 in
theorem wm_1_233 : Cond.methodLinkNest RX8 28 yX4_init RX8 ∈ lw_tbl := List.mem_append_right _ (List.mem_append_left _ (List.mem_of_getElem? (i := 232) rfl))
set_option maxRecDepth 20000 in
theorem wm_1_234 : Cond.instanceMethod yX4_init ∈ pWA := List.mem_filter.mpr ⟨List.mem_append_right _ (List.mem_append_left _ (List.mem_of_getElem? (i := 233) rfl)), rfl⟩
set_option maxRecDepth 20000 in
theorem wm_1_235 : Cond.code yX4_init cX4_init 1 (none : Option FieldType) ∈ pWA := List.mem_filter.mpr ⟨List.mem_append_right _ (List.mem_append_left _ (List.mem_of_getElem? (i := 234) rfl)), rfl⟩
set_option maxRecDepth 20000 in
theorem wm_1_236 : Cond.methodLink RX4 1 ⟨"java/lang/Object", "<init>", "()V"⟩ ∈ pWA := List.mem_filter.mpr ⟨List.mem_append_right _ (List.mem_append_left _ (List.mem_of_getElem? (i := 235) rfl)), rfl⟩
set_option maxRecDepth 20000 in
theorem wm_1_237 : Cond.classLink RX4 7 RX5 ∈ pWA := List.mem_filter.mpr ⟨List.mem_append_right _ (List.mem_append_left _ (List.mem_of_getElem? (i := 236) rfl)), rfl⟩
set_option maxRecDepth 20000 in
theorem wm_1_238 : Cond.methodLink RX4 9 yX5_init ∈ pWA := List.mem_filter.mpr ⟨List.mem_append_right _ (List.mem_append_left _ (List.mem_of_getElem? (i := 237) rfl)), rfl⟩
set_option maxRecDepth 20000 in
theorem wm_1_239 : Cond.fieldLink RX4 10 RX4 "state" "LBrokeLoop$Loop;" ∈ pWA := List.mem_filter.mpr ⟨List.mem_append_right _ (List.mem_append_left _ (List.mem_of_getElem? (i := 238) rfl)), rfl⟩
set_option maxRecDepth 20000 in
theorem wm_2_0 : Cond.fieldLink RX8 238 RX4 "state" "LBrokeLoop$Loop;" ∈ pWA := List.mem_filter.mpr ⟨List.mem_append_right _ (List.mem_append_left _ (List.mem_of_getElem? (i := 239) rfl)), rfl⟩
set_option maxRecDepth 20000 in
theorem wm_2_1 : Cond.fieldLink RX4 16 RX4 "kept" "Z" ∈ pWA := List.mem_filter.mpr ⟨List.mem_append_right _ (List.mem_append_right _ (List.mem_append_left _ (List.mem_of_getElem? (i := 0) rfl))), rfl⟩
set_option maxRecDepth 20000 in
theorem wm_2_2 : Cond.fieldLink RX8 241 RX4 "kept" "Z" ∈ pWA := List.mem_filter.mpr ⟨List.mem_append_right _ (List.mem_append_right _ (List.mem_append_left _ (List.mem_of_getElem? (i := 1) rfl))), rfl⟩
set_option maxRecDepth 20000 in
theorem wm_2_3 : Cond.laysFinal RX4 RX4 "state" "LBrokeLoop$Loop;" ∈ pWA := List.mem_filter.mpr ⟨List.mem_append_right _ (List.mem_append_right _ (List.mem_append_left _ (List.mem_of_getElem? (i := 2) rfl))), rfl⟩
set_option maxRecDepth 20000 in
theorem wm_2_5 : Cond.lays RX4 RX4 "kept" "Z" ∈ pWA := List.mem_filter.mpr ⟨List.mem_append_right _ (List.mem_append_right _ (List.mem_append_left _ (List.mem_of_getElem? (i := 4) rfl))), rfl⟩
set_option maxRecDepth 20000 in
theorem wm_2_8 : Cond.classLink RX8 44 RX6 ∈ pWA := List.mem_filter.mpr ⟨List.mem_append_right _ (List.mem_append_right _ (List.mem_append_left _ (List.mem_of_getElem? (i := 7) rfl))), rfl⟩
set_option maxRecDepth 20000 in
theorem wm_2_9 : Cond.instantiable RX6 4 ∈ pWA := List.mem_filter.mpr ⟨List.mem_append_right _ (List.mem_append_right _ (List.mem_append_left _ (List.mem_of_getElem? (i := 8) rfl))), rfl⟩
set_option maxRecDepth 20000 in
theorem wm_2_10 : Cond.methodLinkNest RX8 46 yX6_init RX8 ∈ lw_tbl := List.mem_append_right _ (List.mem_append_right _ (List.mem_append_left _ (List.mem_of_getElem? (i := 9) rfl)))
set_option maxRecDepth 20000 in
theorem wm_2_11 : Cond.instanceMethod yX6_init ∈ pWA := List.mem_filter.mpr ⟨List.mem_append_right _ (List.mem_append_right _ (List.mem_append_left _ (List.mem_of_getElem? (i := 10) rfl))), rfl⟩
set_option maxRecDepth 20000 in
theorem wm_2_12 : Cond.code yX6_init cX6_init 1 (none : Option FieldType) ∈ pWA := List.mem_filter.mpr ⟨List.mem_append_right _ (List.mem_append_right _ (List.mem_append_left _ (List.mem_of_getElem? (i := 11) rfl))), rfl⟩
set_option maxRecDepth 20000 in
theorem wm_2_13 : Cond.methodLink RX6 3 ⟨"java/lang/Object", "<init>", "()V"⟩ ∈ pWA := List.mem_filter.mpr ⟨List.mem_append_right _ (List.mem_append_right _ (List.mem_append_left _ (List.mem_of_getElem? (i := 12) rfl))), rfl⟩
set_option maxRecDepth 20000 in
theorem wm_2_14 : Cond.classLink RX6 9 RX7 ∈ pWA := List.mem_filter.mpr ⟨List.mem_append_right _ (List.mem_append_right _ (List.mem_append_left _ (List.mem_of_getElem? (i := 13) rfl))), rfl⟩
set_option maxRecDepth 20000 in
theorem wm_2_15 : Cond.methodLinkNest RX6 11 yX7_init RX8 ∈ lw_tbl := List.mem_append_right _ (List.mem_append_right _ (List.mem_append_left _ (List.mem_of_getElem? (i := 14) rfl)))
set_option maxRecDepth 20000 in
theorem wm_2_16 : Cond.fieldLink RX6 12 RX6 "found" "LBrokeLoop$Schedule;" ∈ pWA := List.mem_filter.mpr ⟨List.mem_append_right _ (List.mem_append_right _ (List.mem_append_left _ (List.mem_of_getElem? (i := 15) rfl))), rfl⟩
set_option maxRecDepth 20000 in
theorem wm_2_17 : Cond.fieldLink RX8 133 RX6 "found" "LBrokeLoop$Schedule;" ∈ pWA := List.mem_filter.mpr ⟨List.mem_append_right _ (List.mem_append_right _ (List.mem_append_left _ (List.mem_of_getElem? (i := 16) rfl))), rfl⟩
set_option maxRecDepth 20000 in
theorem wm_2_18 : Cond.fieldLink RX6 18 RX6 "kind" "I" ∈ pWA := List.mem_filter.mpr ⟨List.mem_append_right _ (List.mem_append_right _ (List.mem_append_left _ (List.mem_of_getElem? (i := 17) rfl))), rfl⟩
set_option maxRecDepth 20000 in
theorem wm_2_19 : Cond.fieldLink RX8 123 RX6 "kind" "I" ∈ pWA := List.mem_filter.mpr ⟨List.mem_append_right _ (List.mem_append_right _ (List.mem_append_left _ (List.mem_of_getElem? (i := 18) rfl))), rfl⟩
set_option maxRecDepth 20000 in
theorem wm_2_20 : Cond.fieldLink RX6 22 RX6 "place" "I" ∈ pWA := List.mem_filter.mpr ⟨List.mem_append_right _ (List.mem_append_right _ (List.mem_append_left _ (List.mem_of_getElem? (i := 19) rfl))), rfl⟩
set_option maxRecDepth 20000 in
theorem wm_2_21 : Cond.fieldLink RX8 126 RX6 "place" "I" ∈ pWA := List.mem_filter.mpr ⟨List.mem_append_right _ (List.mem_append_right _ (List.mem_append_left _ (List.mem_of_getElem? (i := 20) rfl))), rfl⟩
set_option maxRecDepth 20000 in
theorem wm_2_22 : Cond.fieldLink RX6 25 RX6 "at" "I" ∈ pWA := List.mem_filter.mpr ⟨List.mem_append_right _ (List.mem_append_right _ (List.mem_append_left _ (List.mem_of_getElem? (i := 21) rfl))), rfl⟩
set_option maxRecDepth 20000 in
theorem wm_2_23 : Cond.laysFinal RX6 RX6 "found" "LBrokeLoop$Schedule;" ∈ pWA := List.mem_filter.mpr ⟨List.mem_append_right _ (List.mem_append_right _ (List.mem_append_left _ (List.mem_of_getElem? (i := 22) rfl))), rfl⟩
set_option maxRecDepth 20000 in
theorem wm_2_25 : Cond.lays RX6 RX6 "kind" "I" ∈ pWA := List.mem_filter.mpr ⟨List.mem_append_right _ (List.mem_append_right _ (List.mem_append_left _ (List.mem_of_getElem? (i := 24) rfl))), rfl⟩
set_option maxRecDepth 20000 in
theorem wm_2_27 : Cond.lays RX6 RX6 "place" "I" ∈ pWA := List.mem_filter.mpr ⟨List.mem_append_right _ (List.mem_append_right _ (List.mem_append_left _ (List.mem_of_getElem? (i := 26) rfl))), rfl⟩
set_option maxRecDepth 20000 in
theorem wm_2_29 : Cond.lays RX6 RX6 "at" "I" ∈ pWA := List.mem_filter.mpr ⟨List.mem_append_right _ (List.mem_append_right _ (List.mem_append_left _ (List.mem_of_getElem? (i := 28) rfl))), rfl⟩
set_option maxRecDepth 20000 in
theorem wm_2_32 : Cond.fieldLink RX8 10 RX8 "loop" "LBrokeLoop$Loop;" ∈ pWA := List.mem_filter.mpr ⟨List.mem_append_right _ (List.mem_append_right _ (List.mem_append_left _ (List.mem_of_getElem? (i := 31) rfl))), rfl⟩
set_option maxRecDepth 20000 in
theorem wm_2_33 : Cond.fieldLink RX8 16 RX8 "trial" "LBrokeLoop$Loop;" ∈ pWA := List.mem_filter.mpr ⟨List.mem_append_right _ (List.mem_append_right _ (List.mem_append_left _ (List.mem_of_getElem? (i := 32) rfl))), rfl⟩
set_option maxRecDepth 20000 in
theorem wm_2_34 : Cond.fieldLink RX8 22 RX8 "history" "LBrokeLoop$History;" ∈ pWA := List.mem_filter.mpr ⟨List.mem_append_right _ (List.mem_append_right _ (List.mem_append_left _ (List.mem_of_getElem? (i := 33) rfl))), rfl⟩
set_option maxRecDepth 20000 in
theorem wm_2_35 : Cond.fieldLink RX8 29 RX8 "firstImage" "LBrokeLoop$Image;" ∈ pWA := List.mem_filter.mpr ⟨List.mem_append_right _ (List.mem_append_right _ (List.mem_append_left _ (List.mem_of_getElem? (i := 34) rfl))), rfl⟩
set_option maxRecDepth 20000 in
theorem wm_2_36 : Cond.fieldLink RX8 33 RX8 "secondImage" "LBrokeLoop$Image;" ∈ pWA := List.mem_filter.mpr ⟨List.mem_append_right _ (List.mem_append_right _ (List.mem_append_left _ (List.mem_of_getElem? (i := 35) rfl))), rfl⟩
set_option maxRecDepth 20000 in
theorem wm_2_37 : Cond.fieldLink RX8 36 RX8 "text" "[I" ∈ pWA := List.mem_filter.mpr ⟨List.mem_append_right _ (List.mem_append_right _ (List.mem_append_left _ (List.mem_of_getElem? (i := 36) rfl))), rfl⟩
set_option maxRecDepth 20000 in
theorem wm_2_38 : Cond.fieldLink RX8 40 RX8 "textLength" "I" ∈ pWA := List.mem_filter.mpr ⟨List.mem_append_right _ (List.mem_append_right _ (List.mem_append_left _ (List.mem_of_getElem? (i := 37) rfl))), rfl⟩
set_option maxRecDepth 20000 in
theorem wm_2_39 : Cond.fieldLink RX8 47 RX8 "reader" "LBrokeLoop$Reader;" ∈ pWA := List.mem_filter.mpr ⟨List.mem_append_right _ (List.mem_append_right _ (List.mem_append_left _ (List.mem_of_getElem? (i := 38) rfl))), rfl⟩
set_option maxRecDepth 20000 in
theorem wm_2_40 : Cond.fieldLink RX8 51 RX8 "faultKind" "I" ∈ pWA := List.mem_filter.mpr ⟨List.mem_append_right _ (List.mem_append_right _ (List.mem_append_left _ (List.mem_of_getElem? (i := 39) rfl))), rfl⟩
set_option maxRecDepth 20000 in
theorem wm_2_41 : Cond.fieldLink RX8 54 RX8 "faultPlace" "I" ∈ pWA := List.mem_filter.mpr ⟨List.mem_append_right _ (List.mem_append_right _ (List.mem_append_left _ (List.mem_of_getElem? (i := 40) rfl))), rfl⟩
set_option maxRecDepth 20000 in
theorem wm_2_42 : Cond.laysFinal RX8 RX8 "loop" "LBrokeLoop$Loop;" ∈ pWA := List.mem_filter.mpr ⟨List.mem_append_right _ (List.mem_append_right _ (List.mem_append_left _ (List.mem_of_getElem? (i := 41) rfl))), rfl⟩
set_option maxRecDepth 20000 in
theorem wm_2_44 : Cond.laysFinal RX8 RX8 "trial" "LBrokeLoop$Loop;" ∈ pWA := List.mem_filter.mpr ⟨List.mem_append_right _ (List.mem_append_right _ (List.mem_append_left _ (List.mem_of_getElem? (i := 43) rfl))), rfl⟩
set_option maxRecDepth 20000 in
theorem wm_2_46 : Cond.laysFinal RX8 RX8 "history" "LBrokeLoop$History;" ∈ pWA := List.mem_filter.mpr ⟨List.mem_append_right _ (List.mem_append_right _ (List.mem_append_left _ (List.mem_of_getElem? (i := 45) rfl))), rfl⟩
set_option maxRecDepth 20000 in
theorem wm_2_48 : Cond.laysFinal RX8 RX8 "firstImage" "LBrokeLoop$Image;" ∈ pWA := List.mem_filter.mpr ⟨List.mem_append_right _ (List.mem_append_right _ (List.mem_append_left _ (List.mem_of_getElem? (i := 47) rfl))), rfl⟩
set_option maxRecDepth 20000 in
theorem wm_2_50 : Cond.laysFinal RX8 RX8 "secondImage" "LBrokeLoop$Image;" ∈ pWA := List.mem_filter.mpr ⟨List.mem_append_right _ (List.mem_append_right _ (List.mem_append_left _ (List.mem_of_getElem? (i := 49) rfl))), rfl⟩
set_option maxRecDepth 20000 in
theorem wm_2_52 : Cond.laysFinal RX8 RX8 "text" "[I" ∈ pWA := List.mem_filter.mpr ⟨List.mem_append_right _ (List.mem_append_right _ (List.mem_append_left _ (List.mem_of_getElem? (i := 51) rfl))), rfl⟩
set_option maxRecDepth 20000 in
theorem wm_2_54 : Cond.lays RX8 RX8 "textLength" "I" ∈ pWA := List.mem_filter.mpr ⟨List.mem_append_right _ (List.mem_append_right _ (List.mem_append_left _ (List.mem_of_getElem? (i := 53) rfl))), rfl⟩
set_option maxRecDepth 20000 in
theorem wm_2_56 : Cond.laysFinal RX8 RX8 "reader" "LBrokeLoop$Reader;" ∈ pWA := List.mem_filter.mpr ⟨List.mem_append_right _ (List.mem_append_right _ (List.mem_append_left _ (List.mem_of_getElem? (i := 55) rfl))), rfl⟩
set_option maxRecDepth 20000 in
theorem wm_2_58 : Cond.lays RX8 RX8 "faultKind" "I" ∈ pWA := List.mem_filter.mpr ⟨List.mem_append_right _ (List.mem_append_right _ (List.mem_append_left _ (List.mem_of_getElem? (i := 57) rfl))), rfl⟩
set_option maxRecDepth 20000 in
theorem wm_2_60 : Cond.lays RX8 RX8 "faultPlace" "I" ∈ pWA := List.mem_filter.mpr ⟨List.mem_append_right _ (List.mem_append_right _ (List.mem_append_left _ (List.mem_of_getElem? (i := 59) rfl))), rfl⟩
set_option maxRecDepth 20000 in
theorem wn_2_62 : Cond.methodLink RL 102 yL_cell ∈ pWA := List.mem_filter.mpr ⟨List.mem_append_right _ (List.mem_append_right _ (List.mem_append_left _ (List.mem_of_getElem? (i := 62) rfl))), rfl⟩
set_option maxRecDepth 20000 in
theorem wn_2_63 : Cond.static yL_cell ∈ pWA := List.mem_filter.mpr ⟨List.mem_append_right _ (List.mem_append_right _ (List.mem_append_left _ (List.mem_of_getElem? (i := 63) rfl))), rfl⟩
set_option maxRecDepth 20000 in
theorem wn_2_64 : Cond.code yL_cell cL_cell 2 (some FieldType.int) ∈ pWA := List.mem_filter.mpr ⟨List.mem_append_right _ (List.mem_append_right _ (List.mem_append_left _ (List.mem_of_getElem? (i := 64) rfl))), rfl⟩
set_option maxRecDepth 20000 in
theorem wn_2_65 : Cond.constant RL 7 747796405 ∈ pWA := List.mem_filter.mpr ⟨List.mem_append_right _ (List.mem_append_right _ (List.mem_append_left _ (List.mem_of_getElem? (i := 65) rfl))), rfl⟩
set_option maxRecDepth 20000 in
theorem wn_2_66 : Cond.methodLink RL 15 yL_low ∈ pWA := List.mem_filter.mpr ⟨List.mem_append_right _ (List.mem_append_right _ (List.mem_append_left _ (List.mem_of_getElem? (i := 66) rfl))), rfl⟩
set_option maxRecDepth 20000 in
theorem wn_2_67 : Cond.static yL_low ∈ pWA := List.mem_filter.mpr ⟨List.mem_append_right _ (List.mem_append_right _ (List.mem_append_left _ (List.mem_of_getElem? (i := 67) rfl))), rfl⟩
set_option maxRecDepth 20000 in
theorem wn_2_68 : Cond.code yL_low cL_low 2 (some FieldType.int) ∈ pWA := List.mem_filter.mpr ⟨List.mem_append_right _ (List.mem_append_right _ (List.mem_append_left _ (List.mem_of_getElem? (i := 68) rfl))), rfl⟩
set_option maxRecDepth 20000 in
theorem wn_2_69 : Cond.constant RL 8 2147483647 ∈ pWA := List.mem_filter.mpr ⟨List.mem_append_right _ (List.mem_append_right _ (List.mem_append_left _ (List.mem_of_getElem? (i := 69) rfl))), rfl⟩
set_option maxRecDepth 20000 in
theorem wn_2_70 : Cond.methodLink RL 106 yL_change ∈ pWA := List.mem_filter.mpr ⟨List.mem_append_right _ (List.mem_append_right _ (List.mem_append_left _ (List.mem_of_getElem? (i := 70) rfl))), rfl⟩
set_option maxRecDepth 20000 in
theorem wn_2_71 : Cond.static yL_change ∈ pWA := List.mem_filter.mpr ⟨List.mem_append_right _ (List.mem_append_right _ (List.mem_append_left _ (List.mem_of_getElem? (i := 71) rfl))), rfl⟩
set_option maxRecDepth 20000 in
theorem wn_2_72 : Cond.code yL_change cL_change 3 (some FieldType.int) ∈ pWA := List.mem_filter.mpr ⟨List.mem_append_right _ (List.mem_append_right _ (List.mem_append_left _ (List.mem_of_getElem? (i := 72) rfl))), rfl⟩
set_option maxRecDepth 20000 in
theorem wn_2_73 : Cond.methodLink RL 32 yX8_begin ∈ pWA := List.mem_filter.mpr ⟨List.mem_append_right _ (List.mem_append_right _ (List.mem_append_left _ (List.mem_of_getElem? (i := 73) rfl))), rfl⟩
set_option maxRecDepth 20000 in
theorem wm_2_64 : Cond.instanceMethod yX8_begin ∈ pWA := List.mem_filter.mpr ⟨List.mem_append_right _ (List.mem_append_right _ (List.mem_append_left _ (List.mem_of_getElem? (i := 74) rfl))), rfl⟩
set_option maxRecDepth 20000 in
theorem wm_2_65 : Cond.selects RX8 yX8_begin yX8_begin ∈ pWA := List.mem_filter.mpr ⟨List.mem_append_right _ (List.mem_append_right _ (List.mem_append_left _ (List.mem_of_getElem? (i := 75) rfl))), rfl⟩
set_option maxRecDepth 20000 in
theorem wm_2_66 : Cond.code yX8_begin cX8_begin 2 (some FieldType.int) ∈ pWA := List.mem_filter.mpr ⟨List.mem_append_right _ (List.mem_append_right _ (List.mem_append_left _ (List.mem_of_getElem? (i := 76) rfl))), rfl⟩
set_option maxRecDepth 20000 in
theorem wm_2_67 : Cond.methodLink RX8 57 yX3_remember ∈ pWA := List.mem_filter.mpr ⟨List.mem_append_right _ (List.mem_append_right _ (List.mem_append_left _ (List.mem_of_getElem? (i := 77) rfl))), rfl⟩
set_option maxRecDepth 20000 in
theorem wm_2_68 : Cond.instanceMethod yX3_remember ∈ pWA := List.mem_filter.mpr ⟨List.mem_append_right _ (List.mem_append_right _ (List.mem_append_left _ (List.mem_of_getElem? (i := 78) rfl))), rfl⟩
set_option maxRecDepth 20000 in
theorem wm_2_69 : Cond.selects RX3 yX3_remember yX3_remember ∈ pWA := List.mem_filter.mpr ⟨List.mem_append_right _ (List.mem_append_right _ (List.mem_append_left _ (List.mem_of_getElem? (i := 79) rfl))), rfl⟩
set_option maxRecDepth 20000 in
theorem wm_2_70 : Cond.code yX3_remember cX3_remember 3 (none : Option FieldType) ∈ pWA := List.mem_filter.mpr ⟨List.mem_append_right _ (List.mem_append_right _ (List.mem_append_left _ (List.mem_of_getElem? (i := 80) rfl))), rfl⟩
set_option maxRecDepth 20000 in
theorem wm_2_71 : Cond.methodLink RX3 25 yX5_copyFrom ∈ pWA := List.mem_filter.mpr ⟨List.mem_append_right _ (List.mem_append_right _ (List.mem_append_left _ (List.mem_of_getElem? (i := 81) rfl))), rfl⟩
set_option maxRecDepth 20000 in
theorem wm_2_72 : Cond.instanceMethod yX5_copyFrom ∈ pWA := List.mem_filter.mpr ⟨List.mem_append_right _ (List.mem_append_right _ (List.mem_append_left _ (List.mem_of_getElem? (i := 82) rfl))), rfl⟩
set_option maxRecDepth 20000 in
theorem wm_2_73 : Cond.selects RX5 yX5_copyFrom yX5_copyFrom ∈ pWA := List.mem_filter.mpr ⟨List.mem_append_right _ (List.mem_append_right _ (List.mem_append_left _ (List.mem_of_getElem? (i := 83) rfl))), rfl⟩
set_option maxRecDepth 20000 in
theorem wm_2_74 : Cond.code yX5_copyFrom cX5_copyFrom 2 (none : Option FieldType) ∈ pWA := List.mem_filter.mpr ⟨List.mem_append_right _ (List.mem_append_right _ (List.mem_append_left _ (List.mem_of_getElem? (i := 84) rfl))), rfl⟩
set_option maxRecDepth 20000 in
theorem wm_2_75 : Cond.methodLink RX5 94 yX1_copyFrom ∈ pWA := List.mem_filter.mpr ⟨List.mem_append_right _ (List.mem_append_right _ (List.mem_append_left _ (List.mem_of_getElem? (i := 85) rfl))), rfl⟩
set_option maxRecDepth 20000 in
theorem wm_2_76 : Cond.instanceMethod yX1_copyFrom ∈ pWA := List.mem_filter.mpr ⟨List.mem_append_right _ (List.mem_append_right _ (List.mem_append_left _ (List.mem_of_getElem? (i := 86) rfl))), rfl⟩
set_option maxRecDepth 20000 in
theorem wm_2_77 : Cond.selects RX1 yX1_copyFrom yX1_copyFrom ∈ pWA := List.mem_filter.mpr ⟨List.mem_append_right _ (List.mem_append_right _ (List.mem_append_left _ (List.mem_of_getElem? (i := 87) rfl))), rfl⟩
set_option maxRecDepth 20000 in
theorem wm_2_78 : Cond.code yX1_copyFrom cX1_copyFrom 2 (none : Option FieldType) ∈ pWA := List.mem_filter.mpr ⟨List.mem_append_right _ (List.mem_append_right _ (List.mem_append_left _ (List.mem_of_getElem? (i := 88) rfl))), rfl⟩
set_option maxRecDepth 20000 in
theorem wm_2_79 : Cond.methodLink RX5 98 yX0_copyFrom ∈ pWA := List.mem_filter.mpr ⟨List.mem_append_right _ (List.mem_append_right _ (List.mem_append_left _ (List.mem_of_getElem? (i := 89) rfl))), rfl⟩
set_option maxRecDepth 20000 in
theorem wm_2_80 : Cond.instanceMethod yX0_copyFrom ∈ pWA := List.mem_filter.mpr ⟨List.mem_append_right _ (List.mem_append_right _ (List.mem_append_left _ (List.mem_of_getElem? (i := 90) rfl))), rfl⟩
set_option maxRecDepth 20000 in
theorem wm_2_81 : Cond.selects RX0 yX0_copyFrom yX0_copyFrom ∈ pWA := List.mem_filter.mpr ⟨List.mem_append_right _ (List.mem_append_right _ (List.mem_append_left _ (List.mem_of_getElem? (i := 91) rfl))), rfl⟩
set_option maxRecDepth 20000 in
theorem wm_2_82 : Cond.code yX0_copyFrom cX0_copyFrom 2 (none : Option FieldType) ∈ pWA := List.mem_filter.mpr ⟨List.mem_append_right _ (List.mem_append_right _ (List.mem_append_left _ (List.mem_of_getElem? (i := 92) rfl))), rfl⟩
set_option maxRecDepth 20000 in
theorem wm_2_83 : Cond.methodLinkNest RX0 31 yX8_copyNumbers RX8 ∈ lw_tbl := List.mem_append_right _ (List.mem_append_right _ (List.mem_append_left _ (List.mem_of_getElem? (i := 93) rfl)))
set_option maxRecDepth 20000 in
theorem wm_2_84 : Cond.methodLink RX5 101 yX2_copyFrom ∈ pWA := List.mem_filter.mpr ⟨List.mem_append_right _ (List.mem_append_right _ (List.mem_append_left _ (List.mem_of_getElem? (i := 94) rfl))), rfl⟩
set_option maxRecDepth 20000 in
theorem wm_2_85 : Cond.instanceMethod yX2_copyFrom ∈ pWA := List.mem_filter.mpr ⟨List.mem_append_right _ (List.mem_append_right _ (List.mem_append_left _ (List.mem_of_getElem? (i := 95) rfl))), rfl⟩
set_option maxRecDepth 20000 in
theorem wm_2_86 : Cond.selects RX2 yX2_copyFrom yX2_copyFrom ∈ pWA := List.mem_filter.mpr ⟨List.mem_append_right _ (List.mem_append_right _ (List.mem_append_left _ (List.mem_of_getElem? (i := 96) rfl))), rfl⟩
set_option maxRecDepth 20000 in
theorem wm_2_87 : Cond.code yX2_copyFrom cX2_copyFrom 2 (none : Option FieldType) ∈ pWA := List.mem_filter.mpr ⟨List.mem_append_right _ (List.mem_append_right _ (List.mem_append_left _ (List.mem_of_getElem? (i := 97) rfl))), rfl⟩
set_option maxRecDepth 20000 in
theorem wm_2_88 : Cond.methodLinkNest RX2 22 yX8_copyNumbers RX8 ∈ lw_tbl := List.mem_append_right _ (List.mem_append_right _ (List.mem_append_left _ (List.mem_of_getElem? (i := 98) rfl)))
set_option maxRecDepth 20000 in
theorem wm_2_89 : Cond.methodLink RX5 104 yX7_copyFrom ∈ pWA := List.mem_filter.mpr ⟨List.mem_append_right _ (List.mem_append_right _ (List.mem_append_left _ (List.mem_of_getElem? (i := 99) rfl))), rfl⟩
set_option maxRecDepth 20000 in
theorem wm_2_90 : Cond.instanceMethod yX7_copyFrom ∈ pWA := List.mem_filter.mpr ⟨List.mem_append_right _ (List.mem_append_right _ (List.mem_append_left _ (List.mem_of_getElem? (i := 100) rfl))), rfl⟩
set_option maxRecDepth 20000 in
theorem wm_2_91 : Cond.selects RX7 yX7_copyFrom yX7_copyFrom ∈ pWA := List.mem_filter.mpr ⟨List.mem_append_right _ (List.mem_append_right _ (List.mem_append_left _ (List.mem_of_getElem? (i := 101) rfl))), rfl⟩
set_option maxRecDepth 20000 in
theorem wm_2_92 : Cond.code yX7_copyFrom cX7_copyFrom 2 (none : Option FieldType) ∈ pWA := List.mem_filter.mpr ⟨List.mem_append_right _ (List.mem_append_right _ (List.mem_append_left _ (List.mem_of_getElem? (i := 102) rfl))), rfl⟩
set_option maxRecDepth 20000 in
theorem wm_2_93 : Cond.methodLinkNest RX7 25 yX8_copyNumbers RX8 ∈ lw_tbl := List.mem_append_right _ (List.mem_append_right _ (List.mem_append_left _ (List.mem_of_getElem? (i := 103) rfl)))
set_option maxRecDepth 20000 in
theorem wm_2_94 : Cond.methodLink RX3 29 yJ9_min_7cf53 ∈ pWA := List.mem_filter.mpr ⟨List.mem_append_right _ (List.mem_append_right _ (List.mem_append_left _ (List.mem_of_getElem? (i := 104) rfl))), rfl⟩
set_option maxRecDepth 20000 in
theorem wm_2_95 : Cond.static yJ9_min_7cf53 ∈ pWA := List.mem_filter.mpr ⟨List.mem_append_right _ (List.mem_append_right _ (List.mem_append_left _ (List.mem_of_getElem? (i := 105) rfl))), rfl⟩
set_option maxRecDepth 20000 in
theorem wm_2_96 : Cond.code yJ9_min_7cf53 cJ9_min_7cf53 2 (some FieldType.int) ∈ pWA := List.mem_filter.mpr ⟨List.mem_append_right _ (List.mem_append_right _ (List.mem_append_left _ (List.mem_of_getElem? (i := 106) rfl))), rfl⟩
set_option maxRecDepth 20000 in
theorem wm_2_97 : Cond.methodLink RX8 64 yX5_startAnew ∈ pWA := List.mem_filter.mpr ⟨List.mem_append_right _ (List.mem_append_right _ (List.mem_append_left _ (List.mem_of_getElem? (i := 107) rfl))), rfl⟩
set_option maxRecDepth 20000 in
theorem wn_2_108 : Cond.methodLink RL 35 yX8_set ∈ pWA := List.mem_filter.mpr ⟨List.mem_append_right _ (List.mem_append_right _ (List.mem_append_left _ (List.mem_of_getElem? (i := 108) rfl))), rfl⟩
set_option maxRecDepth 20000 in
theorem wm_2_99 : Cond.instanceMethod yX8_set ∈ pWA := List.mem_filter.mpr ⟨List.mem_append_right _ (List.mem_append_right _ (List.mem_append_left _ (List.mem_of_getElem? (i := 109) rfl))), rfl⟩
set_option maxRecDepth 20000 in
theorem wm_2_100 : Cond.selects RX8 yX8_set yX8_set ∈ pWA := List.mem_filter.mpr ⟨List.mem_append_right _ (List.mem_append_right _ (List.mem_append_left _ (List.mem_of_getElem? (i := 110) rfl))), rfl⟩
set_option maxRecDepth 20000 in
theorem wm_2_101 : Cond.code yX8_set cX8_set 4 (some FieldType.int) ∈ pWA := List.mem_filter.mpr ⟨List.mem_append_right _ (List.mem_append_right _ (List.mem_append_left _ (List.mem_of_getElem? (i := 111) rfl))), rfl⟩
set_option maxRecDepth 20000 in
theorem wm_2_102 : Cond.fieldLink RX8 67 RX8 "LEAST_VALUE" "[I" ∈ pWA := List.mem_filter.mpr ⟨List.mem_append_right _ (List.mem_append_right _ (List.mem_append_left _ (List.mem_of_getElem? (i := 112) rfl))), rfl⟩
set_option maxRecDepth 20000 in
theorem wm_2_103 : Cond.laysStatic RX8 "LEAST_VALUE" "[I" ∈ lw_tbl := List.mem_append_right _ (List.mem_append_right _ (List.mem_append_left _ (List.mem_of_getElem? (i := 113) rfl)))
set_option maxRecDepth 20000 in
theorem wm_2_104 : Cond.fieldLink RX8 70 RX8 "MOST_VALUE" "[I" ∈ pWA := List.mem_filter.mpr ⟨List.mem_append_right _ (List.mem_append_right _ (List.mem_append_left _ (List.mem_of_getElem? (i := 114) rfl))), rfl⟩
set_option maxRecDepth 20000 in
theorem wm_2_105 : Cond.laysStatic RX8 "MOST_VALUE" "[I" ∈ lw_tbl := List.mem_append_right _ (List.mem_append_right _ (List.mem_append_left _ (List.mem_of_getElem? (i := 115) rfl)))
set_option maxRecDepth 20000 in
theorem wn_2_116 : Cond.methodLink RL 38 yX8_tear ∈ pWA := List.mem_filter.mpr ⟨List.mem_append_right _ (List.mem_append_right _ (List.mem_append_left _ (List.mem_of_getElem? (i := 116) rfl))), rfl⟩
set_option maxRecDepth 20000 in
theorem wm_2_107 : Cond.instanceMethod yX8_tear ∈ pWA := List.mem_filter.mpr ⟨List.mem_append_right _ (List.mem_append_right _ (List.mem_append_left _ (List.mem_of_getElem? (i := 117) rfl))), rfl⟩
set_option maxRecDepth 20000 in
theorem wm_2_108 : Cond.selects RX8 yX8_tear yX8_tear ∈ pWA := List.mem_filter.mpr ⟨List.mem_append_right _ (List.mem_append_right _ (List.mem_append_left _ (List.mem_of_getElem? (i := 118) rfl))), rfl⟩
set_option maxRecDepth 20000 in
theorem wm_2_109 : Cond.code yX8_tear cX8_tear 2 (some FieldType.int) ∈ pWA := List.mem_filter.mpr ⟨List.mem_append_right _ (List.mem_append_right _ (List.mem_append_left _ (List.mem_of_getElem? (i := 119) rfl))), rfl⟩
set_option maxRecDepth 20000 in
theorem wm_2_110 : Cond.methodLink RX8 76 yX5_breakSheet ∈ pWA := List.mem_filter.mpr ⟨List.mem_append_right _ (List.mem_append_right _ (List.mem_append_left _ (List.mem_of_getElem? (i := 120) rfl))), rfl⟩
set_option maxRecDepth 20000 in
theorem wm_2_111 : Cond.instanceMethod yX5_breakSheet ∈ pWA := List.mem_filter.mpr ⟨List.mem_append_right _ (List.mem_append_right _ (List.mem_append_left _ (List.mem_of_getElem? (i := 121) rfl))), rfl⟩
set_option maxRecDepth 20000 in
theorem wm_2_112 : Cond.selects RX5 yX5_breakSheet yX5_breakSheet ∈ pWA := List.mem_filter.mpr ⟨List.mem_append_right _ (List.mem_append_right _ (List.mem_append_left _ (List.mem_of_getElem? (i := 122) rfl))), rfl⟩
set_option maxRecDepth 20000 in
theorem wm_2_113 : Cond.code yX5_breakSheet cX5_breakSheet 2 (none : Option FieldType) ∈ pWA := List.mem_filter.mpr ⟨List.mem_append_right _ (List.mem_append_right _ (List.mem_append_left _ (List.mem_of_getElem? (i := 123) rfl))), rfl⟩
set_option maxRecDepth 20000 in
theorem wm_2_114 : Cond.methodLink RX5 110 yJ9_max_7cf53 ∈ pWA := List.mem_filter.mpr ⟨List.mem_append_right _ (List.mem_append_right _ (List.mem_append_left _ (List.mem_of_getElem? (i := 124) rfl))), rfl⟩
set_option maxRecDepth 20000 in
theorem wm_2_115 : Cond.static yJ9_max_7cf53 ∈ pWA := List.mem_filter.mpr ⟨List.mem_append_right _ (List.mem_append_right _ (List.mem_append_left _ (List.mem_of_getElem? (i := 125) rfl))), rfl⟩
set_option maxRecDepth 20000 in
theorem wm_2_116 : Cond.code yJ9_max_7cf53 cJ9_max_7cf53 2 (some FieldType.int) ∈ pWA := List.mem_filter.mpr ⟨List.mem_append_right _ (List.mem_append_right _ (List.mem_append_left _ (List.mem_of_getElem? (i := 126) rfl))), rfl⟩
set_option maxRecDepth 20000 in
theorem wn_2_127 : Cond.methodLink RL 41 yX8_change ∈ pWA := List.mem_filter.mpr ⟨List.mem_append_right _ (List.mem_append_right _ (List.mem_append_left _ (List.mem_of_getElem? (i := 127) rfl))), rfl⟩
set_option maxRecDepth 20000 in
theorem wm_2_118 : Cond.instanceMethod yX8_change ∈ pWA := List.mem_filter.mpr ⟨List.mem_append_right _ (List.mem_append_right _ (List.mem_append_left _ (List.mem_of_getElem? (i := 128) rfl))), rfl⟩
set_option maxRecDepth 20000 in
theorem wm_2_119 : Cond.selects RX8 yX8_change yX8_change ∈ pWA := List.mem_filter.mpr ⟨List.mem_append_right _ (List.mem_append_right _ (List.mem_append_left _ (List.mem_of_getElem? (i := 129) rfl))), rfl⟩
set_option maxRecDepth 20000 in
theorem wm_2_120 : Cond.code yX8_change cX8_change 3 (some FieldType.int) ∈ pWA := List.mem_filter.mpr ⟨List.mem_append_right _ (List.mem_append_right _ (List.mem_append_left _ (List.mem_of_getElem? (i := 130) rfl))), rfl⟩
set_option maxRecDepth 20000 in
theorem wm_2_121 : Cond.methodLink RX8 86 yX5_turnTo ∈ pWA := List.mem_filter.mpr ⟨List.mem_append_right _ (List.mem_append_right _ (List.mem_append_left _ (List.mem_of_getElem? (i := 131) rfl))), rfl⟩
set_option maxRecDepth 20000 in
theorem wm_2_122 : Cond.instanceMethod yX5_turnTo ∈ pWA := List.mem_filter.mpr ⟨List.mem_append_right _ (List.mem_append_right _ (List.mem_append_left _ (List.mem_of_getElem? (i := 132) rfl))), rfl⟩
set_option maxRecDepth 20000 in
theorem wm_2_123 : Cond.selects RX5 yX5_turnTo yX5_turnTo ∈ pWA := List.mem_filter.mpr ⟨List.mem_append_right _ (List.mem_append_right _ (List.mem_append_left _ (List.mem_of_getElem? (i := 133) rfl))), rfl⟩
set_option maxRecDepth 20000 in
theorem wm_2_124 : Cond.code yX5_turnTo cX5_turnTo 2 (none : Option FieldType) ∈ pWA := List.mem_filter.mpr ⟨List.mem_append_right _ (List.mem_append_right _ (List.mem_append_left _ (List.mem_of_getElem? (i := 134) rfl))), rfl⟩
set_option maxRecDepth 20000 in
theorem wn_2_135 : Cond.constant RL 44 50001 ∈ pWA := List.mem_filter.mpr ⟨List.mem_append_right _ (List.mem_append_right _ (List.mem_append_left _ (List.mem_of_getElem? (i := 135) rfl))), rfl⟩
set_option maxRecDepth 20000 in
theorem wn_2_136 : Cond.methodLink RL 45 yX8_fill ∈ pWA := List.mem_filter.mpr ⟨List.mem_append_right _ (List.mem_append_right _ (List.mem_append_left _ (List.mem_of_getElem? (i := 136) rfl))), rfl⟩
set_option maxRecDepth 20000 in
theorem wm_2_126 : Cond.instanceMethod yX8_fill ∈ pWA := List.mem_filter.mpr ⟨List.mem_append_right _ (List.mem_append_right _ (List.mem_append_left _ (List.mem_of_getElem? (i := 137) rfl))), rfl⟩
set_option maxRecDepth 20000 in
theorem wm_2_127 : Cond.selects RX8 yX8_fill yX8_fill ∈ pWA := List.mem_filter.mpr ⟨List.mem_append_right _ (List.mem_append_right _ (List.mem_append_left _ (List.mem_of_getElem? (i := 138) rfl))), rfl⟩
set_option maxRecDepth 20000 in
theorem wm_2_128 : Cond.code yX8_fill cX8_fill 4 (some FieldType.int) ∈ pWA := List.mem_filter.mpr ⟨List.mem_append_right _ (List.mem_append_right _ (List.mem_append_left _ (List.mem_of_getElem? (i := 139) rfl))), rfl⟩
set_option maxRecDepth 20000 in
theorem wm_2_129 : Cond.constant RX8 89 50000 ∈ pWA := List.mem_filter.mpr ⟨List.mem_append_right _ (List.mem_append_right _ (List.mem_append_left _ (List.mem_of_getElem? (i := 140) rfl))), rfl⟩
set_option maxRecDepth 20000 in
theorem wm_2_130 : Cond.methodLink RX8 99 yX5_chestAt ∈ pWA := List.mem_filter.mpr ⟨List.mem_append_right _ (List.mem_append_right _ (List.mem_append_left _ (List.mem_of_getElem? (i := 141) rfl))), rfl⟩
set_option maxRecDepth 20000 in
theorem wm_2_131 : Cond.instanceMethod yX5_chestAt ∈ pWA := List.mem_filter.mpr ⟨List.mem_append_right _ (List.mem_append_right _ (List.mem_append_left _ (List.mem_of_getElem? (i := 142) rfl))), rfl⟩
set_option maxRecDepth 20000 in
theorem wm_2_132 : Cond.selects RX5 yX5_chestAt yX5_chestAt ∈ pWA := List.mem_filter.mpr ⟨List.mem_append_right _ (List.mem_append_right _ (List.mem_append_left _ (List.mem_of_getElem? (i := 143) rfl))), rfl⟩
set_option maxRecDepth 20000 in
theorem wm_2_133 : Cond.code yX5_chestAt cX5_chestAt 2 (some (FieldType.object "BrokeLoop$Chest")) ∈ pWA := List.mem_filter.mpr ⟨List.mem_append_right _ (List.mem_append_right _ (List.mem_append_left _ (List.mem_of_getElem? (i := 144) rfl))), rfl⟩
set_option maxRecDepth 20000 in
theorem wm_2_134 : Cond.methodLink RX8 103 yX5_pour ∈ pWA := List.mem_filter.mpr ⟨List.mem_append_right _ (List.mem_append_right _ (List.mem_append_left _ (List.mem_of_getElem? (i := 145) rfl))), rfl⟩
set_option maxRecDepth 20000 in
theorem wm_2_135 : Cond.instanceMethod yX5_pour ∈ pWA := List.mem_filter.mpr ⟨List.mem_append_right _ (List.mem_append_right _ (List.mem_append_left _ (List.mem_of_getElem? (i := 146) rfl))), rfl⟩
set_option maxRecDepth 20000 in
theorem wm_2_136 : Cond.selects RX5 yX5_pour yX5_pour ∈ pWA := List.mem_filter.mpr ⟨List.mem_append_right _ (List.mem_append_right _ (List.mem_append_left _ (List.mem_of_getElem? (i := 147) rfl))), rfl⟩
set_option maxRecDepth 20000 in
theorem wm_2_137 : Cond.code yX5_pour cX5_pour 5 (some FieldType.int) ∈ pWA := List.mem_filter.mpr ⟨List.mem_append_right _ (List.mem_append_right _ (List.mem_append_left _ (List.mem_of_getElem? (i := 148) rfl))), rfl⟩
set_option maxRecDepth 20000 in
theorem wm_2_138 : Cond.methodLink RX5 116 yX1_putIn ∈ pWA := List.mem_filter.mpr ⟨List.mem_append_right _ (List.mem_append_right _ (List.mem_append_left _ (List.mem_of_getElem? (i := 149) rfl))), rfl⟩
set_option maxRecDepth 20000 in
theorem wm_2_139 : Cond.instanceMethod yX1_putIn ∈ pWA := List.mem_filter.mpr ⟨List.mem_append_right _ (List.mem_append_right _ (List.mem_append_left _ (List.mem_of_getElem? (i := 150) rfl))), rfl⟩
set_option maxRecDepth 20000 in
theorem wm_2_140 : Cond.selects RX1 yX1_putIn yX1_putIn ∈ pWA := List.mem_filter.mpr ⟨List.mem_append_right _ (List.mem_append_right _ (List.mem_append_left _ (List.mem_of_getElem? (i := 151) rfl))), rfl⟩
set_option maxRecDepth 20000 in
theorem wm_2_141 : Cond.code yX1_putIn cX1_putIn 4 (some FieldType.int) ∈ pWA := List.mem_filter.mpr ⟨List.mem_append_right _ (List.mem_append_right _ (List.mem_append_left _ (List.mem_of_getElem? (i := 152) rfl))), rfl⟩
set_option maxRecDepth 20000 in
theorem wm_2_142 : Cond.methodLink RX1 28 yX1_takeOut ∈ pWA := List.mem_filter.mpr ⟨List.mem_append_right _ (List.mem_append_right _ (List.mem_append_left _ (List.mem_of_getElem? (i := 153) rfl))), rfl⟩
set_option maxRecDepth 20000 in
theorem wm_2_143 : Cond.instanceMethod yX1_takeOut ∈ pWA := List.mem_filter.mpr ⟨List.mem_append_right _ (List.mem_append_right _ (List.mem_append_left _ (List.mem_of_getElem? (i := 154) rfl))), rfl⟩
set_option maxRecDepth 20000 in
theorem wm_2_144 : Cond.selects RX1 yX1_takeOut yX1_takeOut ∈ pWA := List.mem_filter.mpr ⟨List.mem_append_right _ (List.mem_append_right _ (List.mem_append_left _ (List.mem_of_getElem? (i := 155) rfl))), rfl⟩
set_option maxRecDepth 20000 in
theorem wm_2_145 : Cond.code yX1_takeOut cX1_takeOut 4 (some FieldType.int) ∈ pWA := List.mem_filter.mpr ⟨List.mem_append_right _ (List.mem_append_right _ (List.mem_append_left _ (List.mem_of_getElem? (i := 156) rfl))), rfl⟩
set_option maxRecDepth 20000 in
theorem wn_2_157 : Cond.methodLink RL 49 yX8_drain ∈ pWA := List.mem_filter.mpr ⟨List.mem_append_right _ (List.mem_append_right _ (List.mem_append_left _ (List.mem_of_getElem? (i := 157) rfl))), rfl⟩
set_option maxRecDepth 20000 in
theorem wm_2_147 : Cond.instanceMethod yX8_drain ∈ pWA := List.mem_filter.mpr ⟨List.mem_append_right _ (List.mem_append_right _ (List.mem_append_left _ (List.mem_of_getElem? (i := 158) rfl))), rfl⟩
set_option maxRecDepth 20000 in
theorem wm_2_148 : Cond.selects RX8 yX8_drain yX8_drain ∈ pWA := List.mem_filter.mpr ⟨List.mem_append_right _ (List.mem_append_right _ (List.mem_append_left _ (List.mem_of_getElem? (i := 159) rfl))), rfl⟩
set_option maxRecDepth 20000 in
theorem wm_2_149 : Cond.code yX8_drain cX8_drain 5 (some FieldType.int) ∈ pWA := List.mem_filter.mpr ⟨List.mem_append_right _ (List.mem_append_right _ (List.mem_append_left _ (List.mem_of_getElem? (i := 160) rfl))), rfl⟩
set_option maxRecDepth 20000 in
theorem wm_2_150 : Cond.methodLink RX8 107 yX1_there ∈ pWA := List.mem_filter.mpr ⟨List.mem_append_right _ (List.mem_append_right _ (List.mem_append_left _ (List.mem_of_getElem? (i := 161) rfl))), rfl⟩
set_option maxRecDepth 20000 in
theorem wm_2_151 : Cond.instanceMethod yX1_there ∈ pWA := List.mem_filter.mpr ⟨List.mem_append_right _ (List.mem_append_right _ (List.mem_append_left _ (List.mem_of_getElem? (i := 162) rfl))), rfl⟩
set_option maxRecDepth 20000 in
theorem wm_2_152 : Cond.selects RX1 yX1_there yX1_there ∈ pWA := List.mem_filter.mpr ⟨List.mem_append_right _ (List.mem_append_right _ (List.mem_append_left _ (List.mem_of_getElem? (i := 163) rfl))), rfl⟩
set_option maxRecDepth 20000 in
theorem wm_2_153 : Cond.code yX1_there cX1_there 2 (some FieldType.int) ∈ pWA := List.mem_filter.mpr ⟨List.mem_append_right _ (List.mem_append_right _ (List.mem_append_left _ (List.mem_of_getElem? (i := 164) rfl))), rfl⟩
set_option maxRecDepth 20000 in
theorem wm_2_154 : Cond.methodLink RX1 22 yJ9_min_7cf53 ∈ pWA := List.mem_filter.mpr ⟨List.mem_append_right _ (List.mem_append_right _ (List.mem_append_left _ (List.mem_of_getElem? (i := 165) rfl))), rfl⟩
set_option maxRecDepth 20000 in
theorem wm_2_155 : Cond.methodLink RX8 113 yX1_takeOut ∈ pWA := List.mem_filter.mpr ⟨List.mem_append_right _ (List.mem_append_right _ (List.mem_append_left _ (List.mem_of_getElem? (i := 166) rfl))), rfl⟩
set_option maxRecDepth 20000 in
theorem wn_2_167 : Cond.methodLink RL 52 yL_plan ∈ pWA := List.mem_filter.mpr ⟨List.mem_append_right _ (List.mem_append_right _ (List.mem_append_left _ (List.mem_of_getElem? (i := 167) rfl))), rfl⟩
set_option maxRecDepth 20000 in
theorem wn_2_168 : Cond.static yL_plan ∈ pWA := List.mem_filter.mpr ⟨List.mem_append_right _ (List.mem_append_right _ (List.mem_append_left _ (List.mem_of_getElem? (i := 168) rfl))), rfl⟩
set_option maxRecDepth 20000 in
theorem wn_2_169 : Cond.code yL_plan cL_plan 9 (some FieldType.int) ∈ pWA := List.mem_filter.mpr ⟨List.mem_append_right _ (List.mem_append_right _ (List.mem_append_left _ (List.mem_of_getElem? (i := 169) rfl))), rfl⟩
set_option maxRecDepth 20000 in
theorem wn_2_170 : Cond.methodLink RL 9 yX8_wipe ∈ pWA := List.mem_filter.mpr ⟨List.mem_append_right _ (List.mem_append_right _ (List.mem_append_left _ (List.mem_of_getElem? (i := 170) rfl))), rfl⟩
set_option maxRecDepth 20000 in
theorem wm_3_55 : Cond.instanceMethod yX8_wipe ∈ pWA := List.mem_filter.mpr ⟨List.mem_append_right _ (List.mem_append_right _ (List.mem_append_left _ (List.mem_of_getElem? (i := 171) rfl))), rfl⟩
set_option maxRecDepth 20000 in
theorem wm_3_56 : Cond.selects RX8 yX8_wipe yX8_wipe ∈ pWA := List.mem_filter.mpr ⟨List.mem_append_right _ (List.mem_append_right _ (List.mem_append_left _ (List.mem_of_getElem? (i := 172) rfl))), rfl⟩
set_option maxRecDepth 20000 in
theorem wm_3_57 : Cond.code yX8_wipe cX8_wipe 2 (some FieldType.int) ∈ pWA := List.mem_filter.mpr ⟨List.mem_append_right _ (List.mem_append_right _ (List.mem_append_left _ (List.mem_of_getElem? (i := 173) rfl))), rfl⟩
set_option maxRecDepth 20000 in
theorem wn_2_174 : Cond.methodLink RL 21 yX8_write ∈ pWA := List.mem_filter.mpr ⟨List.mem_append_right _ (List.mem_append_right _ (List.mem_append_left _ (List.mem_of_getElem? (i := 174) rfl))), rfl⟩
set_option maxRecDepth 20000 in
theorem wm_3_51 : Cond.instanceMethod yX8_write ∈ pWA := List.mem_filter.mpr ⟨List.mem_append_right _ (List.mem_append_right _ (List.mem_append_left _ (List.mem_of_getElem? (i := 175) rfl))), rfl⟩
set_option maxRecDepth 20000 in
theorem wm_3_52 : Cond.selects RX8 yX8_write yX8_write ∈ pWA := List.mem_filter.mpr ⟨List.mem_append_right _ (List.mem_append_right _ (List.mem_append_left _ (List.mem_of_getElem? (i := 176) rfl))), rfl⟩
set_option maxRecDepth 20000 in
theorem wm_3_53 : Cond.code yX8_write cX8_write 2 (some FieldType.int) ∈ pWA := List.mem_filter.mpr ⟨List.mem_append_right _ (List.mem_append_right _ (List.mem_append_left _ (List.mem_of_getElem? (i := 177) rfl))), rfl⟩
set_option maxRecDepth 20000 in
theorem wn_2_178 : Cond.methodLink RL 25 yL_digits ∈ pWA := List.mem_filter.mpr ⟨List.mem_append_right _ (List.mem_append_right _ (List.mem_append_left _ (List.mem_of_getElem? (i := 178) rfl))), rfl⟩
set_option maxRecDepth 20000 in
theorem wn_2_179 : Cond.static yL_digits ∈ pWA := List.mem_filter.mpr ⟨List.mem_append_right _ (List.mem_append_right _ (List.mem_append_left _ (List.mem_of_getElem? (i := 179) rfl))), rfl⟩
set_option maxRecDepth 20000 in
theorem wn_2_180 : Cond.code yL_digits cL_digits 4 (some FieldType.int) ∈ pWA := List.mem_filter.mpr ⟨List.mem_append_right _ (List.mem_append_right _ (List.mem_append_left _ (List.mem_of_getElem? (i := 180) rfl))), rfl⟩
set_option maxRecDepth 20000 in
theorem wn_2_181 : Cond.methodLink RL 29 yX8_plan ∈ pWA := List.mem_filter.mpr ⟨List.mem_append_right _ (List.mem_append_right _ (List.mem_append_left _ (List.mem_of_getElem? (i := 181) rfl))), rfl⟩
set_option maxRecDepth 20000 in
theorem wm_2_157 : Cond.instanceMethod yX8_plan ∈ pWA := List.mem_filter.mpr ⟨List.mem_append_right _ (List.mem_append_right _ (List.mem_append_left _ (List.mem_of_getElem? (i := 182) rfl))), rfl⟩
set_option maxRecDepth 20000 in
theorem wm_2_158 : Cond.selects RX8 yX8_plan yX8_plan ∈ pWA := List.mem_filter.mpr ⟨List.mem_append_right _ (List.mem_append_right _ (List.mem_append_left _ (List.mem_of_getElem? (i := 183) rfl))), rfl⟩
set_option maxRecDepth 20000 in
theorem wm_2_159 : Cond.code yX8_plan cX8_plan 1 (some FieldType.int) ∈ pWA := List.mem_filter.mpr ⟨List.mem_append_right _ (List.mem_append_right _ (List.mem_append_left _ (List.mem_of_getElem? (i := 184) rfl))), rfl⟩
set_option maxRecDepth 20000 in
theorem wm_2_160 : Cond.methodLink RX8 119 yX6_read ∈ pWA := List.mem_filter.mpr ⟨List.mem_append_right _ (List.mem_append_right _ (List.mem_append_left _ (List.mem_of_getElem? (i := 185) rfl))), rfl⟩
set_option maxRecDepth 20000 in
theorem wm_2_161 : Cond.instanceMethod yX6_read ∈ pWA := List.mem_filter.mpr ⟨List.mem_append_right _ (List.mem_append_right _ (List.mem_append_left _ (List.mem_of_getElem? (i := 186) rfl))), rfl⟩
set_option maxRecDepth 20000 in
theorem wm_2_162 : Cond.selects RX6 yX6_read yX6_read ∈ pWA := List.mem_filter.mpr ⟨List.mem_append_right _ (List.mem_append_right _ (List.mem_append_left _ (List.mem_of_getElem? (i := 187) rfl))), rfl⟩
set_option maxRecDepth 20000 in
theorem wm_2_163 : Cond.code yX6_read cX6_read 4 (none : Option FieldType) ∈ pWA := List.mem_filter.mpr ⟨List.mem_append_right _ (List.mem_append_right _ (List.mem_append_left _ (List.mem_of_getElem? (i := 188) rfl))), rfl⟩
set_option maxRecDepth 20000 in
theorem wm_2_164 : Cond.methodLink RX6 31 yX6_skipBlanks ∈ pWA := List.mem_filter.mpr ⟨List.mem_append_right _ (List.mem_append_right _ (List.mem_append_left _ (List.mem_of_getElem? (i := 189) rfl))), rfl⟩
set_option maxRecDepth 20000 in
theorem wm_2_166 : Cond.instanceMethod yX6_skipBlanks ∈ pWA := List.mem_filter.mpr ⟨List.mem_append_right _ (List.mem_append_right _ (List.mem_append_left _ (List.mem_of_getElem? (i := 191) rfl))), rfl⟩
set_option maxRecDepth 20000 in
theorem wm_2_167 : Cond.code yX6_skipBlanks cX6_skipBlanks 3 (none : Option FieldType) ∈ pWA := List.mem_filter.mpr ⟨List.mem_append_right _ (List.mem_append_right _ (List.mem_append_left _ (List.mem_of_getElem? (i := 192) rfl))), rfl⟩
set_option maxRecDepth 20000 in
theorem wm_2_168 : Cond.methodLink RX6 38 yX6_codeAt ∈ pWA := List.mem_filter.mpr ⟨List.mem_append_right _ (List.mem_append_right _ (List.mem_append_left _ (List.mem_of_getElem? (i := 193) rfl))), rfl⟩
set_option maxRecDepth 20000 in
theorem wm_2_170 : Cond.instanceMethod yX6_codeAt ∈ pWA := List.mem_filter.mpr ⟨List.mem_append_right _ (List.mem_append_right _ (List.mem_append_left _ (List.mem_of_getElem? (i := 195) rfl))), rfl⟩
set_option maxRecDepth 20000 in
theorem wm_2_171 : Cond.code yX6_codeAt cX6_codeAt 3 (some FieldType.int) ∈ pWA := List.mem_filter.mpr ⟨List.mem_append_right _ (List.mem_append_right _ (List.mem_append_left _ (List.mem_of_getElem? (i := 196) rfl))), rfl⟩
set_option maxRecDepth 20000 in
theorem wm_2_172 : Cond.methodLink RX6 35 yX6_readEntry ∈ pWA := List.mem_filter.mpr ⟨List.mem_append_right _ (List.mem_append_right _ (List.mem_append_left _ (List.mem_of_getElem? (i := 197) rfl))), rfl⟩
set_option maxRecDepth 20000 in
theorem wm_2_174 : Cond.instanceMethod yX6_readEntry ∈ pWA := List.mem_filter.mpr ⟨List.mem_append_right _ (List.mem_append_right _ (List.mem_append_left _ (List.mem_of_getElem? (i := 199) rfl))), rfl⟩
set_option maxRecDepth 20000 in
theorem wm_2_175 : Cond.code yX6_readEntry cX6_readEntry 6 (none : Option FieldType) ∈ pWA := List.mem_filter.mpr ⟨List.mem_append_right _ (List.mem_append_right _ (List.mem_append_left _ (List.mem_of_getElem? (i := 200) rfl))), rfl⟩
set_option maxRecDepth 20000 in
theorem wm_2_176 : Cond.methodLink RX6 42 yX6_kindOf ∈ pWA := List.mem_filter.mpr ⟨List.mem_append_right _ (List.mem_append_right _ (List.mem_append_left _ (List.mem_of_getElem? (i := 201) rfl))), rfl⟩
set_option maxRecDepth 20000 in
theorem wm_2_177 : Cond.static yX6_kindOf ∈ pWA := List.mem_filter.mpr ⟨List.mem_append_right _ (List.mem_append_right _ (List.mem_append_left _ (List.mem_of_getElem? (i := 202) rfl))), rfl⟩
set_option maxRecDepth 20000 in
theorem wm_2_178 : Cond.code yX6_kindOf cX6_kindOf 1 (some FieldType.int) ∈ pWA := List.mem_filter.mpr ⟨List.mem_append_right _ (List.mem_append_right _ (List.mem_append_left _ (List.mem_of_getElem? (i := 203) rfl))), rfl⟩
set_option maxRecDepth 20000 in
theorem wm_2_179 : Cond.methodLink RX6 46 yX6_note ∈ pWA := List.mem_filter.mpr ⟨List.mem_append_right _ (List.mem_append_right _ (List.mem_append_left _ (List.mem_of_getElem? (i := 204) rfl))), rfl⟩
set_option maxRecDepth 20000 in
theorem wm_2_181 : Cond.instanceMethod yX6_note ∈ pWA := List.mem_filter.mpr ⟨List.mem_append_right _ (List.mem_append_right _ (List.mem_append_left _ (List.mem_of_getElem? (i := 206) rfl))), rfl⟩
set_option maxRecDepth 20000 in
theorem wm_2_182 : Cond.code yX6_note cX6_note 3 (none : Option FieldType) ∈ pWA := List.mem_filter.mpr ⟨List.mem_append_right _ (List.mem_append_right _ (List.mem_append_left _ (List.mem_of_getElem? (i := 207) rfl))), rfl⟩
set_option maxRecDepth 20000 in
theorem wm_2_183 : Cond.methodLink RX6 50 yX6_readNumber ∈ pWA := List.mem_filter.mpr ⟨List.mem_append_right _ (List.mem_append_right _ (List.mem_append_left _ (List.mem_of_getElem? (i := 208) rfl))), rfl⟩
set_option maxRecDepth 20000 in
theorem wm_2_185 : Cond.instanceMethod yX6_readNumber ∈ pWA := List.mem_filter.mpr ⟨List.mem_append_right _ (List.mem_append_right _ (List.mem_append_left _ (List.mem_of_getElem? (i := 210) rfl))), rfl⟩
set_option maxRecDepth 20000 in
theorem wm_2_186 : Cond.code yX6_readNumber cX6_readNumber 7 (some FieldType.int) ∈ pWA := List.mem_filter.mpr ⟨List.mem_append_right _ (List.mem_append_right _ (List.mem_append_left _ (List.mem_of_getElem? (i := 211) rfl))), rfl⟩
set_option maxRecDepth 20000 in
theorem wm_2_187 : Cond.methodLink RX6 68 yX6_isDigit ∈ pWA := List.mem_filter.mpr ⟨List.mem_append_right _ (List.mem_append_right _ (List.mem_append_left _ (List.mem_of_getElem? (i := 212) rfl))), rfl⟩
set_option maxRecDepth 20000 in
theorem wm_2_188 : Cond.static yX6_isDigit ∈ pWA := List.mem_filter.mpr ⟨List.mem_append_right _ (List.mem_append_right _ (List.mem_append_left _ (List.mem_of_getElem? (i := 213) rfl))), rfl⟩
set_option maxRecDepth 20000 in
theorem wm_2_189 : Cond.code yX6_isDigit cX6_isDigit 1 (some FieldType.boolean) ∈ pWA := List.mem_filter.mpr ⟨List.mem_append_right _ (List.mem_append_right _ (List.mem_append_left _ (List.mem_of_getElem? (i := 214) rfl))), rfl⟩
set_option maxRecDepth 20000 in
theorem wm_2_190 : Cond.methodLink RX6 54 yX6_noteWrongByte ∈ pWA := List.mem_filter.mpr ⟨List.mem_append_right _ (List.mem_append_right _ (List.mem_append_left _ (List.mem_of_getElem? (i := 215) rfl))), rfl⟩
set_option maxRecDepth 20000 in
theorem wm_2_192 : Cond.instanceMethod yX6_noteWrongByte ∈ pWA := List.mem_filter.mpr ⟨List.mem_append_right _ (List.mem_append_right _ (List.mem_append_left _ (List.mem_of_getElem? (i := 217) rfl))), rfl⟩
set_option maxRecDepth 20000 in
theorem wm_2_193 : Cond.code yX6_noteWrongByte cX6_noteWrongByte 2 (none : Option FieldType) ∈ pWA := List.mem_filter.mpr ⟨List.mem_append_right _ (List.mem_append_right _ (List.mem_append_left _ (List.mem_of_getElem? (i := 218) rfl))), rfl⟩
set_option maxRecDepth 20000 in
theorem wm_2_194 : Cond.methodLink RX6 58 yX6_leastOf ∈ pWA := List.mem_filter.mpr ⟨List.mem_append_right _ (List.mem_append_right _ (List.mem_append_left _ (List.mem_of_getElem? (i := 219) rfl))), rfl⟩
set_option maxRecDepth 20000 in
theorem wm_2_195 : Cond.static yX6_leastOf ∈ pWA := List.mem_filter.mpr ⟨List.mem_append_right _ (List.mem_append_right _ (List.mem_append_left _ (List.mem_of_getElem? (i := 220) rfl))), rfl⟩
set_option maxRecDepth 20000 in
theorem wm_2_196 : Cond.code yX6_leastOf cX6_leastOf 1 (some FieldType.int) ∈ pWA := List.mem_filter.mpr ⟨List.mem_append_right _ (List.mem_append_right _ (List.mem_append_left _ (List.mem_of_getElem? (i := 221) rfl))), rfl⟩
set_option maxRecDepth 20000 in
theorem wm_2_197 : Cond.methodLink RX6 61 yX6_mostOf ∈ pWA := List.mem_filter.mpr ⟨List.mem_append_right _ (List.mem_append_right _ (List.mem_append_left _ (List.mem_of_getElem? (i := 222) rfl))), rfl⟩
set_option maxRecDepth 20000 in
theorem wm_2_198 : Cond.static yX6_mostOf ∈ pWA := List.mem_filter.mpr ⟨List.mem_append_right _ (List.mem_append_right _ (List.mem_append_left _ (List.mem_of_getElem? (i := 223) rfl))), rfl⟩
set_option maxRecDepth 20000 in
theorem wm_2_199 : Cond.code yX6_mostOf cX6_mostOf 1 (some FieldType.int) ∈ pWA := List.mem_filter.mpr ⟨List.mem_append_right _ (List.mem_append_right _ (List.mem_append_left _ (List.mem_of_getElem? (i := 224) rfl))), rfl⟩
set_option maxRecDepth 20000 in
theorem wm_2_200 : Cond.methodLink RX6 64 yX7_insert ∈ pWA := List.mem_filter.mpr ⟨List.mem_append_right _ (List.mem_append_right _ (List.mem_append_left _ (List.mem_of_getElem? (i := 225) rfl))), rfl⟩
set_option maxRecDepth 20000 in
theorem wm_2_201 : Cond.instanceMethod yX7_insert ∈ pWA := List.mem_filter.mpr ⟨List.mem_append_right _ (List.mem_append_right _ (List.mem_append_left _ (List.mem_of_getElem? (i := 226) rfl))), rfl⟩
set_option maxRecDepth 20000 in
theorem wm_2_202 : Cond.selects RX7 yX7_insert yX7_insert ∈ pWA := List.mem_filter.mpr ⟨List.mem_append_right _ (List.mem_append_right _ (List.mem_append_left _ (List.mem_of_getElem? (i := 227) rfl))), rfl⟩
set_option maxRecDepth 20000 in
theorem wm_2_203 : Cond.code yX7_insert cX7_insert 5 (none : Option FieldType) ∈ pWA := List.mem_filter.mpr ⟨List.mem_append_right _ (List.mem_append_right _ (List.mem_append_left _ (List.mem_of_getElem? (i := 228) rfl))), rfl⟩
set_option maxRecDepth 20000 in
theorem wm_2_204 : Cond.methodLink RX8 136 yX7_copyFrom ∈ pWA := List.mem_filter.mpr ⟨List.mem_append_right _ (List.mem_append_right _ (List.mem_append_left _ (List.mem_of_getElem? (i := 229) rfl))), rfl⟩
set_option maxRecDepth 20000 in
theorem wn_2_230 : Cond.methodLink RL 55 yX8_undo ∈ pWA := List.mem_filter.mpr ⟨List.mem_append_right _ (List.mem_append_right _ (List.mem_append_left _ (List.mem_of_getElem? (i := 230) rfl))), rfl⟩
set_option maxRecDepth 20000 in
theorem wm_3_43 : Cond.instanceMethod yX8_undo ∈ pWA := List.mem_filter.mpr ⟨List.mem_append_right _ (List.mem_append_right _ (List.mem_append_left _ (List.mem_of_getElem? (i := 231) rfl))), rfl⟩
set_option maxRecDepth 20000 in
theorem wm_3_44 : Cond.selects RX8 yX8_undo yX8_undo ∈ pWA := List.mem_filter.mpr ⟨List.mem_append_right _ (List.mem_append_right _ (List.mem_append_left _ (List.mem_of_getElem? (i := 232) rfl))), rfl⟩
set_option maxRecDepth 20000 in
theorem wm_3_45 : Cond.code yX8_undo cX8_undo 1 (some FieldType.int) ∈ pWA := List.mem_filter.mpr ⟨List.mem_append_right _ (List.mem_append_right _ (List.mem_append_left _ (List.mem_of_getElem? (i := 233) rfl))), rfl⟩
set_option maxRecDepth 20000 in
theorem wm_3_46 : Cond.methodLink RX8 149 yX3_restore ∈ pWA := List.mem_filter.mpr ⟨List.mem_append_right _ (List.mem_append_right _ (List.mem_append_left _ (List.mem_of_getElem? (i := 234) rfl))), rfl⟩
set_option maxRecDepth 20000 in
theorem wm_3_47 : Cond.instanceMethod yX3_restore ∈ pWA := List.mem_filter.mpr ⟨List.mem_append_right _ (List.mem_append_right _ (List.mem_append_left _ (List.mem_of_getElem? (i := 235) rfl))), rfl⟩
set_option maxRecDepth 20000 in
theorem wm_3_48 : Cond.selects RX3 yX3_restore yX3_restore ∈ pWA := List.mem_filter.mpr ⟨List.mem_append_right _ (List.mem_append_right _ (List.mem_append_left _ (List.mem_of_getElem? (i := 236) rfl))), rfl⟩
set_option maxRecDepth 20000 in
theorem wm_3_49 : Cond.code yX3_restore cX3_restore 3 (none : Option FieldType) ∈ pWA := List.mem_filter.mpr ⟨List.mem_append_right _ (List.mem_append_right _ (List.mem_append_left _ (List.mem_of_getElem? (i := 237) rfl))), rfl⟩
set_option maxRecDepth 20000 in
theorem wn_2_238 : Cond.methodLink RL 58 yX8_keep ∈ pWA := List.mem_filter.mpr ⟨List.mem_append_right _ (List.mem_append_right _ (List.mem_append_left _ (List.mem_of_getElem? (i := 238) rfl))), rfl⟩
set_option maxRecDepth 20000 in
theorem wm_3_120 : Cond.instanceMethod yX8_keep ∈ pWA := List.mem_filter.mpr ⟨List.mem_append_right _ (List.mem_append_right _ (List.mem_append_left _ (List.mem_of_getElem? (i := 239) rfl))), rfl⟩
set_option maxRecDepth 20000 in
theorem wm_3_121 : Cond.selects RX8 yX8_keep yX8_keep ∈ pWA := List.mem_filter.mpr ⟨List.mem_append_right _ (List.mem_append_right _ (List.mem_append_right _ (List.mem_of_getElem? (i := 0) rfl))), rfl⟩
set_option maxRecDepth 20000 in
theorem wm_3_122 : Cond.code yX8_keep cX8_keep 3 (some FieldType.int) ∈ pWA := List.mem_filter.mpr ⟨List.mem_append_right _ (List.mem_append_right _ (List.mem_append_right _ (List.mem_of_getElem? (i := 1) rfl))), rfl⟩
set_option maxRecDepth 20000 in
theorem wm_3_123 : Cond.methodLink RX8 234 yX8_imageAt ∈ pWA := List.mem_filter.mpr ⟨List.mem_append_right _ (List.mem_append_right _ (List.mem_append_right _ (List.mem_of_getElem? (i := 2) rfl))), rfl⟩
set_option maxRecDepth 20000 in
theorem wm_3_125 : Cond.instanceMethod yX8_imageAt ∈ pWA := List.mem_filter.mpr ⟨List.mem_append_right _ (List.mem_append_right _ (List.mem_append_right _ (List.mem_of_getElem? (i := 4) rfl))), rfl⟩
set_option maxRecDepth 20000 in
theorem wm_3_126 : Cond.code yX8_imageAt cX8_imageAt 2 (some (FieldType.object "BrokeLoop$Image")) ∈ pWA := List.mem_filter.mpr ⟨List.mem_append_right _ (List.mem_append_right _ (List.mem_append_right _ (List.mem_of_getElem? (i := 5) rfl))), rfl⟩
set_option maxRecDepth 20000 in
theorem wm_3_109 : Cond.methodLink RX8 222 yX5_copyFrom ∈ pWA := List.mem_filter.mpr ⟨List.mem_append_right _ (List.mem_append_right _ (List.mem_append_right _ (List.mem_of_getElem? (i := 6) rfl))), rfl⟩
set_option maxRecDepth 20000 in
theorem wn_3_7 : Cond.methodLink RL 61 yX8_back ∈ pWA := List.mem_filter.mpr ⟨List.mem_append_right _ (List.mem_append_right _ (List.mem_append_right _ (List.mem_of_getElem? (i := 7) rfl))), rfl⟩
set_option maxRecDepth 20000 in
theorem wm_3_128 : Cond.instanceMethod yX8_back ∈ pWA := List.mem_filter.mpr ⟨List.mem_append_right _ (List.mem_append_right _ (List.mem_append_right _ (List.mem_of_getElem? (i := 8) rfl))), rfl⟩
set_option maxRecDepth 20000 in
theorem wm_3_129 : Cond.selects RX8 yX8_back yX8_back ∈ pWA := List.mem_filter.mpr ⟨List.mem_append_right _ (List.mem_append_right _ (List.mem_append_right _ (List.mem_of_getElem? (i := 9) rfl))), rfl⟩
set_option maxRecDepth 20000 in
theorem wm_3_130 : Cond.code yX8_back cX8_back 3 (some FieldType.int) ∈ pWA := List.mem_filter.mpr ⟨List.mem_append_right _ (List.mem_append_right _ (List.mem_append_right _ (List.mem_of_getElem? (i := 10) rfl))), rfl⟩
set_option maxRecDepth 20000 in
theorem wn_3_11 : Cond.methodLink RL 64 yX8_run ∈ pWA := List.mem_filter.mpr ⟨List.mem_append_right _ (List.mem_append_right _ (List.mem_append_right _ (List.mem_of_getElem? (i := 11) rfl))), rfl⟩
set_option maxRecDepth 20000 in
theorem wm_2_206 : Cond.instanceMethod yX8_run ∈ pWA := List.mem_filter.mpr ⟨List.mem_append_right _ (List.mem_append_right _ (List.mem_append_right _ (List.mem_of_getElem? (i := 12) rfl))), rfl⟩
set_option maxRecDepth 20000 in
theorem wm_2_207 : Cond.selects RX8 yX8_run yX8_run ∈ pWA := List.mem_filter.mpr ⟨List.mem_append_right _ (List.mem_append_right _ (List.mem_append_right _ (List.mem_of_getElem? (i := 13) rfl))), rfl⟩
set_option maxRecDepth 20000 in
theorem wm_2_208 : Cond.code yX8_run cX8_run 2 (some FieldType.int) ∈ pWA := List.mem_filter.mpr ⟨List.mem_append_right _ (List.mem_append_right _ (List.mem_append_right _ (List.mem_of_getElem? (i := 14) rfl))), rfl⟩
set_option maxRecDepth 20000 in
theorem wm_2_209 : Cond.methodLink RX8 145 yX5_doTicks ∈ pWA := List.mem_filter.mpr ⟨List.mem_append_right _ (List.mem_append_right _ (List.mem_append_right _ (List.mem_of_getElem? (i := 15) rfl))), rfl⟩
set_option maxRecDepth 20000 in
theorem wm_2_210 : Cond.instanceMethod yX5_doTicks ∈ pWA := List.mem_filter.mpr ⟨List.mem_append_right _ (List.mem_append_right _ (List.mem_append_right _ (List.mem_of_getElem? (i := 16) rfl))), rfl⟩
set_option maxRecDepth 20000 in
theorem wm_2_211 : Cond.selects RX5 yX5_doTicks yX5_doTicks ∈ pWA := List.mem_filter.mpr ⟨List.mem_append_right _ (List.mem_append_right _ (List.mem_append_right _ (List.mem_of_getElem? (i := 17) rfl))), rfl⟩
set_option maxRecDepth 20000 in
theorem wm_2_212 : Cond.code yX5_doTicks cX5_doTicks 4 (some FieldType.int) ∈ pWA := List.mem_filter.mpr ⟨List.mem_append_right _ (List.mem_append_right _ (List.mem_append_right _ (List.mem_of_getElem? (i := 18) rfl))), rfl⟩
set_option maxRecDepth 20000 in
theorem wm_2_213 : Cond.methodLink RX5 122 yX0_paperOfAll ∈ pWA := List.mem_filter.mpr ⟨List.mem_append_right _ (List.mem_append_right _ (List.mem_append_right _ (List.mem_of_getElem? (i := 19) rfl))), rfl⟩
set_option maxRecDepth 20000 in
theorem wm_2_214 : Cond.instanceMethod yX0_paperOfAll ∈ pWA := List.mem_filter.mpr ⟨List.mem_append_right _ (List.mem_append_right _ (List.mem_append_right _ (List.mem_of_getElem? (i := 20) rfl))), rfl⟩
set_option maxRecDepth 20000 in
theorem wm_2_215 : Cond.selects RX0 yX0_paperOfAll yX0_paperOfAll ∈ pWA := List.mem_filter.mpr ⟨List.mem_append_right _ (List.mem_append_right _ (List.mem_append_right _ (List.mem_of_getElem? (i := 21) rfl))), rfl⟩
set_option maxRecDepth 20000 in
theorem wm_2_216 : Cond.code yX0_paperOfAll cX0_paperOfAll 3 (some FieldType.int) ∈ pWA := List.mem_filter.mpr ⟨List.mem_append_right _ (List.mem_append_right _ (List.mem_append_right _ (List.mem_of_getElem? (i := 22) rfl))), rfl⟩
set_option maxRecDepth 20000 in
theorem wm_2_217 : Cond.methodLink RX5 126 yX5_tick ∈ pWA := List.mem_filter.mpr ⟨List.mem_append_right _ (List.mem_append_right _ (List.mem_append_right _ (List.mem_of_getElem? (i := 23) rfl))), rfl⟩
set_option maxRecDepth 20000 in
theorem wm_2_218 : Cond.instanceMethod yX5_tick ∈ pWA := List.mem_filter.mpr ⟨List.mem_append_right _ (List.mem_append_right _ (List.mem_append_right _ (List.mem_of_getElem? (i := 24) rfl))), rfl⟩
set_option maxRecDepth 20000 in
theorem wm_2_219 : Cond.selects RX5 yX5_tick yX5_tick ∈ pWA := List.mem_filter.mpr ⟨List.mem_append_right _ (List.mem_append_right _ (List.mem_append_right _ (List.mem_of_getElem? (i := 25) rfl))), rfl⟩
set_option maxRecDepth 20000 in
theorem wm_2_220 : Cond.code yX5_tick cX5_tick 2 (some FieldType.boolean) ∈ pWA := List.mem_filter.mpr ⟨List.mem_append_right _ (List.mem_append_right _ (List.mem_append_right _ (List.mem_of_getElem? (i := 26) rfl))), rfl⟩
set_option maxRecDepth 20000 in
theorem wm_2_221 : Cond.methodLink RX5 130 yX5_carryOutSchedule ∈ pWA := List.mem_filter.mpr ⟨List.mem_append_right _ (List.mem_append_right _ (List.mem_append_right _ (List.mem_of_getElem? (i := 27) rfl))), rfl⟩
set_option maxRecDepth 20000 in
theorem wm_2_223 : Cond.instanceMethod yX5_carryOutSchedule ∈ pWA := List.mem_filter.mpr ⟨List.mem_append_right _ (List.mem_append_right _ (List.mem_append_right _ (List.mem_of_getElem? (i := 29) rfl))), rfl⟩
set_option maxRecDepth 20000 in
theorem wm_2_224 : Cond.code yX5_carryOutSchedule cX5_carryOutSchedule 2 (none : Option FieldType) ∈ pWA := List.mem_filter.mpr ⟨List.mem_append_right _ (List.mem_append_right _ (List.mem_append_right _ (List.mem_of_getElem? (i := 30) rfl))), rfl⟩
set_option maxRecDepth 20000 in
theorem wm_2_225 : Cond.methodLink RX5 174 yX5_carryOut ∈ pWA := List.mem_filter.mpr ⟨List.mem_append_right _ (List.mem_append_right _ (List.mem_append_right _ (List.mem_of_getElem? (i := 31) rfl))), rfl⟩
set_option maxRecDepth 20000 in
theorem wm_2_227 : Cond.instanceMethod yX5_carryOut ∈ pWA := List.mem_filter.mpr ⟨List.mem_append_right _ (List.mem_append_right _ (List.mem_append_right _ (List.mem_of_getElem? (i := 33) rfl))), rfl⟩
set_option maxRecDepth 20000 in
theorem wm_2_228 : Cond.code yX5_carryOut cX5_carryOut 3 (none : Option FieldType) ∈ pWA := List.mem_filter.mpr ⟨List.mem_append_right _ (List.mem_append_right _ (List.mem_append_right _ (List.mem_of_getElem? (i := 34) rfl))), rfl⟩
set_option maxRecDepth 20000 in
theorem wm_2_229 : Cond.methodLink RX5 177 yX5_breakSheet ∈ pWA := List.mem_filter.mpr ⟨List.mem_append_right _ (List.mem_append_right _ (List.mem_append_right _ (List.mem_of_getElem? (i := 35) rfl))), rfl⟩
set_option maxRecDepth 20000 in
theorem wm_2_230 : Cond.methodLink RX5 180 yX5_turnTo ∈ pWA := List.mem_filter.mpr ⟨List.mem_append_right _ (List.mem_append_right _ (List.mem_append_right _ (List.mem_of_getElem? (i := 36) rfl))), rfl⟩
set_option maxRecDepth 20000 in
theorem wm_2_231 : Cond.methodLink RX5 136 yX5_pour ∈ pWA := List.mem_filter.mpr ⟨List.mem_append_right _ (List.mem_append_right _ (List.mem_append_right _ (List.mem_of_getElem? (i := 37) rfl))), rfl⟩
set_option maxRecDepth 20000 in
theorem wm_2_232 : Cond.methodLink RX5 140 yX5_feedMixing ∈ pWA := List.mem_filter.mpr ⟨List.mem_append_right _ (List.mem_append_right _ (List.mem_append_right _ (List.mem_of_getElem? (i := 38) rfl))), rfl⟩
set_option maxRecDepth 20000 in
theorem wm_2_234 : Cond.instanceMethod yX5_feedMixing ∈ pWA := List.mem_filter.mpr ⟨List.mem_append_right _ (List.mem_append_right _ (List.mem_append_right _ (List.mem_of_getElem? (i := 40) rfl))), rfl⟩
set_option maxRecDepth 20000 in
theorem wm_2_235 : Cond.code yX5_feedMixing cX5_feedMixing 6 (none : Option FieldType) ∈ pWA := List.mem_filter.mpr ⟨List.mem_append_right _ (List.mem_append_right _ (List.mem_append_right _ (List.mem_of_getElem? (i := 41) rfl))), rfl⟩
set_option maxRecDepth 20000 in
theorem wm_2_236 : Cond.methodLink RX5 183 yX1_missing ∈ pWA := List.mem_filter.mpr ⟨List.mem_append_right _ (List.mem_append_right _ (List.mem_append_right _ (List.mem_of_getElem? (i := 42) rfl))), rfl⟩
set_option maxRecDepth 20000 in
theorem wm_2_237 : Cond.instanceMethod yX1_missing ∈ pWA := List.mem_filter.mpr ⟨List.mem_append_right _ (List.mem_append_right _ (List.mem_append_right _ (List.mem_of_getElem? (i := 43) rfl))), rfl⟩
set_option maxRecDepth 20000 in
theorem wm_2_238 : Cond.selects RX1 yX1_missing yX1_missing ∈ pWA := List.mem_filter.mpr ⟨List.mem_append_right _ (List.mem_append_right _ (List.mem_append_right _ (List.mem_of_getElem? (i := 44) rfl))), rfl⟩
set_option maxRecDepth 20000 in
theorem wm_2_239 : Cond.code yX1_missing cX1_missing 1 (some FieldType.int) ∈ pWA := List.mem_filter.mpr ⟨List.mem_append_right _ (List.mem_append_right _ (List.mem_append_right _ (List.mem_of_getElem? (i := 45) rfl))), rfl⟩
set_option maxRecDepth 20000 in
theorem wm_3_0 : Cond.methodLink RX5 186 yJ9_min_7cf53 ∈ pWA := List.mem_filter.mpr ⟨List.mem_append_right _ (List.mem_append_right _ (List.mem_append_right _ (List.mem_of_getElem? (i := 46) rfl))), rfl⟩
set_option maxRecDepth 20000 in
theorem wm_3_1 : Cond.methodLink RX5 189 yX1_there ∈ pWA := List.mem_filter.mpr ⟨List.mem_append_right _ (List.mem_append_right _ (List.mem_append_right _ (List.mem_of_getElem? (i := 47) rfl))), rfl⟩
set_option maxRecDepth 20000 in
theorem wm_3_2 : Cond.methodLink RX5 193 yX1_takeOut ∈ pWA := List.mem_filter.mpr ⟨List.mem_append_right _ (List.mem_append_right _ (List.mem_append_right _ (List.mem_of_getElem? (i := 48) rfl))), rfl⟩
set_option maxRecDepth 20000 in
theorem wm_3_3 : Cond.methodLink RX5 196 yX5_reasonOf ∈ pWA := List.mem_filter.mpr ⟨List.mem_append_right _ (List.mem_append_right _ (List.mem_append_right _ (List.mem_of_getElem? (i := 49) rfl))), rfl⟩
set_option maxRecDepth 20000 in
theorem wm_3_5 : Cond.instanceMethod yX5_reasonOf ∈ pWA := List.mem_filter.mpr ⟨List.mem_append_right _ (List.mem_append_right _ (List.mem_append_right _ (List.mem_of_getElem? (i := 51) rfl))), rfl⟩
set_option maxRecDepth 20000 in
theorem wm_3_6 : Cond.code yX5_reasonOf cX5_reasonOf 4 (some FieldType.int) ∈ pWA := List.mem_filter.mpr ⟨List.mem_append_right _ (List.mem_append_right _ (List.mem_append_right _ (List.mem_of_getElem? (i := 52) rfl))), rfl⟩
set_option maxRecDepth 20000 in
theorem wm_3_7 : Cond.methodLink RX5 143 yX5_feedMachine ∈ pWA := List.mem_filter.mpr ⟨List.mem_append_right _ (List.mem_append_right _ (List.mem_append_right _ (List.mem_of_getElem? (i := 53) rfl))), rfl⟩
set_option maxRecDepth 20000 in
theorem wm_3_9 : Cond.instanceMethod yX5_feedMachine ∈ pWA := List.mem_filter.mpr ⟨List.mem_append_right _ (List.mem_append_right _ (List.mem_append_right _ (List.mem_of_getElem? (i := 55) rfl))), rfl⟩
set_option maxRecDepth 20000 in
theorem wm_3_10 : Cond.code yX5_feedMachine cX5_feedMachine 4 (none : Option FieldType) ∈ pWA := List.mem_filter.mpr ⟨List.mem_append_right _ (List.mem_append_right _ (List.mem_append_right _ (List.mem_of_getElem? (i := 56) rfl))), rfl⟩
set_option maxRecDepth 20000 in
theorem wm_3_11 : Cond.methodLink RX5 146 yX1_consistency ∈ pWA := List.mem_filter.mpr ⟨List.mem_append_right _ (List.mem_append_right _ (List.mem_append_right _ (List.mem_of_getElem? (i := 57) rfl))), rfl⟩
set_option maxRecDepth 20000 in
theorem wm_3_12 : Cond.instanceMethod yX1_consistency ∈ pWA := List.mem_filter.mpr ⟨List.mem_append_right _ (List.mem_append_right _ (List.mem_append_right _ (List.mem_of_getElem? (i := 58) rfl))), rfl⟩
set_option maxRecDepth 20000 in
theorem wm_3_13 : Cond.selects RX1 yX1_consistency yX1_consistency ∈ pWA := List.mem_filter.mpr ⟨List.mem_append_right _ (List.mem_append_right _ (List.mem_append_right _ (List.mem_of_getElem? (i := 59) rfl))), rfl⟩
set_option maxRecDepth 20000 in
theorem wm_3_14 : Cond.code yX1_consistency cX1_consistency 2 (some FieldType.int) ∈ pWA := List.mem_filter.mpr ⟨List.mem_append_right _ (List.mem_append_right _ (List.mem_append_right _ (List.mem_of_getElem? (i := 60) rfl))), rfl⟩
set_option maxRecDepth 20000 in
theorem wm_3_15 : Cond.methodLink RX5 149 yX2_measure ∈ pWA := List.mem_filter.mpr ⟨List.mem_append_right _ (List.mem_append_right _ (List.mem_append_right _ (List.mem_of_getElem? (i := 61) rfl))), rfl⟩
set_option maxRecDepth 20000 in
theorem wm_3_16 : Cond.instanceMethod yX2_measure ∈ pWA := List.mem_filter.mpr ⟨List.mem_append_right _ (List.mem_append_right _ (List.mem_append_right _ (List.mem_of_getElem? (i := 62) rfl))), rfl⟩
set_option maxRecDepth 20000 in
theorem wm_3_17 : Cond.selects RX2 yX2_measure yX2_measure ∈ pWA := List.mem_filter.mpr ⟨List.mem_append_right _ (List.mem_append_right _ (List.mem_append_right _ (List.mem_of_getElem? (i := 63) rfl))), rfl⟩
set_option maxRecDepth 20000 in
theorem wm_3_18 : Cond.code yX2_measure cX2_measure 3 (none : Option FieldType) ∈ pWA := List.mem_filter.mpr ⟨List.mem_append_right _ (List.mem_append_right _ (List.mem_append_right _ (List.mem_of_getElem? (i := 64) rfl))), rfl⟩
set_option maxRecDepth 20000 in
theorem wm_3_19 : Cond.methodLink RX2 26 yJ9_min_7cf53 ∈ pWA := List.mem_filter.mpr ⟨List.mem_append_right _ (List.mem_append_right _ (List.mem_append_right _ (List.mem_of_getElem? (i := 65) rfl))), rfl⟩
set_option maxRecDepth 20000 in
theorem wm_3_20 : Cond.methodLink RX5 152 yX2_control ∈ pWA := List.mem_filter.mpr ⟨List.mem_append_right _ (List.mem_append_right _ (List.mem_append_right _ (List.mem_of_getElem? (i := 66) rfl))), rfl⟩
set_option maxRecDepth 20000 in
theorem wm_3_21 : Cond.instanceMethod yX2_control ∈ pWA := List.mem_filter.mpr ⟨List.mem_append_right _ (List.mem_append_right _ (List.mem_append_right _ (List.mem_of_getElem? (i := 67) rfl))), rfl⟩
set_option maxRecDepth 20000 in
theorem wm_3_22 : Cond.selects RX2 yX2_control yX2_control ∈ pWA := List.mem_filter.mpr ⟨List.mem_append_right _ (List.mem_append_right _ (List.mem_append_right _ (List.mem_of_getElem? (i := 68) rfl))), rfl⟩
set_option maxRecDepth 20000 in
theorem wm_3_23 : Cond.code yX2_control cX2_control 5 (none : Option FieldType) ∈ pWA := List.mem_filter.mpr ⟨List.mem_append_right _ (List.mem_append_right _ (List.mem_append_right _ (List.mem_of_getElem? (i := 69) rfl))), rfl⟩
set_option maxRecDepth 20000 in
theorem wm_3_24 : Cond.methodLink RX2 32 yJ9_max_7cf53 ∈ pWA := List.mem_filter.mpr ⟨List.mem_append_right _ (List.mem_append_right _ (List.mem_append_right _ (List.mem_of_getElem? (i := 70) rfl))), rfl⟩
set_option maxRecDepth 20000 in
theorem wm_3_25 : Cond.methodLink RX5 156 yX5_makeSheet ∈ pWA := List.mem_filter.mpr ⟨List.mem_append_right _ (List.mem_append_right _ (List.mem_append_right _ (List.mem_of_getElem? (i := 71) rfl))), rfl⟩
set_option maxRecDepth 20000 in
theorem wm_3_27 : Cond.instanceMethod yX5_makeSheet ∈ pWA := List.mem_filter.mpr ⟨List.mem_append_right _ (List.mem_append_right _ (List.mem_append_right _ (List.mem_of_getElem? (i := 73) rfl))), rfl⟩
set_option maxRecDepth 20000 in
theorem wm_3_28 : Cond.code yX5_makeSheet cX5_makeSheet 3 (some FieldType.boolean) ∈ pWA := List.mem_filter.mpr ⟨List.mem_append_right _ (List.mem_append_right _ (List.mem_append_right _ (List.mem_of_getElem? (i := 74) rfl))), rfl⟩
set_option maxRecDepth 20000 in
theorem wm_3_29 : Cond.methodLink RX5 203 yX5_countPaper ∈ pWA := List.mem_filter.mpr ⟨List.mem_append_right _ (List.mem_append_right _ (List.mem_append_right _ (List.mem_of_getElem? (i := 75) rfl))), rfl⟩
set_option maxRecDepth 20000 in
theorem wm_3_31 : Cond.instanceMethod yX5_countPaper ∈ pWA := List.mem_filter.mpr ⟨List.mem_append_right _ (List.mem_append_right _ (List.mem_append_right _ (List.mem_of_getElem? (i := 77) rfl))), rfl⟩
set_option maxRecDepth 20000 in
theorem wm_3_32 : Cond.code yX5_countPaper cX5_countPaper 2 (none : Option FieldType) ∈ pWA := List.mem_filter.mpr ⟨List.mem_append_right _ (List.mem_append_right _ (List.mem_append_right _ (List.mem_of_getElem? (i := 78) rfl))), rfl⟩
set_option maxRecDepth 20000 in
theorem wm_3_33 : Cond.methodLink RX5 159 yX5_noteSums ∈ pWA := List.mem_filter.mpr ⟨List.mem_append_right _ (List.mem_append_right _ (List.mem_append_right _ (List.mem_of_getElem? (i := 79) rfl))), rfl⟩
set_option maxRecDepth 20000 in
theorem wm_3_35 : Cond.instanceMethod yX5_noteSums ∈ pWA := List.mem_filter.mpr ⟨List.mem_append_right _ (List.mem_append_right _ (List.mem_append_right _ (List.mem_of_getElem? (i := 81) rfl))), rfl⟩
set_option maxRecDepth 20000 in
theorem wm_3_36 : Cond.code yX5_noteSums cX5_noteSums 1 (none : Option FieldType) ∈ pWA := List.mem_filter.mpr ⟨List.mem_append_right _ (List.mem_append_right _ (List.mem_append_right _ (List.mem_of_getElem? (i := 82) rfl))), rfl⟩
set_option maxRecDepth 20000 in
theorem wm_3_37 : Cond.methodLink RX5 211 yX1_noteSum ∈ pWA := List.mem_filter.mpr ⟨List.mem_append_right _ (List.mem_append_right _ (List.mem_append_right _ (List.mem_of_getElem? (i := 83) rfl))), rfl⟩
set_option maxRecDepth 20000 in
theorem wm_3_38 : Cond.instanceMethod yX1_noteSum ∈ pWA := List.mem_filter.mpr ⟨List.mem_append_right _ (List.mem_append_right _ (List.mem_append_right _ (List.mem_of_getElem? (i := 84) rfl))), rfl⟩
set_option maxRecDepth 20000 in
theorem wm_3_39 : Cond.selects RX1 yX1_noteSum yX1_noteSum ∈ pWA := List.mem_filter.mpr ⟨List.mem_append_right _ (List.mem_append_right _ (List.mem_append_right _ (List.mem_of_getElem? (i := 85) rfl))), rfl⟩
set_option maxRecDepth 20000 in
theorem wm_3_40 : Cond.code yX1_noteSum cX1_noteSum 1 (none : Option FieldType) ∈ pWA := List.mem_filter.mpr ⟨List.mem_append_right _ (List.mem_append_right _ (List.mem_append_right _ (List.mem_of_getElem? (i := 86) rfl))), rfl⟩
set_option maxRecDepth 20000 in
theorem wm_3_41 : Cond.methodLink RX1 32 yJ9_max_7cf53 ∈ pWA := List.mem_filter.mpr ⟨List.mem_append_right _ (List.mem_append_right _ (List.mem_append_right _ (List.mem_of_getElem? (i := 87) rfl))), rfl⟩
set_option maxRecDepth 20000 in
theorem wn_3_88 : Cond.methodLink RL 108 yL_areAccounts ∈ pWA := List.mem_filter.mpr ⟨List.mem_append_right _ (List.mem_append_right _ (List.mem_append_right _ (List.mem_of_getElem? (i := 88) rfl))), rfl⟩
set_option maxRecDepth 20000 in
theorem wn_3_89 : Cond.static yL_areAccounts ∈ pWA := List.mem_filter.mpr ⟨List.mem_append_right _ (List.mem_append_right _ (List.mem_append_right _ (List.mem_of_getElem? (i := 89) rfl))), rfl⟩
set_option maxRecDepth 20000 in
theorem wn_3_90 : Cond.code yL_areAccounts cL_areAccounts 6 (some FieldType.boolean) ∈ pWA := List.mem_filter.mpr ⟨List.mem_append_right _ (List.mem_append_right _ (List.mem_append_right _ (List.mem_of_getElem? (i := 90) rfl))), rfl⟩
set_option maxRecDepth 20000 in
theorem wn_3_91 : Cond.methodLink RL 67 yX8_chest ∈ pWA := List.mem_filter.mpr ⟨List.mem_append_right _ (List.mem_append_right _ (List.mem_append_right _ (List.mem_of_getElem? (i := 91) rfl))), rfl⟩
set_option maxRecDepth 20000 in
theorem wm_3_79 : Cond.instanceMethod yX8_chest ∈ pWA := List.mem_filter.mpr ⟨List.mem_append_right _ (List.mem_append_right _ (List.mem_append_right _ (List.mem_of_getElem? (i := 92) rfl))), rfl⟩
set_option maxRecDepth 20000 in
theorem wm_3_80 : Cond.selects RX8 yX8_chest yX8_chest ∈ pWA := List.mem_filter.mpr ⟨List.mem_append_right _ (List.mem_append_right _ (List.mem_append_right _ (List.mem_of_getElem? (i := 93) rfl))), rfl⟩
set_option maxRecDepth 20000 in
theorem wm_3_81 : Cond.code yX8_chest cX8_chest 4 (some FieldType.int) ∈ pWA := List.mem_filter.mpr ⟨List.mem_append_right _ (List.mem_append_right _ (List.mem_append_right _ (List.mem_of_getElem? (i := 94) rfl))), rfl⟩
set_option maxRecDepth 20000 in
theorem wm_3_82 : Cond.methodLink RX8 186 yX1_consistency ∈ pWA := List.mem_filter.mpr ⟨List.mem_append_right _ (List.mem_append_right _ (List.mem_append_right _ (List.mem_of_getElem? (i := 95) rfl))), rfl⟩
set_option maxRecDepth 20000 in
theorem wm_3_83 : Cond.methodLink RX8 189 yX1_missing ∈ pWA := List.mem_filter.mpr ⟨List.mem_append_right _ (List.mem_append_right _ (List.mem_append_right _ (List.mem_of_getElem? (i := 96) rfl))), rfl⟩
set_option maxRecDepth 20000 in
theorem wn_3_97 : Cond.methodLink RL 70 yL_room ∈ pWA := List.mem_filter.mpr ⟨List.mem_append_right _ (List.mem_append_right _ (List.mem_append_right _ (List.mem_of_getElem? (i := 97) rfl))), rfl⟩
set_option maxRecDepth 20000 in
theorem wn_3_98 : Cond.static yL_room ∈ pWA := List.mem_filter.mpr ⟨List.mem_append_right _ (List.mem_append_right _ (List.mem_append_right _ (List.mem_of_getElem? (i := 98) rfl))), rfl⟩
set_option maxRecDepth 20000 in
theorem wn_3_99 : Cond.code yL_room cL_room 1 (some FieldType.int) ∈ pWA := List.mem_filter.mpr ⟨List.mem_append_right _ (List.mem_append_right _ (List.mem_append_right _ (List.mem_of_getElem? (i := 99) rfl))), rfl⟩
set_option maxRecDepth 20000 in
theorem wn_3_100 : Cond.methodLink RL 73 yX8_paper ∈ pWA := List.mem_filter.mpr ⟨List.mem_append_right _ (List.mem_append_right _ (List.mem_append_right _ (List.mem_of_getElem? (i := 100) rfl))), rfl⟩
set_option maxRecDepth 20000 in
theorem wm_3_94 : Cond.instanceMethod yX8_paper ∈ pWA := List.mem_filter.mpr ⟨List.mem_append_right _ (List.mem_append_right _ (List.mem_append_right _ (List.mem_of_getElem? (i := 101) rfl))), rfl⟩
set_option maxRecDepth 20000 in
theorem wm_3_95 : Cond.selects RX8 yX8_paper yX8_paper ∈ pWA := List.mem_filter.mpr ⟨List.mem_append_right _ (List.mem_append_right _ (List.mem_append_right _ (List.mem_of_getElem? (i := 102) rfl))), rfl⟩
set_option maxRecDepth 20000 in
theorem wm_3_96 : Cond.code yX8_paper cX8_paper 2 (some FieldType.int) ∈ pWA := List.mem_filter.mpr ⟨List.mem_append_right _ (List.mem_append_right _ (List.mem_append_right _ (List.mem_of_getElem? (i := 103) rfl))), rfl⟩
set_option maxRecDepth 20000 in
theorem wn_3_104 : Cond.methodLink RL 76 yX8_account ∈ pWA := List.mem_filter.mpr ⟨List.mem_append_right _ (List.mem_append_right _ (List.mem_append_right _ (List.mem_of_getElem? (i := 104) rfl))), rfl⟩
set_option maxRecDepth 20000 in
theorem wm_3_85 : Cond.instanceMethod yX8_account ∈ pWA := List.mem_filter.mpr ⟨List.mem_append_right _ (List.mem_append_right _ (List.mem_append_right _ (List.mem_of_getElem? (i := 105) rfl))), rfl⟩
set_option maxRecDepth 20000 in
theorem wm_3_86 : Cond.selects RX8 yX8_account yX8_account ∈ pWA := List.mem_filter.mpr ⟨List.mem_append_right _ (List.mem_append_right _ (List.mem_append_right _ (List.mem_of_getElem? (i := 106) rfl))), rfl⟩
set_option maxRecDepth 20000 in
theorem wm_3_87 : Cond.code yX8_account cX8_account 2 (some FieldType.int) ∈ pWA := List.mem_filter.mpr ⟨List.mem_append_right _ (List.mem_append_right _ (List.mem_append_right _ (List.mem_of_getElem? (i := 107) rfl))), rfl⟩
set_option maxRecDepth 20000 in
theorem wm_3_88 : Cond.methodLink RX8 198 yX0_paperOfAll ∈ pWA := List.mem_filter.mpr ⟨List.mem_append_right _ (List.mem_append_right _ (List.mem_append_right _ (List.mem_of_getElem? (i := 108) rfl))), rfl⟩
set_option maxRecDepth 20000 in
theorem wm_3_89 : Cond.methodLink RX8 204 yX5_fibreNow ∈ pWA := List.mem_filter.mpr ⟨List.mem_append_right _ (List.mem_append_right _ (List.mem_append_right _ (List.mem_of_getElem? (i := 109) rfl))), rfl⟩
set_option maxRecDepth 20000 in
theorem wm_3_90 : Cond.instanceMethod yX5_fibreNow ∈ pWA := List.mem_filter.mpr ⟨List.mem_append_right _ (List.mem_append_right _ (List.mem_append_right _ (List.mem_of_getElem? (i := 110) rfl))), rfl⟩
set_option maxRecDepth 20000 in
theorem wm_3_91 : Cond.selects RX5 yX5_fibreNow yX5_fibreNow ∈ pWA := List.mem_filter.mpr ⟨List.mem_append_right _ (List.mem_append_right _ (List.mem_append_right _ (List.mem_of_getElem? (i := 111) rfl))), rfl⟩
set_option maxRecDepth 20000 in
theorem wm_3_92 : Cond.code yX5_fibreNow cX5_fibreNow 1 (some FieldType.int) ∈ pWA := List.mem_filter.mpr ⟨List.mem_append_right _ (List.mem_append_right _ (List.mem_append_right _ (List.mem_of_getElem? (i := 112) rfl))), rfl⟩
set_option maxRecDepth 20000 in
theorem wn_3_113 : Cond.methodLink RL 79 yX8_paperShare ∈ pWA := List.mem_filter.mpr ⟨List.mem_append_right _ (List.mem_append_right _ (List.mem_append_right _ (List.mem_of_getElem? (i := 113) rfl))), rfl⟩
set_option maxRecDepth 20000 in
theorem wm_3_102 : Cond.instanceMethod yX8_paperShare ∈ pWA := List.mem_filter.mpr ⟨List.mem_append_right _ (List.mem_append_right _ (List.mem_append_right _ (List.mem_of_getElem? (i := 114) rfl))), rfl⟩
set_option maxRecDepth 20000 in
theorem wm_3_103 : Cond.selects RX8 yX8_paperShare yX8_paperShare ∈ pWA := List.mem_filter.mpr ⟨List.mem_append_right _ (List.mem_append_right _ (List.mem_append_right _ (List.mem_of_getElem? (i := 115) rfl))), rfl⟩
set_option maxRecDepth 20000 in
theorem wm_3_104 : Cond.code yX8_paperShare cX8_paperShare 3 (some FieldType.float) ∈ pWA := List.mem_filter.mpr ⟨List.mem_append_right _ (List.mem_append_right _ (List.mem_append_right _ (List.mem_of_getElem? (i := 116) rfl))), rfl⟩
set_option maxRecDepth 20000 in
theorem wn_3_117 : Cond.methodLink RL 112 yL_isLoop ∈ pWA := List.mem_filter.mpr ⟨List.mem_append_right _ (List.mem_append_right _ (List.mem_append_right _ (List.mem_of_getElem? (i := 117) rfl))), rfl⟩
set_option maxRecDepth 20000 in
theorem wn_3_118 : Cond.static yL_isLoop ∈ pWA := List.mem_filter.mpr ⟨List.mem_append_right _ (List.mem_append_right _ (List.mem_append_right _ (List.mem_of_getElem? (i := 118) rfl))), rfl⟩
set_option maxRecDepth 20000 in
theorem wn_3_119 : Cond.code yL_isLoop cL_isLoop 7 (some FieldType.boolean) ∈ pWA := List.mem_filter.mpr ⟨List.mem_append_right _ (List.mem_append_right _ (List.mem_append_right _ (List.mem_of_getElem? (i := 119) rfl))), rfl⟩
set_option maxRecDepth 20000 in
theorem wn_3_120 : Cond.methodLink RL 83 yX8_told ∈ pWA := List.mem_filter.mpr ⟨List.mem_append_right _ (List.mem_append_right _ (List.mem_append_right _ (List.mem_of_getElem? (i := 120) rfl))), rfl⟩
set_option maxRecDepth 20000 in
theorem wm_3_63 : Cond.instanceMethod yX8_told ∈ pWA := List.mem_filter.mpr ⟨List.mem_append_right _ (List.mem_append_right _ (List.mem_append_right _ (List.mem_of_getElem? (i := 121) rfl))), rfl⟩
set_option maxRecDepth 20000 in
theorem wm_3_64 : Cond.selects RX8 yX8_told yX8_told ∈ pWA := List.mem_filter.mpr ⟨List.mem_append_right _ (List.mem_append_right _ (List.mem_append_right _ (List.mem_of_getElem? (i := 122) rfl))), rfl⟩
set_option maxRecDepth 20000 in
theorem wm_3_65 : Cond.code yX8_told cX8_told 2 (some FieldType.int) ∈ pWA := List.mem_filter.mpr ⟨List.mem_append_right _ (List.mem_append_right _ (List.mem_append_right _ (List.mem_of_getElem? (i := 123) rfl))), rfl⟩
set_option maxRecDepth 20000 in
theorem wm_3_66 : Cond.methodLink RX8 170 yX2_latest ∈ pWA := List.mem_filter.mpr ⟨List.mem_append_right _ (List.mem_append_right _ (List.mem_append_right _ (List.mem_of_getElem? (i := 124) rfl))), rfl⟩
set_option maxRecDepth 20000 in
theorem wm_3_67 : Cond.instanceMethod yX2_latest ∈ pWA := List.mem_filter.mpr ⟨List.mem_append_right _ (List.mem_append_right _ (List.mem_append_right _ (List.mem_of_getElem? (i := 125) rfl))), rfl⟩
set_option maxRecDepth 20000 in
theorem wm_3_68 : Cond.selects RX2 yX2_latest yX2_latest ∈ pWA := List.mem_filter.mpr ⟨List.mem_append_right _ (List.mem_append_right _ (List.mem_append_right _ (List.mem_of_getElem? (i := 126) rfl))), rfl⟩
set_option maxRecDepth 20000 in
theorem wm_3_69 : Cond.code yX2_latest cX2_latest 1 (some FieldType.int) ∈ pWA := List.mem_filter.mpr ⟨List.mem_append_right _ (List.mem_append_right _ (List.mem_append_right _ (List.mem_of_getElem? (i := 127) rfl))), rfl⟩
set_option maxRecDepth 20000 in
theorem wm_3_70 : Cond.methodLink RX8 174 yX7_countAfter ∈ pWA := List.mem_filter.mpr ⟨List.mem_append_right _ (List.mem_append_right _ (List.mem_append_right _ (List.mem_of_getElem? (i := 128) rfl))), rfl⟩
set_option maxRecDepth 20000 in
theorem wm_3_71 : Cond.instanceMethod yX7_countAfter ∈ pWA := List.mem_filter.mpr ⟨List.mem_append_right _ (List.mem_append_right _ (List.mem_append_right _ (List.mem_of_getElem? (i := 129) rfl))), rfl⟩
set_option maxRecDepth 20000 in
theorem wm_3_72 : Cond.selects RX7 yX7_countAfter yX7_countAfter ∈ pWA := List.mem_filter.mpr ⟨List.mem_append_right _ (List.mem_append_right _ (List.mem_append_right _ (List.mem_of_getElem? (i := 130) rfl))), rfl⟩
set_option maxRecDepth 20000 in
theorem wm_3_73 : Cond.code yX7_countAfter cX7_countAfter 4 (some FieldType.int) ∈ pWA := List.mem_filter.mpr ⟨List.mem_append_right _ (List.mem_append_right _ (List.mem_append_right _ (List.mem_of_getElem? (i := 131) rfl))), rfl⟩
set_option maxRecDepth 20000 in
theorem wn_3_132 : Cond.methodLink RL 86 yX8_entry ∈ pWA := List.mem_filter.mpr ⟨List.mem_append_right _ (List.mem_append_right _ (List.mem_append_right _ (List.mem_of_getElem? (i := 132) rfl))), rfl⟩
set_option maxRecDepth 20000 in
theorem wm_3_98 : Cond.instanceMethod yX8_entry ∈ pWA := List.mem_filter.mpr ⟨List.mem_append_right _ (List.mem_append_right _ (List.mem_append_right _ (List.mem_of_getElem? (i := 133) rfl))), rfl⟩
set_option maxRecDepth 20000 in
theorem wm_3_99 : Cond.selects RX8 yX8_entry yX8_entry ∈ pWA := List.mem_filter.mpr ⟨List.mem_append_right _ (List.mem_append_right _ (List.mem_append_right _ (List.mem_of_getElem? (i := 134) rfl))), rfl⟩
set_option maxRecDepth 20000 in
theorem wm_3_100 : Cond.code yX8_entry cX8_entry 3 (some FieldType.int) ∈ pWA := List.mem_filter.mpr ⟨List.mem_append_right _ (List.mem_append_right _ (List.mem_append_right _ (List.mem_of_getElem? (i := 135) rfl))), rfl⟩
set_option maxRecDepth 20000 in
theorem wn_3_136 : Cond.methodLink RL 115 yL_isTick ∈ pWA := List.mem_filter.mpr ⟨List.mem_append_right _ (List.mem_append_right _ (List.mem_append_right _ (List.mem_of_getElem? (i := 136) rfl))), rfl⟩
set_option maxRecDepth 20000 in
theorem wn_3_137 : Cond.static yL_isTick ∈ pWA := List.mem_filter.mpr ⟨List.mem_append_right _ (List.mem_append_right _ (List.mem_append_right _ (List.mem_of_getElem? (i := 137) rfl))), rfl⟩
set_option maxRecDepth 20000 in
theorem wn_3_138 : Cond.code yL_isTick cL_isTick 10 (some FieldType.boolean) ∈ pWA := List.mem_filter.mpr ⟨List.mem_append_right _ (List.mem_append_right _ (List.mem_append_right _ (List.mem_of_getElem? (i := 138) rfl))), rfl⟩
set_option maxRecDepth 20000 in
theorem wn_3_139 : Cond.methodLink RL 89 yX8_later ∈ pWA := List.mem_filter.mpr ⟨List.mem_append_right _ (List.mem_append_right _ (List.mem_append_right _ (List.mem_of_getElem? (i := 139) rfl))), rfl⟩
set_option maxRecDepth 20000 in
theorem wm_3_106 : Cond.instanceMethod yX8_later ∈ pWA := List.mem_filter.mpr ⟨List.mem_append_right _ (List.mem_append_right _ (List.mem_append_right _ (List.mem_of_getElem? (i := 140) rfl))), rfl⟩
set_option maxRecDepth 20000 in
theorem wm_3_107 : Cond.selects RX8 yX8_later yX8_later ∈ pWA := List.mem_filter.mpr ⟨List.mem_append_right _ (List.mem_append_right _ (List.mem_append_right _ (List.mem_of_getElem? (i := 141) rfl))), rfl⟩
set_option maxRecDepth 20000 in
theorem wm_3_108 : Cond.code yX8_later cX8_later 4 (some FieldType.int) ∈ pWA := List.mem_filter.mpr ⟨List.mem_append_right _ (List.mem_append_right _ (List.mem_append_right _ (List.mem_of_getElem? (i := 142) rfl))), rfl⟩
set_option maxRecDepth 20000 in
theorem wn_3_143 : Cond.methodLink RL 92 yX8_setting ∈ pWA := List.mem_filter.mpr ⟨List.mem_append_right _ (List.mem_append_right _ (List.mem_append_right _ (List.mem_of_getElem? (i := 143) rfl))), rfl⟩
set_option maxRecDepth 20000 in
theorem wm_3_75 : Cond.instanceMethod yX8_setting ∈ pWA := List.mem_filter.mpr ⟨List.mem_append_right _ (List.mem_append_right _ (List.mem_append_right _ (List.mem_of_getElem? (i := 144) rfl))), rfl⟩
set_option maxRecDepth 20000 in
theorem wm_3_76 : Cond.selects RX8 yX8_setting yX8_setting ∈ pWA := List.mem_filter.mpr ⟨List.mem_append_right _ (List.mem_append_right _ (List.mem_append_right _ (List.mem_of_getElem? (i := 145) rfl))), rfl⟩
set_option maxRecDepth 20000 in
theorem wm_3_77 : Cond.code yX8_setting cX8_setting 2 (some FieldType.int) ∈ pWA := List.mem_filter.mpr ⟨List.mem_append_right _ (List.mem_append_right _ (List.mem_append_right _ (List.mem_of_getElem? (i := 146) rfl))), rfl⟩
set_option maxRecDepth 20000 in
theorem wn_3_147 : Cond.methodLink RL 118 yL_areAlike ∈ pWA := List.mem_filter.mpr ⟨List.mem_append_right _ (List.mem_append_right _ (List.mem_append_right _ (List.mem_of_getElem? (i := 147) rfl))), rfl⟩
set_option maxRecDepth 20000 in
theorem wn_3_148 : Cond.static yL_areAlike ∈ pWA := List.mem_filter.mpr ⟨List.mem_append_right _ (List.mem_append_right _ (List.mem_append_right _ (List.mem_of_getElem? (i := 148) rfl))), rfl⟩
set_option maxRecDepth 20000 in
theorem wn_3_149 : Cond.code yL_areAlike cL_areAlike 5 (some FieldType.boolean) ∈ pWA := List.mem_filter.mpr ⟨List.mem_append_right _ (List.mem_append_right _ (List.mem_append_right _ (List.mem_of_getElem? (i := 149) rfl))), rfl⟩
set_option maxRecDepth 20000 in
theorem wn_3_150 : Cond.methodLink RL 95 yX8_overflow ∈ pWA := List.mem_filter.mpr ⟨List.mem_append_right _ (List.mem_append_right _ (List.mem_append_right _ (List.mem_of_getElem? (i := 150) rfl))), rfl⟩
set_option maxRecDepth 20000 in
theorem wm_3_111 : Cond.instanceMethod yX8_overflow ∈ pWA := List.mem_filter.mpr ⟨List.mem_append_right _ (List.mem_append_right _ (List.mem_append_right _ (List.mem_of_getElem? (i := 151) rfl))), rfl⟩
set_option maxRecDepth 20000 in
theorem wm_3_112 : Cond.selects RX8 yX8_overflow yX8_overflow ∈ pWA := List.mem_filter.mpr ⟨List.mem_append_right _ (List.mem_append_right _ (List.mem_append_right _ (List.mem_of_getElem? (i := 152) rfl))), rfl⟩
set_option maxRecDepth 20000 in
theorem wm_3_113 : Cond.code yX8_overflow cX8_overflow 2 (some FieldType.int) ∈ pWA := List.mem_filter.mpr ⟨List.mem_append_right _ (List.mem_append_right _ (List.mem_append_right _ (List.mem_of_getElem? (i := 153) rfl))), rfl⟩
set_option maxRecDepth 20000 in
theorem wm_3_114 : Cond.methodLink RX8 230 yX5_tick ∈ pWA := List.mem_filter.mpr ⟨List.mem_append_right _ (List.mem_append_right _ (List.mem_append_right _ (List.mem_of_getElem? (i := 154) rfl))), rfl⟩
set_option maxRecDepth 20000 in
theorem wn_3_155 : Cond.methodLink RL 98 yX8_bestLimit ∈ pWA := List.mem_filter.mpr ⟨List.mem_append_right _ (List.mem_append_right _ (List.mem_append_right _ (List.mem_of_getElem? (i := 155) rfl))), rfl⟩
set_option maxRecDepth 20000 in
theorem wm_3_116 : Cond.instanceMethod yX8_bestLimit ∈ pWA := List.mem_filter.mpr ⟨List.mem_append_right _ (List.mem_append_right _ (List.mem_append_right _ (List.mem_of_getElem? (i := 156) rfl))), rfl⟩
set_option maxRecDepth 20000 in
theorem wm_3_117 : Cond.selects RX8 yX8_bestLimit yX8_bestLimit ∈ pWA := List.mem_filter.mpr ⟨List.mem_append_right _ (List.mem_append_right _ (List.mem_append_right _ (List.mem_of_getElem? (i := 157) rfl))), rfl⟩
set_option maxRecDepth 20000 in
theorem wm_3_118 : Cond.code yX8_bestLimit cX8_bestLimit 6 (some FieldType.int) ∈ pWA := List.mem_filter.mpr ⟨List.mem_append_right _ (List.mem_append_right _ (List.mem_append_right _ (List.mem_of_getElem? (i := 158) rfl))), rfl⟩
set_option maxRecDepth 20000 in
theorem wp_0 : Cond.selects RX6 yX6_skipBlanks yX6_skipBlanks ∈ pWA := List.mem_filter.mpr ⟨List.mem_append_left _ (List.mem_of_getElem? (i := 0) rfl), rfl⟩
set_option maxRecDepth 20000 in
theorem wp_1 : Cond.selects RX6 yX6_codeAt yX6_codeAt ∈ pWA := List.mem_filter.mpr ⟨List.mem_append_left _ (List.mem_of_getElem? (i := 1) rfl), rfl⟩
set_option maxRecDepth 20000 in
theorem wp_2 : Cond.selects RX6 yX6_readEntry yX6_readEntry ∈ pWA := List.mem_filter.mpr ⟨List.mem_append_left _ (List.mem_of_getElem? (i := 2) rfl), rfl⟩
set_option maxRecDepth 20000 in
theorem wp_3 : Cond.selects RX6 yX6_note yX6_note ∈ pWA := List.mem_filter.mpr ⟨List.mem_append_left _ (List.mem_of_getElem? (i := 3) rfl), rfl⟩
set_option maxRecDepth 20000 in
theorem wp_4 : Cond.selects RX6 yX6_readNumber yX6_readNumber ∈ pWA := List.mem_filter.mpr ⟨List.mem_append_left _ (List.mem_of_getElem? (i := 4) rfl), rfl⟩
set_option maxRecDepth 20000 in
theorem wp_5 : Cond.selects RX6 yX6_noteWrongByte yX6_noteWrongByte ∈ pWA := List.mem_filter.mpr ⟨List.mem_append_left _ (List.mem_of_getElem? (i := 5) rfl), rfl⟩
set_option maxRecDepth 20000 in
theorem wp_14 : Cond.selects RX8 yX8_imageAt yX8_imageAt ∈ pWA := List.mem_filter.mpr ⟨List.mem_append_left _ (List.mem_of_getElem? (i := 6) rfl), rfl⟩
set_option maxRecDepth 20000 in
theorem wp_6 : Cond.selects RX5 yX5_carryOutSchedule yX5_carryOutSchedule ∈ pWA := List.mem_filter.mpr ⟨List.mem_append_left _ (List.mem_of_getElem? (i := 7) rfl), rfl⟩
set_option maxRecDepth 20000 in
theorem wp_7 : Cond.selects RX5 yX5_carryOut yX5_carryOut ∈ pWA := List.mem_filter.mpr ⟨List.mem_append_left _ (List.mem_of_getElem? (i := 8) rfl), rfl⟩
set_option maxRecDepth 20000 in
theorem wp_8 : Cond.selects RX5 yX5_feedMixing yX5_feedMixing ∈ pWA := List.mem_filter.mpr ⟨List.mem_append_left _ (List.mem_of_getElem? (i := 9) rfl), rfl⟩
set_option maxRecDepth 20000 in
theorem wp_9 : Cond.selects RX5 yX5_reasonOf yX5_reasonOf ∈ pWA := List.mem_filter.mpr ⟨List.mem_append_left _ (List.mem_of_getElem? (i := 10) rfl), rfl⟩
set_option maxRecDepth 20000 in
theorem wp_10 : Cond.selects RX5 yX5_feedMachine yX5_feedMachine ∈ pWA := List.mem_filter.mpr ⟨List.mem_append_left _ (List.mem_of_getElem? (i := 11) rfl), rfl⟩
set_option maxRecDepth 20000 in
theorem wp_11 : Cond.selects RX5 yX5_makeSheet yX5_makeSheet ∈ pWA := List.mem_filter.mpr ⟨List.mem_append_left _ (List.mem_of_getElem? (i := 12) rfl), rfl⟩
set_option maxRecDepth 20000 in
theorem wp_12 : Cond.selects RX5 yX5_countPaper yX5_countPaper ∈ pWA := List.mem_filter.mpr ⟨List.mem_append_left _ (List.mem_of_getElem? (i := 13) rfl), rfl⟩
set_option maxRecDepth 20000 in
theorem wp_13 : Cond.selects RX5 yX5_noteSums yX5_noteSums ∈ pWA := List.mem_filter.mpr ⟨List.mem_append_left _ (List.mem_of_getElem? (i := 14) rfl), rfl⟩
theorem inX0 : ∀ w ∈ u_ws RX0 TX0 6, w ∈ pWA := by
  intro w hw
  obtain ⟨k, hk, rfl⟩ := List.mem_map.mp hw
  have hk := List.mem_range.mp hk
  match k, hk with
  | 0, _ => exact wm_1_71
  | 1, _ => exact wm_1_73
  | 2, _ => exact wm_1_75
  | 3, _ => exact wm_1_77
  | 4, _ => exact wm_1_79
  | 5, _ => exact wm_1_81
  | k + 6, h => exact absurd h (by omega)
theorem inX1 : ∀ w ∈ u_ws RX1 TX1 4, w ∈ pWA := by
  intro w hw
  obtain ⟨k, hk, rfl⟩ := List.mem_map.mp hw
  have hk := List.mem_range.mp hk
  match k, hk with
  | 0, _ => exact wm_1_40
  | 1, _ => exact wm_1_42
  | 2, _ => exact wm_1_44
  | 3, _ => exact wm_1_46
  | k + 4, h => exact absurd h (by omega)
theorem inX2 : ∀ w ∈ u_ws RX2 TX2 3, w ∈ pWA := by
  intro w hw
  obtain ⟨k, hk, rfl⟩ := List.mem_map.mp hw
  have hk := List.mem_range.mp hk
  match k, hk with
  | 0, _ => exact wm_1_96
  | 1, _ => exact wm_1_98
  | 2, _ => exact wm_1_100
  | k + 3, h => exact absurd h (by omega)
theorem inX3 : ∀ w ∈ u_ws RX3 TX3 3, w ∈ pWA := by
  intro w hw
  obtain ⟨k, hk, rfl⟩ := List.mem_map.mp hw
  have hk := List.mem_range.mp hk
  match k, hk with
  | 0, _ => exact wm_1_224
  | 1, _ => exact wm_1_226
  | 2, _ => exact wm_1_228
  | k + 3, h => exact absurd h (by omega)
theorem inX4 : ∀ w ∈ u_ws RX4 TX4 2, w ∈ pWA := by
  intro w hw
  obtain ⟨k, hk, rfl⟩ := List.mem_map.mp hw
  have hk := List.mem_range.mp hk
  match k, hk with
  | 0, _ => exact wm_2_3
  | 1, _ => exact wm_2_5
  | k + 2, h => exact absurd h (by omega)
theorem inX5 : ∀ w ∈ u_ws RX5 TX5 15, w ∈ pWA := by
  intro w hw
  obtain ⟨k, hk, rfl⟩ := List.mem_map.mp hw
  have hk := List.mem_range.mp hk
  match k, hk with
  | 0, _ => exact wm_1_180
  | 1, _ => exact wm_1_182
  | 2, _ => exact wm_1_184
  | 3, _ => exact wm_1_186
  | 4, _ => exact wm_1_188
  | 5, _ => exact wm_1_190
  | 6, _ => exact wm_1_192
  | 7, _ => exact wm_1_194
  | 8, _ => exact wm_1_196
  | 9, _ => exact wm_1_198
  | 10, _ => exact wm_1_200
  | 11, _ => exact wm_1_202
  | 12, _ => exact wm_1_204
  | 13, _ => exact wm_1_206
  | 14, _ => exact wm_1_208
  | k + 15, h => exact absurd h (by omega)
theorem inX6 : ∀ w ∈ u_ws RX6 TX6 4, w ∈ pWA := by
  intro w hw
  obtain ⟨k, hk, rfl⟩ := List.mem_map.mp hw
  have hk := List.mem_range.mp hk
  match k, hk with
  | 0, _ => exact wm_2_23
  | 1, _ => exact wm_2_25
  | 2, _ => exact wm_2_27
  | 3, _ => exact wm_2_29
  | k + 4, h => exact absurd h (by omega)
theorem inX7 : ∀ w ∈ u_ws RX7 TX7 4, w ∈ pWA := by
  intro w hw
  obtain ⟨k, hk, rfl⟩ := List.mem_map.mp hw
  have hk := List.mem_range.mp hk
  match k, hk with
  | 0, _ => exact wm_1_122
  | 1, _ => exact wm_1_124
  | 2, _ => exact wm_1_126
  | 3, _ => exact wm_1_128
  | k + 4, h => exact absurd h (by omega)
theorem inX8 : ∀ w ∈ u_ws RX8 TX8 10, w ∈ pWA := by
  intro w hw
  obtain ⟨k, hk, rfl⟩ := List.mem_map.mp hw
  have hk := List.mem_range.mp hk
  match k, hk with
  | 0, _ => exact wm_2_42
  | 1, _ => exact wm_2_44
  | 2, _ => exact wm_2_46
  | 3, _ => exact wm_2_48
  | 4, _ => exact wm_2_50
  | 5, _ => exact wm_2_52
  | 6, _ => exact wm_2_54
  | 7, _ => exact wm_2_56
  | 8, _ => exact wm_2_58
  | 9, _ => exact wm_2_60
  | k + 10, h => exact absurd h (by omega)
