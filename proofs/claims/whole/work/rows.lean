section
-- ===== PART A: goes FIRST, ahead of the names: the tables' words, and 'selects' of the private methods out of them =====
/-- a private method of a class that the tables say can be made, by its rows of tables_1 -/
def lw_okq (q : MethodName × Nat) : Prop := (q.1.cls ≠ "java/lang/invoke/MethodHandle" ∧ q.1.cls ≠ "java/lang/invoke/VarHandle") ∧ Cond.instantiable q.1.cls q.2 ∈ tables_1 ∧ Cond.privateMethod q.1 ∈ tables_1 ∧ Cond.instanceMethod q.1 ∈ tables_1
theorem lw_p0 : lw_okq (⟨"BrokeLoop$Reader", "skipBlanks", "([II)V"⟩, 4) := ⟨⟨by decide +kernel, by decide +kernel⟩, List.mem_of_getElem? (i := 249) (by decide +kernel), List.mem_of_getElem? (i := 405) (by decide +kernel), List.mem_of_getElem? (i := 406) (by decide +kernel)⟩
theorem lw_p1 : lw_okq (⟨"BrokeLoop$Reader", "codeAt", "([II)I"⟩, 4) := ⟨⟨by decide +kernel, by decide +kernel⟩, List.mem_of_getElem? (i := 249) (by decide +kernel), List.mem_of_getElem? (i := 409) (by decide +kernel), List.mem_of_getElem? (i := 410) (by decide +kernel)⟩
theorem lw_p2 : lw_okq (⟨"BrokeLoop$Reader", "readEntry", "([II)V"⟩, 4) := ⟨⟨by decide +kernel, by decide +kernel⟩, List.mem_of_getElem? (i := 249) (by decide +kernel), List.mem_of_getElem? (i := 413) (by decide +kernel), List.mem_of_getElem? (i := 414) (by decide +kernel)⟩
theorem lw_p3 : lw_okq (⟨"BrokeLoop$Reader", "note", "(II)V"⟩, 4) := ⟨⟨by decide +kernel, by decide +kernel⟩, List.mem_of_getElem? (i := 249) (by decide +kernel), List.mem_of_getElem? (i := 420) (by decide +kernel), List.mem_of_getElem? (i := 421) (by decide +kernel)⟩
theorem lw_p4 : lw_okq (⟨"BrokeLoop$Reader", "readNumber", "([IIII)I"⟩, 4) := ⟨⟨by decide +kernel, by decide +kernel⟩, List.mem_of_getElem? (i := 249) (by decide +kernel), List.mem_of_getElem? (i := 424) (by decide +kernel), List.mem_of_getElem? (i := 425) (by decide +kernel)⟩
theorem lw_p5 : lw_okq (⟨"BrokeLoop$Reader", "noteWrongByte", "(I)V"⟩, 4) := ⟨⟨by decide +kernel, by decide +kernel⟩, List.mem_of_getElem? (i := 249) (by decide +kernel), List.mem_of_getElem? (i := 431) (by decide +kernel), List.mem_of_getElem? (i := 432) (by decide +kernel)⟩
theorem lw_p6 : lw_okq (⟨"BrokeLoop$Loop", "carryOutSchedule", "()V"⟩, 15) := ⟨⟨by decide +kernel, by decide +kernel⟩, List.mem_of_getElem? (i := 21) (by decide +kernel), List.mem_of_getElem? (i := 462) (by decide +kernel), List.mem_of_getElem? (i := 463) (by decide +kernel)⟩
theorem lw_p7 : lw_okq (⟨"BrokeLoop$Loop", "carryOut", "(II)V"⟩, 15) := ⟨⟨by decide +kernel, by decide +kernel⟩, List.mem_of_getElem? (i := 21) (by decide +kernel), List.mem_of_getElem? (i := 466) (by decide +kernel), List.mem_of_getElem? (i := 467) (by decide +kernel)⟩
theorem lw_p8 : lw_okq (⟨"BrokeLoop$Loop", "feedMixing", "()V"⟩, 15) := ⟨⟨by decide +kernel, by decide +kernel⟩, List.mem_of_getElem? (i := 21) (by decide +kernel), List.mem_of_getElem? (i := 473) (by decide +kernel), List.mem_of_getElem? (i := 474) (by decide +kernel)⟩
theorem lw_p9 : lw_okq (⟨"BrokeLoop$Loop", "reasonOf", "(III)I"⟩, 15) := ⟨⟨by decide +kernel, by decide +kernel⟩, List.mem_of_getElem? (i := 21) (by decide +kernel), List.mem_of_getElem? (i := 484) (by decide +kernel), List.mem_of_getElem? (i := 485) (by decide +kernel)⟩
theorem lw_p10 : lw_okq (⟨"BrokeLoop$Loop", "feedMachine", "()V"⟩, 15) := ⟨⟨by decide +kernel, by decide +kernel⟩, List.mem_of_getElem? (i := 21) (by decide +kernel), List.mem_of_getElem? (i := 488) (by decide +kernel), List.mem_of_getElem? (i := 489) (by decide +kernel)⟩
theorem lw_p11 : lw_okq (⟨"BrokeLoop$Loop", "makeSheet", "()Z"⟩, 15) := ⟨⟨by decide +kernel, by decide +kernel⟩, List.mem_of_getElem? (i := 21) (by decide +kernel), List.mem_of_getElem? (i := 506) (by decide +kernel), List.mem_of_getElem? (i := 507) (by decide +kernel)⟩
theorem lw_p12 : lw_okq (⟨"BrokeLoop$Loop", "countPaper", "(I)V"⟩, 15) := ⟨⟨by decide +kernel, by decide +kernel⟩, List.mem_of_getElem? (i := 21) (by decide +kernel), List.mem_of_getElem? (i := 510) (by decide +kernel), List.mem_of_getElem? (i := 511) (by decide +kernel)⟩
theorem lw_p13 : lw_okq (⟨"BrokeLoop$Loop", "noteSums", "()V"⟩, 15) := ⟨⟨by decide +kernel, by decide +kernel⟩, List.mem_of_getElem? (i := 21) (by decide +kernel), List.mem_of_getElem? (i := 514) (by decide +kernel), List.mem_of_getElem? (i := 515) (by decide +kernel)⟩
theorem lw_p14 : lw_okq (⟨"BrokeLoop", "imageAt", "(I)LBrokeLoop$Image;"⟩, 10) := ⟨⟨by decide +kernel, by decide +kernel⟩, List.mem_of_getElem? (i := 13) (by decide +kernel), List.mem_of_getElem? (i := 604) (by decide +kernel), List.mem_of_getElem? (i := 605) (by decide +kernel)⟩
theorem lw_p15 : lw_okq (⟨"BrokeLoopModel", "lay", "()V"⟩, 22) := ⟨⟨by decide +kernel, by decide +kernel⟩, List.mem_of_getElem? (i := 612) (by decide +kernel), List.mem_of_getElem? (i := 618) (by decide +kernel), List.mem_of_getElem? (i := 619) (by decide +kernel)⟩
def lw_privs_1 : List (MethodName × Nat) := [(⟨"BrokeLoop$Reader", "skipBlanks", "([II)V"⟩, 4), (⟨"BrokeLoop$Reader", "codeAt", "([II)I"⟩, 4), (⟨"BrokeLoop$Reader", "readEntry", "([II)V"⟩, 4), (⟨"BrokeLoop$Reader", "note", "(II)V"⟩, 4), (⟨"BrokeLoop$Reader", "readNumber", "([IIII)I"⟩, 4), (⟨"BrokeLoop$Reader", "noteWrongByte", "(I)V"⟩, 4), (⟨"BrokeLoop$Loop", "carryOutSchedule", "()V"⟩, 15), (⟨"BrokeLoop$Loop", "carryOut", "(II)V"⟩, 15), (⟨"BrokeLoop$Loop", "feedMixing", "()V"⟩, 15), (⟨"BrokeLoop$Loop", "reasonOf", "(III)I"⟩, 15), (⟨"BrokeLoop$Loop", "feedMachine", "()V"⟩, 15), (⟨"BrokeLoop$Loop", "makeSheet", "()Z"⟩, 15), (⟨"BrokeLoop$Loop", "countPaper", "(I)V"⟩, 15), (⟨"BrokeLoop$Loop", "noteSums", "()V"⟩, 15), (⟨"BrokeLoop", "imageAt", "(I)LBrokeLoop$Image;"⟩, 10), (⟨"BrokeLoopModel", "lay", "()V"⟩, 22)]
theorem lw_r1 : ∀ q ∈ lw_privs_1, lw_okq q := List.forall_mem_cons.mpr ⟨lw_p0, List.forall_mem_cons.mpr ⟨lw_p1, List.forall_mem_cons.mpr ⟨lw_p2, List.forall_mem_cons.mpr ⟨lw_p3, List.forall_mem_cons.mpr ⟨lw_p4, List.forall_mem_cons.mpr ⟨lw_p5, List.forall_mem_cons.mpr ⟨lw_p6, List.forall_mem_cons.mpr ⟨lw_p7, List.forall_mem_cons.mpr ⟨lw_p8, List.forall_mem_cons.mpr ⟨lw_p9, List.forall_mem_cons.mpr ⟨lw_p10, List.forall_mem_cons.mpr ⟨lw_p11, List.forall_mem_cons.mpr ⟨lw_p12, List.forall_mem_cons.mpr ⟨lw_p13, List.forall_mem_cons.mpr ⟨lw_p14, List.forall_mem_cons.mpr ⟨lw_p15, fun _ h => absurd h List.not_mem_nil⟩⟩⟩⟩⟩⟩⟩⟩⟩⟩⟩⟩⟩⟩⟩⟩
theorem lw_p16 : lw_okq (⟨"BrokeLoopModel", "remember", "()V"⟩, 22) := ⟨⟨by decide +kernel, by decide +kernel⟩, List.mem_of_getElem? (i := 612) (by decide +kernel), List.mem_of_getElem? (i := 693) (by decide +kernel), List.mem_of_getElem? (i := 694) (by decide +kernel)⟩
theorem lw_p17 : lw_okq (⟨"BrokeLoopModel", "breakSheet", "(I)V"⟩, 22) := ⟨⟨by decide +kernel, by decide +kernel⟩, List.mem_of_getElem? (i := 612) (by decide +kernel), List.mem_of_getElem? (i := 711) (by decide +kernel), List.mem_of_getElem? (i := 712) (by decide +kernel)⟩
theorem lw_p18 : lw_okq (⟨"BrokeLoopModel", "changeGrade", "(I)V"⟩, 22) := ⟨⟨by decide +kernel, by decide +kernel⟩, List.mem_of_getElem? (i := 612) (by decide +kernel), List.mem_of_getElem? (i := 719) (by decide +kernel), List.mem_of_getElem? (i := 720) (by decide +kernel)⟩
theorem lw_p19 : lw_okq (⟨"BrokeLoopModel", "fillInto", "(III)I"⟩, 22) := ⟨⟨by decide +kernel, by decide +kernel⟩, List.mem_of_getElem? (i := 612) (by decide +kernel), List.mem_of_getElem? (i := 731) (by decide +kernel), List.mem_of_getElem? (i := 732) (by decide +kernel)⟩
theorem lw_p20 : lw_okq (⟨"BrokeLoopModel", "sum", "(I)I"⟩, 22) := ⟨⟨by decide +kernel, by decide +kernel⟩, List.mem_of_getElem? (i := 612) (by decide +kernel), List.mem_of_getElem? (i := 735) (by decide +kernel), List.mem_of_getElem? (i := 736) (by decide +kernel)⟩
theorem lw_p21 : lw_okq (⟨"BrokeLoopModel", "takeFrom", "(II)V"⟩, 22) := ⟨⟨by decide +kernel, by decide +kernel⟩, List.mem_of_getElem? (i := 612) (by decide +kernel), List.mem_of_getElem? (i := 742) (by decide +kernel), List.mem_of_getElem? (i := 743) (by decide +kernel)⟩
theorem lw_p22 : lw_okq (⟨"BrokeLoopModel", "readText", "()V"⟩, 22) := ⟨⟨by decide +kernel, by decide +kernel⟩, List.mem_of_getElem? (i := 612) (by decide +kernel), List.mem_of_getElem? (i := 754) (by decide +kernel), List.mem_of_getElem? (i := 755) (by decide +kernel)⟩
theorem lw_p23 : lw_okq (⟨"BrokeLoopModel", "fails", "(II)V"⟩, 22) := ⟨⟨by decide +kernel, by decide +kernel⟩, List.mem_of_getElem? (i := 612) (by decide +kernel), List.mem_of_getElem? (i := 758) (by decide +kernel), List.mem_of_getElem? (i := 759) (by decide +kernel)⟩
theorem lw_p24 : lw_okq (⟨"BrokeLoopModel", "readDigit", "(I)V"⟩, 22) := ⟨⟨by decide +kernel, by decide +kernel⟩, List.mem_of_getElem? (i := 612) (by decide +kernel), List.mem_of_getElem? (i := 762) (by decide +kernel), List.mem_of_getElem? (i := 763) (by decide +kernel)⟩
theorem lw_p25 : lw_okq (⟨"BrokeLoopModel", "readOther", "(I)V"⟩, 22) := ⟨⟨by decide +kernel, by decide +kernel⟩, List.mem_of_getElem? (i := 612) (by decide +kernel), List.mem_of_getElem? (i := 766) (by decide +kernel), List.mem_of_getElem? (i := 767) (by decide +kernel)⟩
theorem lw_p26 : lw_okq (⟨"BrokeLoopModel", "isWell", "()Z"⟩, 22) := ⟨⟨by decide +kernel, by decide +kernel⟩, List.mem_of_getElem? (i := 612) (by decide +kernel), List.mem_of_getElem? (i := 770) (by decide +kernel), List.mem_of_getElem? (i := 771) (by decide +kernel)⟩
theorem lw_p27 : lw_okq (⟨"BrokeLoopModel", "endEntry", "()V"⟩, 22) := ⟨⟨by decide +kernel, by decide +kernel⟩, List.mem_of_getElem? (i := 612) (by decide +kernel), List.mem_of_getElem? (i := 777) (by decide +kernel), List.mem_of_getElem? (i := 778) (by decide +kernel)⟩
theorem lw_p28 : lw_okq (⟨"BrokeLoopModel", "allPaper", "()I"⟩, 22) := ⟨⟨by decide +kernel, by decide +kernel⟩, List.mem_of_getElem? (i := 612) (by decide +kernel), List.mem_of_getElem? (i := 785) (by decide +kernel), List.mem_of_getElem? (i := 786) (by decide +kernel)⟩
theorem lw_p29 : lw_okq (⟨"BrokeLoopModel", "tick", "()V"⟩, 22) := ⟨⟨by decide +kernel, by decide +kernel⟩, List.mem_of_getElem? (i := 612) (by decide +kernel), List.mem_of_getElem? (i := 789) (by decide +kernel), List.mem_of_getElem? (i := 790) (by decide +kernel)⟩
theorem lw_p30 : lw_okq (⟨"BrokeLoopModel", "carryOut", "()V"⟩, 22) := ⟨⟨by decide +kernel, by decide +kernel⟩, List.mem_of_getElem? (i := 612) (by decide +kernel), List.mem_of_getElem? (i := 793) (by decide +kernel), List.mem_of_getElem? (i := 794) (by decide +kernel)⟩
theorem lw_p31 : lw_okq (⟨"BrokeLoopModel", "mix", "()V"⟩, 22) := ⟨⟨by decide +kernel, by decide +kernel⟩, List.mem_of_getElem? (i := 612) (by decide +kernel), List.mem_of_getElem? (i := 797) (by decide +kernel), List.mem_of_getElem? (i := 798) (by decide +kernel)⟩
def lw_privs_2 : List (MethodName × Nat) := [(⟨"BrokeLoopModel", "remember", "()V"⟩, 22), (⟨"BrokeLoopModel", "breakSheet", "(I)V"⟩, 22), (⟨"BrokeLoopModel", "changeGrade", "(I)V"⟩, 22), (⟨"BrokeLoopModel", "fillInto", "(III)I"⟩, 22), (⟨"BrokeLoopModel", "sum", "(I)I"⟩, 22), (⟨"BrokeLoopModel", "takeFrom", "(II)V"⟩, 22), (⟨"BrokeLoopModel", "readText", "()V"⟩, 22), (⟨"BrokeLoopModel", "fails", "(II)V"⟩, 22), (⟨"BrokeLoopModel", "readDigit", "(I)V"⟩, 22), (⟨"BrokeLoopModel", "readOther", "(I)V"⟩, 22), (⟨"BrokeLoopModel", "isWell", "()Z"⟩, 22), (⟨"BrokeLoopModel", "endEntry", "()V"⟩, 22), (⟨"BrokeLoopModel", "allPaper", "()I"⟩, 22), (⟨"BrokeLoopModel", "tick", "()V"⟩, 22), (⟨"BrokeLoopModel", "carryOut", "()V"⟩, 22), (⟨"BrokeLoopModel", "mix", "()V"⟩, 22)]
theorem lw_r2 : ∀ q ∈ lw_privs_2, lw_okq q := List.forall_mem_cons.mpr ⟨lw_p16, List.forall_mem_cons.mpr ⟨lw_p17, List.forall_mem_cons.mpr ⟨lw_p18, List.forall_mem_cons.mpr ⟨lw_p19, List.forall_mem_cons.mpr ⟨lw_p20, List.forall_mem_cons.mpr ⟨lw_p21, List.forall_mem_cons.mpr ⟨lw_p22, List.forall_mem_cons.mpr ⟨lw_p23, List.forall_mem_cons.mpr ⟨lw_p24, List.forall_mem_cons.mpr ⟨lw_p25, List.forall_mem_cons.mpr ⟨lw_p26, List.forall_mem_cons.mpr ⟨lw_p27, List.forall_mem_cons.mpr ⟨lw_p28, List.forall_mem_cons.mpr ⟨lw_p29, List.forall_mem_cons.mpr ⟨lw_p30, List.forall_mem_cons.mpr ⟨lw_p31, fun _ h => absurd h List.not_mem_nil⟩⟩⟩⟩⟩⟩⟩⟩⟩⟩⟩⟩⟩⟩⟩⟩
theorem lw_p32 : lw_okq (⟨"BrokeLoopModel", "thin", "()V"⟩, 22) := ⟨⟨by decide +kernel, by decide +kernel⟩, List.mem_of_getElem? (i := 612) (by decide +kernel), List.mem_of_getElem? (i := 801) (by decide +kernel), List.mem_of_getElem? (i := 802) (by decide +kernel)⟩
theorem lw_p33 : lw_okq (⟨"BrokeLoopModel", "control", "()V"⟩, 22) := ⟨⟨by decide +kernel, by decide +kernel⟩, List.mem_of_getElem? (i := 612) (by decide +kernel), List.mem_of_getElem? (i := 805) (by decide +kernel), List.mem_of_getElem? (i := 806) (by decide +kernel)⟩
theorem lw_p34 : lw_okq (⟨"BrokeLoopModel", "consistency", "(I)I"⟩, 22) := ⟨⟨by decide +kernel, by decide +kernel⟩, List.mem_of_getElem? (i := 612) (by decide +kernel), List.mem_of_getElem? (i := 809) (by decide +kernel), List.mem_of_getElem? (i := 810) (by decide +kernel)⟩
theorem lw_p35 : lw_okq (⟨"BrokeLoopModel", "makePaper", "()V"⟩, 22) := ⟨⟨by decide +kernel, by decide +kernel⟩, List.mem_of_getElem? (i := 612) (by decide +kernel), List.mem_of_getElem? (i := 813) (by decide +kernel), List.mem_of_getElem? (i := 814) (by decide +kernel)⟩
theorem lw_p36 : lw_okq (⟨"BrokeLoopModel", "entriesAhead", "()I"⟩, 22) := ⟨⟨by decide +kernel, by decide +kernel⟩, List.mem_of_getElem? (i := 612) (by decide +kernel), List.mem_of_getElem? (i := 837) (by decide +kernel), List.mem_of_getElem? (i := 838) (by decide +kernel)⟩
theorem lw_p37 : lw_okq (⟨"BrokeLoopModel", "inChests", "()I"⟩, 22) := ⟨⟨by decide +kernel, by decide +kernel⟩, List.mem_of_getElem? (i := 612) (by decide +kernel), List.mem_of_getElem? (i := 853) (by decide +kernel), List.mem_of_getElem? (i := 854) (by decide +kernel)⟩
theorem lw_p38 : lw_okq (⟨"BrokeLoopModel", "hold", "()V"⟩, 22) := ⟨⟨by decide +kernel, by decide +kernel⟩, List.mem_of_getElem? (i := 612) (by decide +kernel), List.mem_of_getElem? (i := 873) (by decide +kernel), List.mem_of_getElem? (i := 874) (by decide +kernel)⟩
theorem lw_p39 : lw_okq (⟨"BrokeLoopModel", "restore", "()V"⟩, 22) := ⟨⟨by decide +kernel, by decide +kernel⟩, List.mem_of_getElem? (i := 612) (by decide +kernel), List.mem_of_getElem? (i := 877) (by decide +kernel), List.mem_of_getElem? (i := 878) (by decide +kernel)⟩
def lw_privs_3 : List (MethodName × Nat) := [(⟨"BrokeLoopModel", "thin", "()V"⟩, 22), (⟨"BrokeLoopModel", "control", "()V"⟩, 22), (⟨"BrokeLoopModel", "consistency", "(I)I"⟩, 22), (⟨"BrokeLoopModel", "makePaper", "()V"⟩, 22), (⟨"BrokeLoopModel", "entriesAhead", "()I"⟩, 22), (⟨"BrokeLoopModel", "inChests", "()I"⟩, 22), (⟨"BrokeLoopModel", "hold", "()V"⟩, 22), (⟨"BrokeLoopModel", "restore", "()V"⟩, 22)]
theorem lw_r3 : ∀ q ∈ lw_privs_3, lw_okq q := List.forall_mem_cons.mpr ⟨lw_p32, List.forall_mem_cons.mpr ⟨lw_p33, List.forall_mem_cons.mpr ⟨lw_p34, List.forall_mem_cons.mpr ⟨lw_p35, List.forall_mem_cons.mpr ⟨lw_p36, List.forall_mem_cons.mpr ⟨lw_p37, List.forall_mem_cons.mpr ⟨lw_p38, List.forall_mem_cons.mpr ⟨lw_p39, fun _ h => absurd h List.not_mem_nil⟩⟩⟩⟩⟩⟩⟩⟩
def lw_privs : List (MethodName × Nat) := lw_privs_1 ++ (lw_privs_2 ++ (lw_privs_3))
def lw_tbl : List Cond := k2_sels lw_privs ++ tables_1
theorem lw_privs_ok : ∀ q ∈ lw_privs, lw_okq q := by
  show ∀ q ∈ lw_privs_1 ++ (lw_privs_2 ++ (lw_privs_3)), lw_okq q
  exact List.forall_mem_append.mpr ⟨lw_r1, List.forall_mem_append.mpr ⟨lw_r2, lw_r3⟩⟩
/-- the streams that the claim lets the run draw from -/
abbrev lw_cs : List Choice := [Jvm.Choice.named "NaN.bits"]
theorem lw_bits : nanBits ∈ lw_cs := by first | decide | exact List.mem_cons_self | simp [lw_cs, nanBits]
end
section
/-! ===== BEGIN printed: names, fields, word lists, decode rows ===== -/
def RX0 : String := "BrokeLoop$Account"
def TX0 : u_T := fun k => match k with
  | 0 => ("BrokeLoop$Account", "inflow", "I", false)
  | 1 => ("BrokeLoop$Account", "given", "I", false)
  | 2 => ("BrokeLoop$Account", "spilled", "I", false)
  | 3 => ("BrokeLoop$Account", "drained", "I", false)
  | 4 => ("BrokeLoop$Account", "broke", "I", false)
  | _ => ("BrokeLoop$Account", "paper", "[I", true)
def tyX0 : Nat → FieldType := fun k => match k with
  | 0 => .int
  | 1 => .int
  | 2 => .int
  | 3 => .int
  | 4 => .int
  | _ => .array .int
theorem nmX0 : ∀ a, a < 6 → ∀ b, b < 6 → a ≠ b → (TX0 a).2.1 ≠ (TX0 b).2.1 := by decide +kernel
theorem tyX0_ok : ∀ k, k < 6 → parseFieldDescriptor (TX0 k).2.2.1 = some (tyX0 k) := by decide +kernel
abbrev cX0_init : ByteArray := prog_2_method_1_code
def yX0_init : MethodName := ⟨RX0, "<init>", "()V"⟩
abbrev cX0_clear : ByteArray := prog_2_method_2_code
def yX0_clear : MethodName := ⟨RX0, "clear", "()V"⟩
abbrev cX0_copyFrom : ByteArray := prog_2_method_3_code
def yX0_copyFrom : MethodName := ⟨RX0, "copyFrom", "(LBrokeLoop$Account;)V"⟩
abbrev cX0_paperOfAll : ByteArray := prog_2_method_4_code
def yX0_paperOfAll : MethodName := ⟨RX0, "paperOfAll", "()I"⟩
def RX1 : String := "BrokeLoop$Chest"
def TX1 : u_T := fun k => match k with
  | 0 => ("BrokeLoop$Chest", "room", "I", true)
  | 1 => ("BrokeLoop$Chest", "fibre", "I", false)
  | 2 => ("BrokeLoop$Chest", "water", "I", false)
  | _ => ("BrokeLoop$Chest", "greatest", "I", false)
def tyX1 : Nat → FieldType := fun k => match k with
  | 0 => .int
  | 1 => .int
  | 2 => .int
  | _ => .int
theorem nmX1 : ∀ a, a < 4 → ∀ b, b < 4 → a ≠ b → (TX1 a).2.1 ≠ (TX1 b).2.1 := by decide +kernel
theorem tyX1_ok : ∀ k, k < 4 → parseFieldDescriptor (TX1 k).2.2.1 = some (tyX1 k) := by decide +kernel
abbrev cX1_init : ByteArray := prog_3_method_1_code
def yX1_init : MethodName := ⟨RX1, "<init>", "(I)V"⟩
abbrev cX1_startWith : ByteArray := prog_3_method_2_code
def yX1_startWith : MethodName := ⟨RX1, "startWith", "(II)V"⟩
abbrev cX1_copyFrom : ByteArray := prog_3_method_3_code
def yX1_copyFrom : MethodName := ⟨RX1, "copyFrom", "(LBrokeLoop$Chest;)V"⟩
abbrev cX1_missing : ByteArray := prog_3_method_4_code
def yX1_missing : MethodName := ⟨RX1, "missing", "()I"⟩
abbrev cX1_consistency : ByteArray := prog_3_method_5_code
def yX1_consistency : MethodName := ⟨RX1, "consistency", "()I"⟩
abbrev cX1_there : ByteArray := prog_3_method_6_code
def yX1_there : MethodName := ⟨RX1, "there", "(I)I"⟩
abbrev cX1_takeOut : ByteArray := prog_3_method_7_code
def yX1_takeOut : MethodName := ⟨RX1, "takeOut", "(I)I"⟩
abbrev cX1_putIn : ByteArray := prog_3_method_8_code
def yX1_putIn : MethodName := ⟨RX1, "putIn", "(II)I"⟩
abbrev cX1_noteSum : ByteArray := prog_3_method_9_code
def yX1_noteSum : MethodName := ⟨RX1, "noteSum", "()V"⟩
def RX2 : String := "BrokeLoop$Controller"
def TX2 : u_T := fun k => match k with
  | 0 => ("BrokeLoop$Controller", "valve", "I", false)
  | 1 => ("BrokeLoop$Controller", "measured", "[I", true)
  | _ => ("BrokeLoop$Controller", "size", "I", false)
def tyX2 : Nat → FieldType := fun k => match k with
  | 0 => .int
  | 1 => .array .int
  | _ => .int
theorem nmX2 : ∀ a, a < 3 → ∀ b, b < 3 → a ≠ b → (TX2 a).2.1 ≠ (TX2 b).2.1 := by decide +kernel
theorem tyX2_ok : ∀ k, k < 3 → parseFieldDescriptor (TX2 k).2.2.1 = some (tyX2 k) := by decide +kernel
abbrev cX2_init : ByteArray := prog_4_method_1_code
def yX2_init : MethodName := ⟨RX2, "<init>", "()V"⟩
abbrev cX2_clear : ByteArray := prog_4_method_2_code
def yX2_clear : MethodName := ⟨RX2, "clear", "()V"⟩
abbrev cX2_copyFrom : ByteArray := prog_4_method_3_code
def yX2_copyFrom : MethodName := ⟨RX2, "copyFrom", "(LBrokeLoop$Controller;)V"⟩
abbrev cX2_latest : ByteArray := prog_4_method_4_code
def yX2_latest : MethodName := ⟨RX2, "latest", "()I"⟩
abbrev cX2_measure : ByteArray := prog_4_method_5_code
def yX2_measure : MethodName := ⟨RX2, "measure", "(I)V"⟩
abbrev cX2_control : ByteArray := prog_4_method_6_code
def yX2_control : MethodName := ⟨RX2, "control", "(III)V"⟩
def RX3 : String := "BrokeLoop$History"
def TX3 : u_T := fun k => match k with
  | 0 => ("BrokeLoop$History", "states", "[LBrokeLoop$Loop;", true)
  | 1 => ("BrokeLoop$History", "newest", "I", false)
  | _ => ("BrokeLoop$History", "size", "I", false)
def tyX3 : Nat → FieldType := fun k => match k with
  | 0 => .array (.object "BrokeLoop$Loop")
  | 1 => .int
  | _ => .int
theorem nmX3 : ∀ a, a < 3 → ∀ b, b < 3 → a ≠ b → (TX3 a).2.1 ≠ (TX3 b).2.1 := by decide +kernel
theorem tyX3_ok : ∀ k, k < 3 → parseFieldDescriptor (TX3 k).2.2.1 = some (tyX3 k) := by decide +kernel
abbrev cX3_init : ByteArray := prog_5_method_1_code
def yX3_init : MethodName := ⟨RX3, "<init>", "()V"⟩
abbrev cX3_remember : ByteArray := prog_5_method_2_code
def yX3_remember : MethodName := ⟨RX3, "remember", "(LBrokeLoop$Loop;)V"⟩
abbrev cX3_restore : ByteArray := prog_5_method_3_code
def yX3_restore : MethodName := ⟨RX3, "restore", "(LBrokeLoop$Loop;)V"⟩
def RX4 : String := "BrokeLoop$Image"
def TX4 : u_T := fun k => match k with
  | 0 => ("BrokeLoop$Image", "state", "LBrokeLoop$Loop;", true)
  | _ => ("BrokeLoop$Image", "kept", "Z", false)
def tyX4 : Nat → FieldType := fun k => match k with
  | 0 => .object "BrokeLoop$Loop"
  | _ => .boolean
theorem nmX4 : ∀ a, a < 2 → ∀ b, b < 2 → a ≠ b → (TX4 a).2.1 ≠ (TX4 b).2.1 := by decide +kernel
theorem tyX4_ok : ∀ k, k < 2 → parseFieldDescriptor (TX4 k).2.2.1 = some (tyX4 k) := by decide +kernel
abbrev cX4_init : ByteArray := prog_6_method_1_code
def yX4_init : MethodName := ⟨RX4, "<init>", "()V"⟩
def RX5 : String := "BrokeLoop$Loop"
def TX5 : u_T := fun k => match k with
  | 0 => ("BrokeLoop$Loop", "clock", "I", false)
  | 1 => ("BrokeLoop$Loop", "grade", "I", false)
  | 2 => ("BrokeLoop$Loop", "broken", "I", false)
  | 3 => ("BrokeLoop$Loop", "offGrade", "I", false)
  | 4 => ("BrokeLoop$Loop", "brokeGrade", "I", false)
  | 5 => ("BrokeLoop$Loop", "reason", "I", false)
  | 6 => ("BrokeLoop$Loop", "lostTicks", "I", false)
  | 7 => ("BrokeLoop$Loop", "pulp", "LBrokeLoop$Chest;", true)
  | 8 => ("BrokeLoop$Loop", "broke", "LBrokeLoop$Chest;", true)
  | 9 => ("BrokeLoop$Loop", "mixing", "LBrokeLoop$Chest;", true)
  | 10 => ("BrokeLoop$Loop", "machine", "LBrokeLoop$Chest;", true)
  | 11 => ("BrokeLoop$Loop", "account", "LBrokeLoop$Account;", true)
  | 12 => ("BrokeLoop$Loop", "controller", "LBrokeLoop$Controller;", true)
  | 13 => ("BrokeLoop$Loop", "schedule", "LBrokeLoop$Schedule;", true)
  | _ => ("BrokeLoop$Loop", "settings", "[I", true)
def tyX5 : Nat → FieldType := fun k => match k with
  | 0 => .int
  | 1 => .int
  | 2 => .int
  | 3 => .int
  | 4 => .int
  | 5 => .int
  | 6 => .int
  | 7 => .object "BrokeLoop$Chest"
  | 8 => .object "BrokeLoop$Chest"
  | 9 => .object "BrokeLoop$Chest"
  | 10 => .object "BrokeLoop$Chest"
  | 11 => .object "BrokeLoop$Account"
  | 12 => .object "BrokeLoop$Controller"
  | 13 => .object "BrokeLoop$Schedule"
  | _ => .array .int
theorem nmX5 : ∀ a, a < 15 → ∀ b, b < 15 → a ≠ b → (TX5 a).2.1 ≠ (TX5 b).2.1 := by decide +kernel
theorem tyX5_ok : ∀ k, k < 15 → parseFieldDescriptor (TX5 k).2.2.1 = some (tyX5 k) := by decide +kernel
abbrev cX5_init : ByteArray := prog_7_method_1_code
def yX5_init : MethodName := ⟨RX5, "<init>", "()V"⟩
abbrev cX5_startAnew : ByteArray := prog_7_method_2_code
def yX5_startAnew : MethodName := ⟨RX5, "startAnew", "()V"⟩
abbrev cX5_copyFrom : ByteArray := prog_7_method_3_code
def yX5_copyFrom : MethodName := ⟨RX5, "copyFrom", "(LBrokeLoop$Loop;)V"⟩
abbrev cX5_chestAt : ByteArray := prog_7_method_4_code
def yX5_chestAt : MethodName := ⟨RX5, "chestAt", "(I)LBrokeLoop$Chest;"⟩
abbrev cX5_fibreNow : ByteArray := prog_7_method_5_code
def yX5_fibreNow : MethodName := ⟨RX5, "fibreNow", "()I"⟩
abbrev cX5_breakSheet : ByteArray := prog_7_method_6_code
def yX5_breakSheet : MethodName := ⟨RX5, "breakSheet", "(I)V"⟩
abbrev cX5_turnTo : ByteArray := prog_7_method_7_code
def yX5_turnTo : MethodName := ⟨RX5, "turnTo", "(I)V"⟩
abbrev cX5_pour : ByteArray := prog_7_method_8_code
def yX5_pour : MethodName := ⟨RX5, "pour", "(LBrokeLoop$Chest;II)I"⟩
abbrev cX5_doTicks : ByteArray := prog_7_method_9_code
def yX5_doTicks : MethodName := ⟨RX5, "doTicks", "(I)I"⟩
abbrev cX5_tick : ByteArray := prog_7_method_10_code
def yX5_tick : MethodName := ⟨RX5, "tick", "()Z"⟩
abbrev cX5_carryOutSchedule : ByteArray := prog_7_method_11_code
def yX5_carryOutSchedule : MethodName := ⟨RX5, "carryOutSchedule", "()V"⟩
abbrev cX5_carryOut : ByteArray := prog_7_method_12_code
def yX5_carryOut : MethodName := ⟨RX5, "carryOut", "(II)V"⟩
abbrev cX5_feedMixing : ByteArray := prog_7_method_13_code
def yX5_feedMixing : MethodName := ⟨RX5, "feedMixing", "()V"⟩
abbrev cX5_reasonOf : ByteArray := prog_7_method_14_code
def yX5_reasonOf : MethodName := ⟨RX5, "reasonOf", "(III)I"⟩
abbrev cX5_feedMachine : ByteArray := prog_7_method_15_code
def yX5_feedMachine : MethodName := ⟨RX5, "feedMachine", "()V"⟩
abbrev cX5_makeSheet : ByteArray := prog_7_method_16_code
def yX5_makeSheet : MethodName := ⟨RX5, "makeSheet", "()Z"⟩
abbrev cX5_countPaper : ByteArray := prog_7_method_17_code
def yX5_countPaper : MethodName := ⟨RX5, "countPaper", "(I)V"⟩
abbrev cX5_noteSums : ByteArray := prog_7_method_18_code
def yX5_noteSums : MethodName := ⟨RX5, "noteSums", "()V"⟩
def RX6 : String := "BrokeLoop$Reader"
def TX6 : u_T := fun k => match k with
  | 0 => ("BrokeLoop$Reader", "found", "LBrokeLoop$Schedule;", true)
  | 1 => ("BrokeLoop$Reader", "kind", "I", false)
  | 2 => ("BrokeLoop$Reader", "place", "I", false)
  | _ => ("BrokeLoop$Reader", "at", "I", false)
def tyX6 : Nat → FieldType := fun k => match k with
  | 0 => .object "BrokeLoop$Schedule"
  | 1 => .int
  | 2 => .int
  | _ => .int
theorem nmX6 : ∀ a, a < 4 → ∀ b, b < 4 → a ≠ b → (TX6 a).2.1 ≠ (TX6 b).2.1 := by decide +kernel
theorem tyX6_ok : ∀ k, k < 4 → parseFieldDescriptor (TX6 k).2.2.1 = some (tyX6 k) := by decide +kernel
abbrev cX6_init : ByteArray := prog_8_method_1_code
def yX6_init : MethodName := ⟨RX6, "<init>", "()V"⟩
abbrev cX6_read : ByteArray := prog_8_method_2_code
def yX6_read : MethodName := ⟨RX6, "read", "([II)V"⟩
abbrev cX6_skipBlanks : ByteArray := prog_8_method_3_code
def yX6_skipBlanks : MethodName := ⟨RX6, "skipBlanks", "([II)V"⟩
abbrev cX6_readEntry : ByteArray := prog_8_method_4_code
def yX6_readEntry : MethodName := ⟨RX6, "readEntry", "([II)V"⟩
abbrev cX6_readNumber : ByteArray := prog_8_method_5_code
def yX6_readNumber : MethodName := ⟨RX6, "readNumber", "([IIII)I"⟩
abbrev cX6_codeAt : ByteArray := prog_8_method_6_code
def yX6_codeAt : MethodName := ⟨RX6, "codeAt", "([II)I"⟩
abbrev cX6_noteWrongByte : ByteArray := prog_8_method_7_code
def yX6_noteWrongByte : MethodName := ⟨RX6, "noteWrongByte", "(I)V"⟩
abbrev cX6_note : ByteArray := prog_8_method_8_code
def yX6_note : MethodName := ⟨RX6, "note", "(II)V"⟩
abbrev cX6_isDigit : ByteArray := prog_8_method_9_code
def yX6_isDigit : MethodName := ⟨RX6, "isDigit", "(I)Z"⟩
abbrev cX6_kindOf : ByteArray := prog_8_method_10_code
def yX6_kindOf : MethodName := ⟨RX6, "kindOf", "(I)I"⟩
abbrev cX6_leastOf : ByteArray := prog_8_method_11_code
def yX6_leastOf : MethodName := ⟨RX6, "leastOf", "(I)I"⟩
abbrev cX6_mostOf : ByteArray := prog_8_method_12_code
def yX6_mostOf : MethodName := ⟨RX6, "mostOf", "(I)I"⟩
def RX7 : String := "BrokeLoop$Schedule"
def TX7 : u_T := fun k => match k with
  | 0 => ("BrokeLoop$Schedule", "times", "[I", true)
  | 1 => ("BrokeLoop$Schedule", "kinds", "[I", true)
  | 2 => ("BrokeLoop$Schedule", "numbers", "[I", true)
  | _ => ("BrokeLoop$Schedule", "size", "I", false)
def tyX7 : Nat → FieldType := fun k => match k with
  | 0 => .array .int
  | 1 => .array .int
  | 2 => .array .int
  | _ => .int
theorem nmX7 : ∀ a, a < 4 → ∀ b, b < 4 → a ≠ b → (TX7 a).2.1 ≠ (TX7 b).2.1 := by decide +kernel
theorem tyX7_ok : ∀ k, k < 4 → parseFieldDescriptor (TX7 k).2.2.1 = some (tyX7 k) := by decide +kernel
abbrev cX7_init : ByteArray := prog_9_method_1_code
def yX7_init : MethodName := ⟨RX7, "<init>", "()V"⟩
abbrev cX7_copyFrom : ByteArray := prog_9_method_2_code
def yX7_copyFrom : MethodName := ⟨RX7, "copyFrom", "(LBrokeLoop$Schedule;)V"⟩
abbrev cX7_insert : ByteArray := prog_9_method_3_code
def yX7_insert : MethodName := ⟨RX7, "insert", "(III)V"⟩
abbrev cX7_countAfter : ByteArray := prog_9_method_4_code
def yX7_countAfter : MethodName := ⟨RX7, "countAfter", "(I)I"⟩
def RX8 : String := "BrokeLoop"
def TX8 : u_T := fun k => match k with
  | 0 => ("BrokeLoop", "loop", "LBrokeLoop$Loop;", true)
  | 1 => ("BrokeLoop", "trial", "LBrokeLoop$Loop;", true)
  | 2 => ("BrokeLoop", "history", "LBrokeLoop$History;", true)
  | 3 => ("BrokeLoop", "firstImage", "LBrokeLoop$Image;", true)
  | 4 => ("BrokeLoop", "secondImage", "LBrokeLoop$Image;", true)
  | 5 => ("BrokeLoop", "text", "[I", true)
  | 6 => ("BrokeLoop", "textLength", "I", false)
  | 7 => ("BrokeLoop", "reader", "LBrokeLoop$Reader;", true)
  | 8 => ("BrokeLoop", "faultKind", "I", false)
  | _ => ("BrokeLoop", "faultPlace", "I", false)
def tyX8 : Nat → FieldType := fun k => match k with
  | 0 => .object "BrokeLoop$Loop"
  | 1 => .object "BrokeLoop$Loop"
  | 2 => .object "BrokeLoop$History"
  | 3 => .object "BrokeLoop$Image"
  | 4 => .object "BrokeLoop$Image"
  | 5 => .array .int
  | 6 => .int
  | 7 => .object "BrokeLoop$Reader"
  | 8 => .int
  | _ => .int
theorem nmX8 : ∀ a, a < 10 → ∀ b, b < 10 → a ≠ b → (TX8 a).2.1 ≠ (TX8 b).2.1 := by decide +kernel
theorem tyX8_ok : ∀ k, k < 10 → parseFieldDescriptor (TX8 k).2.2.1 = some (tyX8 k) := by decide +kernel
abbrev cX8_init : ByteArray := prog_1_method_1_code
def yX8_init : MethodName := ⟨RX8, "<init>", "()V"⟩
abbrev cX8_begin : ByteArray := prog_1_method_2_code
def yX8_begin : MethodName := ⟨RX8, "begin", "()I"⟩
abbrev cX8_set : ByteArray := prog_1_method_3_code
def yX8_set : MethodName := ⟨RX8, "set", "(II)I"⟩
abbrev cX8_tear : ByteArray := prog_1_method_4_code
def yX8_tear : MethodName := ⟨RX8, "tear", "(I)I"⟩
abbrev cX8_change : ByteArray := prog_1_method_5_code
def yX8_change : MethodName := ⟨RX8, "change", "(I)I"⟩
abbrev cX8_fill : ByteArray := prog_1_method_6_code
def yX8_fill : MethodName := ⟨RX8, "fill", "(III)I"⟩
abbrev cX8_drain : ByteArray := prog_1_method_7_code
def yX8_drain : MethodName := ⟨RX8, "drain", "(II)I"⟩
abbrev cX8_plan : ByteArray := prog_1_method_8_code
def yX8_plan : MethodName := ⟨RX8, "plan", "()I"⟩
abbrev cX8_run : ByteArray := prog_1_method_9_code
def yX8_run : MethodName := ⟨RX8, "run", "(I)I"⟩
abbrev cX8_undo : ByteArray := prog_1_method_10_code
def yX8_undo : MethodName := ⟨RX8, "undo", "()I"⟩
abbrev cX8_write : ByteArray := prog_1_method_11_code
def yX8_write : MethodName := ⟨RX8, "write", "(I)I"⟩
abbrev cX8_wipe : ByteArray := prog_1_method_12_code
def yX8_wipe : MethodName := ⟨RX8, "wipe", "()I"⟩
abbrev cX8_fault : ByteArray := prog_1_method_13_code
def yX8_fault : MethodName := ⟨RX8, "fault", "(I)I"⟩
abbrev cX8_told : ByteArray := prog_1_method_14_code
def yX8_told : MethodName := ⟨RX8, "told", "(I)I"⟩
abbrev cX8_setting : ByteArray := prog_1_method_15_code
def yX8_setting : MethodName := ⟨RX8, "setting", "(I)I"⟩
abbrev cX8_chest : ByteArray := prog_1_method_16_code
def yX8_chest : MethodName := ⟨RX8, "chest", "(II)I"⟩
abbrev cX8_account : ByteArray := prog_1_method_17_code
def yX8_account : MethodName := ⟨RX8, "account", "(I)I"⟩
abbrev cX8_paper : ByteArray := prog_1_method_18_code
def yX8_paper : MethodName := ⟨RX8, "paper", "(I)I"⟩
abbrev cX8_entry : ByteArray := prog_1_method_19_code
def yX8_entry : MethodName := ⟨RX8, "entry", "(II)I"⟩
abbrev cX8_paperShare : ByteArray := prog_1_method_20_code
def yX8_paperShare : MethodName := ⟨RX8, "paperShare", "()F"⟩
abbrev cX8_later : ByteArray := prog_1_method_21_code
def yX8_later : MethodName := ⟨RX8, "later", "(II)I"⟩
abbrev cX8_overflow : ByteArray := prog_1_method_22_code
def yX8_overflow : MethodName := ⟨RX8, "overflow", "()I"⟩
abbrev cX8_bestLimit : ByteArray := prog_1_method_23_code
def yX8_bestLimit : MethodName := ⟨RX8, "bestLimit", "(I)I"⟩
abbrev cX8_keep : ByteArray := prog_1_method_24_code
def yX8_keep : MethodName := ⟨RX8, "keep", "(I)I"⟩
abbrev cX8_back : ByteArray := prog_1_method_25_code
def yX8_back : MethodName := ⟨RX8, "back", "(I)I"⟩
abbrev cX8_imageAt : ByteArray := prog_1_method_26_code
def yX8_imageAt : MethodName := ⟨RX8, "imageAt", "(I)LBrokeLoop$Image;"⟩
abbrev cX8_copyNumbers : ByteArray := prog_1_method_27_code
def yX8_copyNumbers : MethodName := ⟨RX8, "copyNumbers", "([I[I)V"⟩
def RX9 : String := "BrokeLoopModel"
def TX9 : u_T := fun k => match k with
  | 0 => ("BrokeLoopModel", "w", "[I", true)
  | 1 => ("BrokeLoopModel", "past", "[I", true)
  | 2 => ("BrokeLoopModel", "pastMany", "I", false)
  | 3 => ("BrokeLoopModel", "images", "[I", true)
  | 4 => ("BrokeLoopModel", "filled", "I", false)
  | 5 => ("BrokeLoopModel", "text", "[I", true)
  | 6 => ("BrokeLoopModel", "length", "I", false)
  | 7 => ("BrokeLoopModel", "faultKind", "I", false)
  | 8 => ("BrokeLoopModel", "faultPlace", "I", false)
  | 9 => ("BrokeLoopModel", "fibre", "I", false)
  | 10 => ("BrokeLoopModel", "water", "I", false)
  | 11 => ("BrokeLoopModel", "isSpilt", "Z", false)
  | 12 => ("BrokeLoopModel", "spills", "Z", false)
  | 13 => ("BrokeLoopModel", "readMany", "I", false)
  | 14 => ("BrokeLoopModel", "readEntry", "[I", true)
  | 15 => ("BrokeLoopModel", "wrongKind", "I", false)
  | 16 => ("BrokeLoopModel", "wrongPlace", "I", false)
  | 17 => ("BrokeLoopModel", "part", "I", false)
  | 18 => ("BrokeLoopModel", "digits", "I", false)
  | 19 => ("BrokeLoopModel", "digitsAt", "I", false)
  | 20 => ("BrokeLoopModel", "number", "I", false)
  | _ => ("BrokeLoopModel", "held", "[I", true)
def tyX9 : Nat → FieldType := fun k => match k with
  | 0 => .array .int
  | 1 => .array .int
  | 2 => .int
  | 3 => .array .int
  | 4 => .int
  | 5 => .array .int
  | 6 => .int
  | 7 => .int
  | 8 => .int
  | 9 => .int
  | 10 => .int
  | 11 => .boolean
  | 12 => .boolean
  | 13 => .int
  | 14 => .array .int
  | 15 => .int
  | 16 => .int
  | 17 => .int
  | 18 => .int
  | 19 => .int
  | 20 => .int
  | _ => .array .int
theorem nmX9 : ∀ a, a < 22 → ∀ b, b < 22 → a ≠ b → (TX9 a).2.1 ≠ (TX9 b).2.1 := by decide +kernel
theorem tyX9_ok : ∀ k, k < 22 → parseFieldDescriptor (TX9 k).2.2.1 = some (tyX9 k) := by decide +kernel
abbrev cX9_init : ByteArray := prog_11_method_1_code
def yX9_init : MethodName := ⟨RX9, "<init>", "()V"⟩
abbrev cX9_isIn : ByteArray := prog_11_method_3_code
def yX9_isIn : MethodName := ⟨RX9, "isIn", "(III)Z"⟩
abbrev cX9_lay : ByteArray := prog_11_method_4_code
def yX9_lay : MethodName := ⟨RX9, "lay", "()V"⟩
abbrev cX9_remember : ByteArray := prog_11_method_5_code
def yX9_remember : MethodName := ⟨RX9, "remember", "()V"⟩
abbrev cX9_isChest : ByteArray := prog_11_method_6_code
def yX9_isChest : MethodName := ⟨RX9, "isChest", "(I)Z"⟩
abbrev cX9_roomOf : ByteArray := prog_11_method_7_code
def yX9_roomOf : MethodName := ⟨RX9, "roomOf", "(I)I"⟩
abbrev cX9_sum : ByteArray := prog_11_method_8_code
def yX9_sum : MethodName := ⟨RX9, "sum", "(I)I"⟩
abbrev cX9_consistency : ByteArray := prog_11_method_9_code
def yX9_consistency : MethodName := ⟨RX9, "consistency", "(I)I"⟩
abbrev cX9_takeFrom : ByteArray := prog_11_method_10_code
def yX9_takeFrom : MethodName := ⟨RX9, "takeFrom", "(II)V"⟩
abbrev cX9_fillInto : ByteArray := prog_11_method_11_code
def yX9_fillInto : MethodName := ⟨RX9, "fillInto", "(III)I"⟩
abbrev cX9_breakSheet : ByteArray := prog_11_method_12_code
def yX9_breakSheet : MethodName := ⟨RX9, "breakSheet", "(I)V"⟩
abbrev cX9_changeGrade : ByteArray := prog_11_method_13_code
def yX9_changeGrade : MethodName := ⟨RX9, "changeGrade", "(I)V"⟩
abbrev cX9_carryOut : ByteArray := prog_11_method_14_code
def yX9_carryOut : MethodName := ⟨RX9, "carryOut", "()V"⟩
abbrev cX9_mix : ByteArray := prog_11_method_15_code
def yX9_mix : MethodName := ⟨RX9, "mix", "()V"⟩
abbrev cX9_thin : ByteArray := prog_11_method_16_code
def yX9_thin : MethodName := ⟨RX9, "thin", "()V"⟩
abbrev cX9_control : ByteArray := prog_11_method_17_code
def yX9_control : MethodName := ⟨RX9, "control", "()V"⟩
abbrev cX9_makePaper : ByteArray := prog_11_method_18_code
def yX9_makePaper : MethodName := ⟨RX9, "makePaper", "()V"⟩
abbrev cX9_tick : ByteArray := prog_11_method_19_code
def yX9_tick : MethodName := ⟨RX9, "tick", "()V"⟩
abbrev cX9_allPaper : ByteArray := prog_11_method_20_code
def yX9_allPaper : MethodName := ⟨RX9, "allPaper", "()I"⟩
abbrev cX9_fails : ByteArray := prog_11_method_21_code
def yX9_fails : MethodName := ⟨RX9, "fails", "(II)V"⟩
abbrev cX9_kindOf : ByteArray := prog_11_method_22_code
def yX9_kindOf : MethodName := ⟨RX9, "kindOf", "(I)I"⟩
abbrev cX9_isWell : ByteArray := prog_11_method_23_code
def yX9_isWell : MethodName := ⟨RX9, "isWell", "()Z"⟩
abbrev cX9_readDigit : ByteArray := prog_11_method_24_code
def yX9_readDigit : MethodName := ⟨RX9, "readDigit", "(I)V"⟩
abbrev cX9_endEntry : ByteArray := prog_11_method_25_code
def yX9_endEntry : MethodName := ⟨RX9, "endEntry", "()V"⟩
abbrev cX9_readOther : ByteArray := prog_11_method_26_code
def yX9_readOther : MethodName := ⟨RX9, "readOther", "(I)V"⟩
abbrev cX9_readText : ByteArray := prog_11_method_27_code
def yX9_readText : MethodName := ⟨RX9, "readText", "()V"⟩
abbrev cX9_begin : ByteArray := prog_11_method_28_code
def yX9_begin : MethodName := ⟨RX9, "begin", "()I"⟩
abbrev cX9_isOf : ByteArray := prog_11_method_29_code
def yX9_isOf : MethodName := ⟨RX9, "isOf", "(II)Z"⟩
abbrev cX9_set : ByteArray := prog_11_method_30_code
def yX9_set : MethodName := ⟨RX9, "set", "(II)I"⟩
abbrev cX9_tear : ByteArray := prog_11_method_31_code
def yX9_tear : MethodName := ⟨RX9, "tear", "(I)I"⟩
abbrev cX9_change : ByteArray := prog_11_method_32_code
def yX9_change : MethodName := ⟨RX9, "change", "(I)I"⟩
abbrev cX9_fill : ByteArray := prog_11_method_33_code
def yX9_fill : MethodName := ⟨RX9, "fill", "(III)I"⟩
abbrev cX9_drain : ByteArray := prog_11_method_34_code
def yX9_drain : MethodName := ⟨RX9, "drain", "(II)I"⟩
abbrev cX9_plan : ByteArray := prog_11_method_35_code
def yX9_plan : MethodName := ⟨RX9, "plan", "()I"⟩
abbrev cX9_run : ByteArray := prog_11_method_36_code
def yX9_run : MethodName := ⟨RX9, "run", "(I)I"⟩
abbrev cX9_undo : ByteArray := prog_11_method_37_code
def yX9_undo : MethodName := ⟨RX9, "undo", "()I"⟩
abbrev cX9_write : ByteArray := prog_11_method_38_code
def yX9_write : MethodName := ⟨RX9, "write", "(I)I"⟩
abbrev cX9_wipe : ByteArray := prog_11_method_39_code
def yX9_wipe : MethodName := ⟨RX9, "wipe", "()I"⟩
abbrev cX9_fault : ByteArray := prog_11_method_40_code
def yX9_fault : MethodName := ⟨RX9, "fault", "(I)I"⟩
abbrev cX9_entriesAhead : ByteArray := prog_11_method_41_code
def yX9_entriesAhead : MethodName := ⟨RX9, "entriesAhead", "()I"⟩
abbrev cX9_told : ByteArray := prog_11_method_42_code
def yX9_told : MethodName := ⟨RX9, "told", "(I)I"⟩
abbrev cX9_setting : ByteArray := prog_11_method_43_code
def yX9_setting : MethodName := ⟨RX9, "setting", "(I)I"⟩
abbrev cX9_chest : ByteArray := prog_11_method_44_code
def yX9_chest : MethodName := ⟨RX9, "chest", "(II)I"⟩
abbrev cX9_inChests : ByteArray := prog_11_method_45_code
def yX9_inChests : MethodName := ⟨RX9, "inChests", "()I"⟩
abbrev cX9_account : ByteArray := prog_11_method_46_code
def yX9_account : MethodName := ⟨RX9, "account", "(I)I"⟩
abbrev cX9_paper : ByteArray := prog_11_method_47_code
def yX9_paper : MethodName := ⟨RX9, "paper", "(I)I"⟩
abbrev cX9_entry : ByteArray := prog_11_method_48_code
def yX9_entry : MethodName := ⟨RX9, "entry", "(II)I"⟩
abbrev cX9_paperShare : ByteArray := prog_11_method_49_code
def yX9_paperShare : MethodName := ⟨RX9, "paperShare", "()F"⟩
abbrev cX9_hold : ByteArray := prog_11_method_50_code
def yX9_hold : MethodName := ⟨RX9, "hold", "()V"⟩
abbrev cX9_restore : ByteArray := prog_11_method_51_code
def yX9_restore : MethodName := ⟨RX9, "restore", "()V"⟩
abbrev cX9_later : ByteArray := prog_11_method_52_code
def yX9_later : MethodName := ⟨RX9, "later", "(II)I"⟩
abbrev cX9_overflow : ByteArray := prog_11_method_53_code
def yX9_overflow : MethodName := ⟨RX9, "overflow", "()I"⟩
abbrev cX9_bestLimit : ByteArray := prog_11_method_54_code
def yX9_bestLimit : MethodName := ⟨RX9, "bestLimit", "(I)I"⟩
abbrev cX9_isImage : ByteArray := prog_11_method_55_code
def yX9_isImage : MethodName := ⟨RX9, "isImage", "(I)Z"⟩
abbrev cX9_keep : ByteArray := prog_11_method_56_code
def yX9_keep : MethodName := ⟨RX9, "keep", "(I)I"⟩
abbrev cX9_back : ByteArray := prog_11_method_57_code
def yX9_back : MethodName := ⟨RX9, "back", "(I)I"⟩
def RJ9 : String := "java/lang/Math"
def TJ9 : u_T := fun k => match k with
  | _ => ("", "", "", false)
def tyJ9 : Nat → FieldType := fun k => match k with
  | _ => .int
theorem nmJ9 : ∀ a, a < 0 → ∀ b, b < 0 → a ≠ b → (TJ9 a).2.1 ≠ (TJ9 b).2.1 := by decide +kernel
theorem tyJ9_ok : ∀ k, k < 0 → parseFieldDescriptor (TJ9 k).2.2.1 = some (tyJ9 k) := by decide +kernel
abbrev cJ9_max_7cf53 : ByteArray := prog_12_method_65_code
def yJ9_max_7cf53 : MethodName := ⟨RJ9, "max", "(II)I"⟩
abbrev cJ9_min_7cf53 : ByteArray := prog_12_method_69_code
def yJ9_min_7cf53 : MethodName := ⟨RJ9, "min", "(II)I"⟩
def RL : String := "BrokeLoopLaw"
abbrev cL_law : ByteArray := code
def yL_law : MethodName := ⟨RL, "law", "([I)Z"⟩
abbrev vwCl : List vw_C := [(RX0, TX0, 6), (RX1, TX1, 4), (RX2, TX2, 3), (RX3, TX3, 3), (RX4, TX4, 2), (RX5, TX5, 15), (RX6, TX6, 4), (RX7, TX7, 4), (RX8, TX8, 10), (RX9, TX9, 22)]
end
section
/-! words of the tables, by their places (written by a program of mine out of the Statement) -/
def pWA : List Cond := lw_tbl.filter goodWord
theorem pWA_tbl {w : Cond} (h : w ∈ pWA) : w ∈ lw_tbl := (List.mem_filter.mp h).1
theorem pWA_good {w : Cond} (h : w ∈ pWA) : goodWord w = true := (List.mem_filter.mp h).2
set_option maxRecDepth 20000 in
theorem wm_1_0 : Cond.initialized RL ∈ pWA := List.mem_filter.mpr ⟨List.mem_append_right _ (List.mem_append_left _ (List.mem_of_getElem? (i := 0) rfl)), rfl⟩
set_option maxRecDepth 20000 in
theorem wm_1_1 : Cond.initialized RX8 ∈ pWA := List.mem_filter.mpr ⟨List.mem_append_right _ (List.mem_append_left _ (List.mem_of_getElem? (i := 1) rfl)), rfl⟩
set_option maxRecDepth 20000 in
theorem wm_1_2 : Cond.initialized RX5 ∈ pWA := List.mem_filter.mpr ⟨List.mem_append_right _ (List.mem_append_left _ (List.mem_of_getElem? (i := 2) rfl)), rfl⟩
set_option maxRecDepth 20000 in
theorem wm_1_3 : Cond.initialized RX1 ∈ pWA := List.mem_filter.mpr ⟨List.mem_append_right _ (List.mem_append_left _ (List.mem_of_getElem? (i := 3) rfl)), rfl⟩
set_option maxRecDepth 20000 in
theorem wm_1_4 : Cond.initialized RX0 ∈ pWA := List.mem_filter.mpr ⟨List.mem_append_right _ (List.mem_append_left _ (List.mem_of_getElem? (i := 4) rfl)), rfl⟩
set_option maxRecDepth 20000 in
theorem wm_1_5 : Cond.initialized RX2 ∈ pWA := List.mem_filter.mpr ⟨List.mem_append_right _ (List.mem_append_left _ (List.mem_of_getElem? (i := 5) rfl)), rfl⟩
set_option maxRecDepth 20000 in
theorem wm_1_6 : Cond.initialized RX7 ∈ pWA := List.mem_filter.mpr ⟨List.mem_append_right _ (List.mem_append_left _ (List.mem_of_getElem? (i := 6) rfl)), rfl⟩
set_option maxRecDepth 20000 in
theorem wm_1_7 : Cond.initialized RX3 ∈ pWA := List.mem_filter.mpr ⟨List.mem_append_right _ (List.mem_append_left _ (List.mem_of_getElem? (i := 7) rfl)), rfl⟩
set_option maxRecDepth 20000 in
theorem wm_1_8 : Cond.initialized RX4 ∈ pWA := List.mem_filter.mpr ⟨List.mem_append_right _ (List.mem_append_left _ (List.mem_of_getElem? (i := 8) rfl)), rfl⟩
set_option maxRecDepth 20000 in
theorem wm_1_9 : Cond.initialized RX6 ∈ pWA := List.mem_filter.mpr ⟨List.mem_append_right _ (List.mem_append_left _ (List.mem_of_getElem? (i := 9) rfl)), rfl⟩
set_option maxRecDepth 20000 in
theorem wm_1_10 : Cond.initialized RX9 ∈ pWA := List.mem_filter.mpr ⟨List.mem_append_right _ (List.mem_append_left _ (List.mem_of_getElem? (i := 10) rfl)), rfl⟩
set_option maxRecDepth 20000 in
theorem wm_1_11 : Cond.initialized RJ9 ∈ pWA := List.mem_filter.mpr ⟨List.mem_append_right _ (List.mem_append_left _ (List.mem_of_getElem? (i := 11) rfl)), rfl⟩
set_option maxRecDepth 20000 in
theorem wm_1_12 : Cond.classLink RL 7 RX8 ∈ pWA := List.mem_filter.mpr ⟨List.mem_append_right _ (List.mem_append_left _ (List.mem_of_getElem? (i := 12) rfl)), rfl⟩
set_option maxRecDepth 20000 in
theorem wm_1_13 : Cond.instantiable RX8 10 ∈ pWA := List.mem_filter.mpr ⟨List.mem_append_right _ (List.mem_append_left _ (List.mem_of_getElem? (i := 13) rfl)), rfl⟩
set_option maxRecDepth 20000 in
theorem wm_1_14 : Cond.methodLink RL 9 yX8_init ∈ pWA := List.mem_filter.mpr ⟨List.mem_append_right _ (List.mem_append_left _ (List.mem_of_getElem? (i := 14) rfl)), rfl⟩
set_option maxRecDepth 20000 in
theorem wm_1_15 : Cond.instanceMethod yX8_init ∈ pWA := List.mem_filter.mpr ⟨List.mem_append_right _ (List.mem_append_left _ (List.mem_of_getElem? (i := 15) rfl)), rfl⟩
set_option maxRecDepth 20000 in
theorem wm_1_16 : Cond.code yX8_init cX8_init 1 (none : Option FieldType) ∈ pWA := List.mem_filter.mpr ⟨List.mem_append_right _ (List.mem_append_left _ (List.mem_of_getElem? (i := 16) rfl)), rfl⟩
set_option maxRecDepth 20000 in
theorem wm_1_17 : Cond.methodLink RX8 1 ⟨"java/lang/Object", "<init>", "()V"⟩ ∈ pWA := List.mem_filter.mpr ⟨List.mem_append_right _ (List.mem_append_left _ (List.mem_of_getElem? (i := 17) rfl)), rfl⟩
set_option maxRecDepth 20000 in
theorem wm_1_18 : Cond.instanceMethod ⟨"java/lang/Object", "<init>", "()V"⟩ ∈ pWA := List.mem_filter.mpr ⟨List.mem_append_right _ (List.mem_append_left _ (List.mem_of_getElem? (i := 18) rfl)), rfl⟩
set_option maxRecDepth 20000 in
theorem wm_1_19 : Cond.code ⟨"java/lang/Object", "<init>", "()V"⟩ object_method_1_code 1 (none : Option FieldType) ∈ pWA := List.mem_filter.mpr ⟨List.mem_append_right _ (List.mem_append_left _ (List.mem_of_getElem? (i := 19) rfl)), rfl⟩
set_option maxRecDepth 20000 in
theorem wm_1_20 : Cond.classLink RX8 7 RX5 ∈ pWA := List.mem_filter.mpr ⟨List.mem_append_right _ (List.mem_append_left _ (List.mem_of_getElem? (i := 20) rfl)), rfl⟩
set_option maxRecDepth 20000 in
theorem wm_1_21 : Cond.instantiable RX5 15 ∈ pWA := List.mem_filter.mpr ⟨List.mem_append_right _ (List.mem_append_left _ (List.mem_of_getElem? (i := 21) rfl)), rfl⟩
set_option maxRecDepth 20000 in
theorem wm_1_22 : Cond.methodLink RX8 9 yX5_init ∈ pWA := List.mem_filter.mpr ⟨List.mem_append_right _ (List.mem_append_left _ (List.mem_of_getElem? (i := 22) rfl)), rfl⟩
set_option maxRecDepth 20000 in
theorem wm_1_23 : Cond.instanceMethod yX5_init ∈ pWA := List.mem_filter.mpr ⟨List.mem_append_right _ (List.mem_append_left _ (List.mem_of_getElem? (i := 23) rfl)), rfl⟩
set_option maxRecDepth 20000 in
theorem wm_1_24 : Cond.code yX5_init cX5_init 1 (none : Option FieldType) ∈ pWA := List.mem_filter.mpr ⟨List.mem_append_right _ (List.mem_append_left _ (List.mem_of_getElem? (i := 24) rfl)), rfl⟩
set_option maxRecDepth 20000 in
theorem wm_1_25 : Cond.methodLink RX5 3 ⟨"java/lang/Object", "<init>", "()V"⟩ ∈ pWA := List.mem_filter.mpr ⟨List.mem_append_right _ (List.mem_append_left _ (List.mem_of_getElem? (i := 25) rfl)), rfl⟩
set_option maxRecDepth 20000 in
theorem wm_1_26 : Cond.classLink RX5 33 RX1 ∈ pWA := List.mem_filter.mpr ⟨List.mem_append_right _ (List.mem_append_left _ (List.mem_of_getElem? (i := 26) rfl)), rfl⟩
set_option maxRecDepth 20000 in
theorem wm_1_27 : Cond.instantiable RX1 4 ∈ pWA := List.mem_filter.mpr ⟨List.mem_append_right _ (List.mem_append_left _ (List.mem_of_getElem? (i := 27) rfl)), rfl⟩
set_option maxRecDepth 20000 in
theorem wm_1_28 : Cond.methodLink RX5 35 yX1_init ∈ pWA := List.mem_filter.mpr ⟨List.mem_append_right _ (List.mem_append_left _ (List.mem_of_getElem? (i := 28) rfl)), rfl⟩
set_option maxRecDepth 20000 in
theorem wm_1_29 : Cond.instanceMethod yX1_init ∈ pWA := List.mem_filter.mpr ⟨List.mem_append_right _ (List.mem_append_left _ (List.mem_of_getElem? (i := 29) rfl)), rfl⟩
set_option maxRecDepth 20000 in
theorem wm_1_30 : Cond.code yX1_init cX1_init 2 (none : Option FieldType) ∈ pWA := List.mem_filter.mpr ⟨List.mem_append_right _ (List.mem_append_left _ (List.mem_of_getElem? (i := 30) rfl)), rfl⟩
set_option maxRecDepth 20000 in
theorem wm_1_31 : Cond.methodLink RX1 1 ⟨"java/lang/Object", "<init>", "()V"⟩ ∈ pWA := List.mem_filter.mpr ⟨List.mem_append_right _ (List.mem_append_left _ (List.mem_of_getElem? (i := 31) rfl)), rfl⟩
set_option maxRecDepth 20000 in
theorem wm_1_32 : Cond.fieldLink RX1 19 RX1 "room" "I" ∈ pWA := List.mem_filter.mpr ⟨List.mem_append_right _ (List.mem_append_left _ (List.mem_of_getElem? (i := 32) rfl)), rfl⟩
set_option maxRecDepth 20000 in
theorem wm_1_33 : Cond.fieldLink RX1 7 RX1 "fibre" "I" ∈ pWA := List.mem_filter.mpr ⟨List.mem_append_right _ (List.mem_append_left _ (List.mem_of_getElem? (i := 33) rfl)), rfl⟩
set_option maxRecDepth 20000 in
theorem wm_1_34 : Cond.fieldLink RX5 107 RX1 "fibre" "I" ∈ pWA := List.mem_filter.mpr ⟨List.mem_append_right _ (List.mem_append_left _ (List.mem_of_getElem? (i := 34) rfl)), rfl⟩
set_option maxRecDepth 20000 in
theorem wm_1_35 : Cond.fieldLink RX8 180 RX1 "fibre" "I" ∈ pWA := List.mem_filter.mpr ⟨List.mem_append_right _ (List.mem_append_left _ (List.mem_of_getElem? (i := 35) rfl)), rfl⟩
set_option maxRecDepth 20000 in
theorem wm_1_36 : Cond.fieldLink RX1 13 RX1 "water" "I" ∈ pWA := List.mem_filter.mpr ⟨List.mem_append_right _ (List.mem_append_left _ (List.mem_of_getElem? (i := 36) rfl)), rfl⟩
set_option maxRecDepth 20000 in
theorem wm_1_37 : Cond.fieldLink RX8 183 RX1 "water" "I" ∈ pWA := List.mem_filter.mpr ⟨List.mem_append_right _ (List.mem_append_left _ (List.mem_of_getElem? (i := 37) rfl)), rfl⟩
set_option maxRecDepth 20000 in
theorem wm_1_38 : Cond.fieldLink RX1 16 RX1 "greatest" "I" ∈ pWA := List.mem_filter.mpr ⟨List.mem_append_right _ (List.mem_append_left _ (List.mem_of_getElem? (i := 38) rfl)), rfl⟩
set_option maxRecDepth 20000 in
theorem wm_1_39 : Cond.fieldLink RX8 192 RX1 "greatest" "I" ∈ pWA := List.mem_filter.mpr ⟨List.mem_append_right _ (List.mem_append_left _ (List.mem_of_getElem? (i := 39) rfl)), rfl⟩
set_option maxRecDepth 20000 in
theorem wm_1_40 : Cond.laysFinal RX1 RX1 "room" "I" ∈ pWA := List.mem_filter.mpr ⟨List.mem_append_right _ (List.mem_append_left _ (List.mem_of_getElem? (i := 40) rfl)), rfl⟩
set_option maxRecDepth 20000 in
theorem wm_1_42 : Cond.lays RX1 RX1 "fibre" "I" ∈ pWA := List.mem_filter.mpr ⟨List.mem_append_right _ (List.mem_append_left _ (List.mem_of_getElem? (i := 42) rfl)), rfl⟩
set_option maxRecDepth 20000 in
theorem wm_1_44 : Cond.lays RX1 RX1 "water" "I" ∈ pWA := List.mem_filter.mpr ⟨List.mem_append_right _ (List.mem_append_left _ (List.mem_of_getElem? (i := 44) rfl)), rfl⟩
set_option maxRecDepth 20000 in
theorem wm_1_46 : Cond.lays RX1 RX1 "greatest" "I" ∈ pWA := List.mem_filter.mpr ⟨List.mem_append_right _ (List.mem_append_left _ (List.mem_of_getElem? (i := 46) rfl)), rfl⟩
set_option maxRecDepth 20000 in
theorem wm_1_49 : Cond.classLink RX5 51 RX0 ∈ pWA := List.mem_filter.mpr ⟨List.mem_append_right _ (List.mem_append_left _ (List.mem_of_getElem? (i := 49) rfl)), rfl⟩
set_option maxRecDepth 20000 in
theorem wm_1_50 : Cond.instantiable RX0 6 ∈ pWA := List.mem_filter.mpr ⟨List.mem_append_right _ (List.mem_append_left _ (List.mem_of_getElem? (i := 50) rfl)), rfl⟩
set_option maxRecDepth 20000 in
theorem wm_1_51 : Cond.methodLinkNest RX5 53 yX0_init RX8 ∈ lw_tbl := List.mem_append_right _ (List.mem_append_left _ (List.mem_of_getElem? (i := 51) rfl))
set_option maxRecDepth 20000 in
theorem wm_1_52 : Cond.instanceMethod yX0_init ∈ pWA := List.mem_filter.mpr ⟨List.mem_append_right _ (List.mem_append_left _ (List.mem_of_getElem? (i := 52) rfl)), rfl⟩
set_option maxRecDepth 20000 in
theorem wm_1_53 : Cond.code yX0_init cX0_init 1 (none : Option FieldType) ∈ pWA := List.mem_filter.mpr ⟨List.mem_append_right _ (List.mem_append_left _ (List.mem_of_getElem? (i := 53) rfl)), rfl⟩
set_option maxRecDepth 20000 in
theorem wm_1_54 : Cond.methodLink RX0 3 ⟨"java/lang/Object", "<init>", "()V"⟩ ∈ pWA := List.mem_filter.mpr ⟨List.mem_append_right _ (List.mem_append_left _ (List.mem_of_getElem? (i := 54) rfl)), rfl⟩
set_option maxRecDepth 20000 in
theorem wm_1_55 : Cond.fieldLink RX0 9 RX0 "inflow" "I" ∈ pWA := List.mem_filter.mpr ⟨List.mem_append_right _ (List.mem_append_left _ (List.mem_of_getElem? (i := 55) rfl)), rfl⟩
set_option maxRecDepth 20000 in
theorem wm_1_56 : Cond.fieldLink RX5 133 RX0 "inflow" "I" ∈ pWA := List.mem_filter.mpr ⟨List.mem_append_right _ (List.mem_append_left _ (List.mem_of_getElem? (i := 56) rfl)), rfl⟩
set_option maxRecDepth 20000 in
theorem wm_1_57 : Cond.fieldLink RX8 195 RX0 "inflow" "I" ∈ pWA := List.mem_filter.mpr ⟨List.mem_append_right _ (List.mem_append_left _ (List.mem_of_getElem? (i := 57) rfl)), rfl⟩
set_option maxRecDepth 20000 in
theorem wm_1_58 : Cond.fieldLink RX0 15 RX0 "given" "I" ∈ pWA := List.mem_filter.mpr ⟨List.mem_append_right _ (List.mem_append_left _ (List.mem_of_getElem? (i := 58) rfl)), rfl⟩
set_option maxRecDepth 20000 in
theorem wm_1_59 : Cond.fieldLink RX8 94 RX0 "given" "I" ∈ pWA := List.mem_filter.mpr ⟨List.mem_append_right _ (List.mem_append_left _ (List.mem_of_getElem? (i := 59) rfl)), rfl⟩
set_option maxRecDepth 20000 in
theorem wm_1_60 : Cond.fieldLink RX0 18 RX0 "spilled" "I" ∈ pWA := List.mem_filter.mpr ⟨List.mem_append_right _ (List.mem_append_left _ (List.mem_of_getElem? (i := 60) rfl)), rfl⟩
set_option maxRecDepth 20000 in
theorem wm_1_61 : Cond.fieldLink RX5 119 RX0 "spilled" "I" ∈ pWA := List.mem_filter.mpr ⟨List.mem_append_right _ (List.mem_append_left _ (List.mem_of_getElem? (i := 61) rfl)), rfl⟩
set_option maxRecDepth 20000 in
theorem wm_1_62 : Cond.fieldLink RX8 201 RX0 "spilled" "I" ∈ pWA := List.mem_filter.mpr ⟨List.mem_append_right _ (List.mem_append_left _ (List.mem_of_getElem? (i := 62) rfl)), rfl⟩
set_option maxRecDepth 20000 in
theorem wm_1_63 : Cond.fieldLink RX0 21 RX0 "drained" "I" ∈ pWA := List.mem_filter.mpr ⟨List.mem_append_right _ (List.mem_append_left _ (List.mem_of_getElem? (i := 63) rfl)), rfl⟩
set_option maxRecDepth 20000 in
theorem wm_1_64 : Cond.fieldLink RX8 116 RX0 "drained" "I" ∈ pWA := List.mem_filter.mpr ⟨List.mem_append_right _ (List.mem_append_left _ (List.mem_of_getElem? (i := 64) rfl)), rfl⟩
set_option maxRecDepth 20000 in
theorem wm_1_65 : Cond.fieldLink RX0 24 RX0 "broke" "I" ∈ pWA := List.mem_filter.mpr ⟨List.mem_append_right _ (List.mem_append_left _ (List.mem_of_getElem? (i := 65) rfl)), rfl⟩
set_option maxRecDepth 20000 in
theorem wm_1_66 : Cond.fieldLink RX5 206 RX0 "broke" "I" ∈ pWA := List.mem_filter.mpr ⟨List.mem_append_right _ (List.mem_append_left _ (List.mem_of_getElem? (i := 66) rfl)), rfl⟩
set_option maxRecDepth 20000 in
theorem wm_1_67 : Cond.fieldLink RX8 207 RX0 "broke" "I" ∈ pWA := List.mem_filter.mpr ⟨List.mem_append_right _ (List.mem_append_left _ (List.mem_of_getElem? (i := 67) rfl)), rfl⟩
set_option maxRecDepth 20000 in
theorem wm_1_68 : Cond.fieldLink RX0 27 RX0 "paper" "[I" ∈ pWA := List.mem_filter.mpr ⟨List.mem_append_right _ (List.mem_append_left _ (List.mem_of_getElem? (i := 68) rfl)), rfl⟩
set_option maxRecDepth 20000 in
theorem wm_1_69 : Cond.fieldLink RX5 208 RX0 "paper" "[I" ∈ pWA := List.mem_filter.mpr ⟨List.mem_append_right _ (List.mem_append_left _ (List.mem_of_getElem? (i := 69) rfl)), rfl⟩
set_option maxRecDepth 20000 in
theorem wm_1_70 : Cond.fieldLink RX8 210 RX0 "paper" "[I" ∈ pWA := List.mem_filter.mpr ⟨List.mem_append_right _ (List.mem_append_left _ (List.mem_of_getElem? (i := 70) rfl)), rfl⟩
set_option maxRecDepth 20000 in
theorem wm_1_71 : Cond.lays RX0 RX0 "inflow" "I" ∈ pWA := List.mem_filter.mpr ⟨List.mem_append_right _ (List.mem_append_left _ (List.mem_of_getElem? (i := 71) rfl)), rfl⟩
set_option maxRecDepth 20000 in
theorem wm_1_73 : Cond.lays RX0 RX0 "given" "I" ∈ pWA := List.mem_filter.mpr ⟨List.mem_append_right _ (List.mem_append_left _ (List.mem_of_getElem? (i := 73) rfl)), rfl⟩
set_option maxRecDepth 20000 in
theorem wm_1_75 : Cond.lays RX0 RX0 "spilled" "I" ∈ pWA := List.mem_filter.mpr ⟨List.mem_append_right _ (List.mem_append_left _ (List.mem_of_getElem? (i := 75) rfl)), rfl⟩
set_option maxRecDepth 20000 in
theorem wm_1_77 : Cond.lays RX0 RX0 "drained" "I" ∈ pWA := List.mem_filter.mpr ⟨List.mem_append_right _ (List.mem_append_left _ (List.mem_of_getElem? (i := 77) rfl)), rfl⟩
set_option maxRecDepth 20000 in
theorem wm_1_79 : Cond.lays RX0 RX0 "broke" "I" ∈ pWA := List.mem_filter.mpr ⟨List.mem_append_right _ (List.mem_append_left _ (List.mem_of_getElem? (i := 79) rfl)), rfl⟩
set_option maxRecDepth 20000 in
theorem wm_1_81 : Cond.laysFinal RX0 RX0 "paper" "[I" ∈ pWA := List.mem_filter.mpr ⟨List.mem_append_right _ (List.mem_append_left _ (List.mem_of_getElem? (i := 81) rfl)), rfl⟩
set_option maxRecDepth 20000 in
theorem wm_1_84 : Cond.arrayClass FieldType.int ∈ pWA := List.mem_filter.mpr ⟨List.mem_append_right _ (List.mem_append_left _ (List.mem_of_getElem? (i := 84) rfl)), rfl⟩
set_option maxRecDepth 20000 in
theorem wm_1_85 : Cond.classLink RX5 58 RX2 ∈ pWA := List.mem_filter.mpr ⟨List.mem_append_right _ (List.mem_append_left _ (List.mem_of_getElem? (i := 85) rfl)), rfl⟩
set_option maxRecDepth 20000 in
theorem wm_1_86 : Cond.instantiable RX2 3 ∈ pWA := List.mem_filter.mpr ⟨List.mem_append_right _ (List.mem_append_left _ (List.mem_of_getElem? (i := 86) rfl)), rfl⟩
set_option maxRecDepth 20000 in
theorem wm_1_87 : Cond.methodLinkNest RX5 60 yX2_init RX8 ∈ lw_tbl := List.mem_append_right _ (List.mem_append_left _ (List.mem_of_getElem? (i := 87) rfl))
set_option maxRecDepth 20000 in
theorem wm_1_88 : Cond.instanceMethod yX2_init ∈ pWA := List.mem_filter.mpr ⟨List.mem_append_right _ (List.mem_append_left _ (List.mem_of_getElem? (i := 88) rfl)), rfl⟩
set_option maxRecDepth 20000 in
theorem wm_1_89 : Cond.code yX2_init cX2_init 1 (none : Option FieldType) ∈ pWA := List.mem_filter.mpr ⟨List.mem_append_right _ (List.mem_append_left _ (List.mem_of_getElem? (i := 89) rfl)), rfl⟩
set_option maxRecDepth 20000 in
theorem wm_1_90 : Cond.methodLink RX2 3 ⟨"java/lang/Object", "<init>", "()V"⟩ ∈ pWA := List.mem_filter.mpr ⟨List.mem_append_right _ (List.mem_append_left _ (List.mem_of_getElem? (i := 90) rfl)), rfl⟩
set_option maxRecDepth 20000 in
theorem wm_1_91 : Cond.fieldLink RX2 9 RX2 "valve" "I" ∈ pWA := List.mem_filter.mpr ⟨List.mem_append_right _ (List.mem_append_left _ (List.mem_of_getElem? (i := 91) rfl)), rfl⟩
set_option maxRecDepth 20000 in
theorem wm_1_92 : Cond.fieldLink RX8 159 RX2 "valve" "I" ∈ pWA := List.mem_filter.mpr ⟨List.mem_append_right _ (List.mem_append_left _ (List.mem_of_getElem? (i := 92) rfl)), rfl⟩
set_option maxRecDepth 20000 in
theorem wm_1_93 : Cond.fieldLink RX5 200 RX2 "valve" "I" ∈ pWA := List.mem_filter.mpr ⟨List.mem_append_right _ (List.mem_append_left _ (List.mem_of_getElem? (i := 93) rfl)), rfl⟩
set_option maxRecDepth 20000 in
theorem wm_1_94 : Cond.fieldLink RX2 15 RX2 "measured" "[I" ∈ pWA := List.mem_filter.mpr ⟨List.mem_append_right _ (List.mem_append_left _ (List.mem_of_getElem? (i := 94) rfl)), rfl⟩
set_option maxRecDepth 20000 in
theorem wm_1_95 : Cond.fieldLink RX2 19 RX2 "size" "I" ∈ pWA := List.mem_filter.mpr ⟨List.mem_append_right _ (List.mem_append_left _ (List.mem_of_getElem? (i := 95) rfl)), rfl⟩
set_option maxRecDepth 20000 in
theorem wm_1_96 : Cond.lays RX2 RX2 "valve" "I" ∈ pWA := List.mem_filter.mpr ⟨List.mem_append_right _ (List.mem_append_left _ (List.mem_of_getElem? (i := 96) rfl)), rfl⟩
set_option maxRecDepth 20000 in
theorem wm_1_98 : Cond.laysFinal RX2 RX2 "measured" "[I" ∈ pWA := List.mem_filter.mpr ⟨List.mem_append_right _ (List.mem_append_left _ (List.mem_of_getElem? (i := 98) rfl)), rfl⟩
set_option maxRecDepth 20000 in
theorem wm_1_100 : Cond.lays RX2 RX2 "size" "I" ∈ pWA := List.mem_filter.mpr ⟨List.mem_append_right _ (List.mem_append_left _ (List.mem_of_getElem? (i := 100) rfl)), rfl⟩
set_option maxRecDepth 20000 in
theorem wm_1_103 : Cond.classLink RX5 65 RX7 ∈ pWA := List.mem_filter.mpr ⟨List.mem_append_right _ (List.mem_append_left _ (List.mem_of_getElem? (i := 103) rfl)), rfl⟩
set_option maxRecDepth 20000 in
theorem wm_1_104 : Cond.instantiable RX7 4 ∈ pWA := List.mem_filter.mpr ⟨List.mem_append_right _ (List.mem_append_left _ (List.mem_of_getElem? (i := 104) rfl)), rfl⟩
set_option maxRecDepth 20000 in
theorem wm_1_105 : Cond.methodLinkNest RX5 67 yX7_init RX8 ∈ lw_tbl := List.mem_append_right _ (List.mem_append_left _ (List.mem_of_getElem? (i := 105) rfl))
set_option maxRecDepth 20000 in
theorem wm_1_106 : Cond.instanceMethod yX7_init ∈ pWA := List.mem_filter.mpr ⟨List.mem_append_right _ (List.mem_append_left _ (List.mem_of_getElem? (i := 106) rfl)), rfl⟩
set_option maxRecDepth 20000 in
theorem wm_1_107 : Cond.code yX7_init cX7_init 1 (none : Option FieldType) ∈ pWA := List.mem_filter.mpr ⟨List.mem_append_right _ (List.mem_append_left _ (List.mem_of_getElem? (i := 107) rfl)), rfl⟩
set_option maxRecDepth 20000 in
theorem wm_1_108 : Cond.methodLink RX7 3 ⟨"java/lang/Object", "<init>", "()V"⟩ ∈ pWA := List.mem_filter.mpr ⟨List.mem_append_right _ (List.mem_append_left _ (List.mem_of_getElem? (i := 108) rfl)), rfl⟩
set_option maxRecDepth 20000 in
theorem wm_1_109 : Cond.fieldLink RX7 9 RX7 "times" "[I" ∈ pWA := List.mem_filter.mpr ⟨List.mem_append_right _ (List.mem_append_left _ (List.mem_of_getElem? (i := 109) rfl)), rfl⟩
set_option maxRecDepth 20000 in
theorem wm_1_110 : Cond.fieldLink RX5 165 RX7 "times" "[I" ∈ pWA := List.mem_filter.mpr ⟨List.mem_append_right _ (List.mem_append_left _ (List.mem_of_getElem? (i := 110) rfl)), rfl⟩
set_option maxRecDepth 20000 in
theorem wm_1_111 : Cond.fieldLink RX8 213 RX7 "times" "[I" ∈ pWA := List.mem_filter.mpr ⟨List.mem_append_right _ (List.mem_append_left _ (List.mem_of_getElem? (i := 111) rfl)), rfl⟩
set_option maxRecDepth 20000 in
theorem wm_1_112 : Cond.fieldLink RX7 15 RX7 "kinds" "[I" ∈ pWA := List.mem_filter.mpr ⟨List.mem_append_right _ (List.mem_append_left _ (List.mem_of_getElem? (i := 112) rfl)), rfl⟩
set_option maxRecDepth 20000 in
theorem wm_1_113 : Cond.fieldLink RX5 168 RX7 "kinds" "[I" ∈ pWA := List.mem_filter.mpr ⟨List.mem_append_right _ (List.mem_append_left _ (List.mem_of_getElem? (i := 113) rfl)), rfl⟩
set_option maxRecDepth 20000 in
theorem wm_1_114 : Cond.fieldLink RX8 216 RX7 "kinds" "[I" ∈ pWA := List.mem_filter.mpr ⟨List.mem_append_right _ (List.mem_append_left _ (List.mem_of_getElem? (i := 114) rfl)), rfl⟩
set_option maxRecDepth 20000 in
theorem wm_1_115 : Cond.fieldLink RX7 18 RX7 "numbers" "[I" ∈ pWA := List.mem_filter.mpr ⟨List.mem_append_right _ (List.mem_append_left _ (List.mem_of_getElem? (i := 115) rfl)), rfl⟩
set_option maxRecDepth 20000 in
theorem wm_1_116 : Cond.fieldLink RX5 171 RX7 "numbers" "[I" ∈ pWA := List.mem_filter.mpr ⟨List.mem_append_right _ (List.mem_append_left _ (List.mem_of_getElem? (i := 116) rfl)), rfl⟩
set_option maxRecDepth 20000 in
theorem wm_1_117 : Cond.fieldLink RX8 219 RX7 "numbers" "[I" ∈ pWA := List.mem_filter.mpr ⟨List.mem_append_right _ (List.mem_append_left _ (List.mem_of_getElem? (i := 117) rfl)), rfl⟩
set_option maxRecDepth 20000 in
theorem wm_1_118 : Cond.fieldLink RX7 21 RX7 "size" "I" ∈ pWA := List.mem_filter.mpr ⟨List.mem_append_right _ (List.mem_append_left _ (List.mem_of_getElem? (i := 118) rfl)), rfl⟩
set_option maxRecDepth 20000 in
theorem wm_1_119 : Cond.fieldLink RX6 28 RX7 "size" "I" ∈ pWA := List.mem_filter.mpr ⟨List.mem_append_right _ (List.mem_append_left _ (List.mem_of_getElem? (i := 119) rfl)), rfl⟩
set_option maxRecDepth 20000 in
theorem wm_1_120 : Cond.fieldLink RX8 142 RX7 "size" "I" ∈ pWA := List.mem_filter.mpr ⟨List.mem_append_right _ (List.mem_append_left _ (List.mem_of_getElem? (i := 120) rfl)), rfl⟩
set_option maxRecDepth 20000 in
theorem wm_1_121 : Cond.fieldLink RX5 162 RX7 "size" "I" ∈ pWA := List.mem_filter.mpr ⟨List.mem_append_right _ (List.mem_append_left _ (List.mem_of_getElem? (i := 121) rfl)), rfl⟩
set_option maxRecDepth 20000 in
theorem wm_1_122 : Cond.laysFinal RX7 RX7 "times" "[I" ∈ pWA := List.mem_filter.mpr ⟨List.mem_append_right _ (List.mem_append_left _ (List.mem_of_getElem? (i := 122) rfl)), rfl⟩
set_option maxRecDepth 20000 in
theorem wm_1_124 : Cond.laysFinal RX7 RX7 "kinds" "[I" ∈ pWA := List.mem_filter.mpr ⟨List.mem_append_right _ (List.mem_append_left _ (List.mem_of_getElem? (i := 124) rfl)), rfl⟩
set_option maxRecDepth 20000 in
theorem wm_1_126 : Cond.laysFinal RX7 RX7 "numbers" "[I" ∈ pWA := List.mem_filter.mpr ⟨List.mem_append_right _ (List.mem_append_left _ (List.mem_of_getElem? (i := 126) rfl)), rfl⟩
set_option maxRecDepth 20000 in
theorem wm_1_128 : Cond.lays RX7 RX7 "size" "I" ∈ pWA := List.mem_filter.mpr ⟨List.mem_append_right _ (List.mem_append_left _ (List.mem_of_getElem? (i := 128) rfl)), rfl⟩
set_option maxRecDepth 20000 in
theorem wm_1_131 : Cond.fieldLinkNest RX5 76 RX8 "FIRST_VALUE" "[I" RX8 ∈ lw_tbl := List.mem_append_right _ (List.mem_append_left _ (List.mem_of_getElem? (i := 131) rfl))
set_option maxRecDepth 20000 in
theorem wm_1_132 : Cond.laysStatic RX8 "FIRST_VALUE" "[I" ∈ lw_tbl := List.mem_append_right _ (List.mem_append_left _ (List.mem_of_getElem? (i := 132) rfl))
set_option maxRecDepth 20000 in
theorem wm_1_133 : Cond.methodLinkNest RX5 79 yX8_copyNumbers RX8 ∈ lw_tbl := List.mem_append_right _ (List.mem_append_left _ (List.mem_of_getElem? (i := 133) rfl))
set_option maxRecDepth 20000 in
theorem wm_1_134 : Cond.static yX8_copyNumbers ∈ pWA := List.mem_filter.mpr ⟨List.mem_append_right _ (List.mem_append_left _ (List.mem_of_getElem? (i := 134) rfl)), rfl⟩
set_option maxRecDepth 20000 in
theorem wm_1_135 : Cond.code yX8_copyNumbers cX8_copyNumbers 3 (none : Option FieldType) ∈ pWA := List.mem_filter.mpr ⟨List.mem_append_right _ (List.mem_append_left _ (List.mem_of_getElem? (i := 135) rfl)), rfl⟩
set_option maxRecDepth 20000 in
theorem wm_1_136 : Cond.methodLink RX5 83 yX5_startAnew ∈ pWA := List.mem_filter.mpr ⟨List.mem_append_right _ (List.mem_append_left _ (List.mem_of_getElem? (i := 136) rfl)), rfl⟩
set_option maxRecDepth 20000 in
theorem wm_1_137 : Cond.instanceMethod yX5_startAnew ∈ pWA := List.mem_filter.mpr ⟨List.mem_append_right _ (List.mem_append_left _ (List.mem_of_getElem? (i := 137) rfl)), rfl⟩
set_option maxRecDepth 20000 in
theorem wm_1_138 : Cond.selects RX5 yX5_startAnew yX5_startAnew ∈ pWA := List.mem_filter.mpr ⟨List.mem_append_right _ (List.mem_append_left _ (List.mem_of_getElem? (i := 138) rfl)), rfl⟩
set_option maxRecDepth 20000 in
theorem wm_1_139 : Cond.code yX5_startAnew cX5_startAnew 1 (none : Option FieldType) ∈ pWA := List.mem_filter.mpr ⟨List.mem_append_right _ (List.mem_append_left _ (List.mem_of_getElem? (i := 139) rfl)), rfl⟩
set_option maxRecDepth 20000 in
theorem wm_1_140 : Cond.methodLink RX5 86 yX1_startWith ∈ pWA := List.mem_filter.mpr ⟨List.mem_append_right _ (List.mem_append_left _ (List.mem_of_getElem? (i := 140) rfl)), rfl⟩
set_option maxRecDepth 20000 in
theorem wm_1_141 : Cond.instanceMethod yX1_startWith ∈ pWA := List.mem_filter.mpr ⟨List.mem_append_right _ (List.mem_append_left _ (List.mem_of_getElem? (i := 141) rfl)), rfl⟩
set_option maxRecDepth 20000 in
theorem wm_1_142 : Cond.selects RX1 yX1_startWith yX1_startWith ∈ pWA := List.mem_filter.mpr ⟨List.mem_append_right _ (List.mem_append_left _ (List.mem_of_getElem? (i := 142) rfl)), rfl⟩
set_option maxRecDepth 20000 in
theorem wm_1_143 : Cond.code yX1_startWith cX1_startWith 3 (none : Option FieldType) ∈ pWA := List.mem_filter.mpr ⟨List.mem_append_right _ (List.mem_append_left _ (List.mem_of_getElem? (i := 143) rfl)), rfl⟩
set_option maxRecDepth 20000 in
theorem wm_1_144 : Cond.methodLink RX5 90 yX0_clear ∈ pWA := List.mem_filter.mpr ⟨List.mem_append_right _ (List.mem_append_left _ (List.mem_of_getElem? (i := 144) rfl)), rfl⟩
set_option maxRecDepth 20000 in
theorem wm_1_145 : Cond.instanceMethod yX0_clear ∈ pWA := List.mem_filter.mpr ⟨List.mem_append_right _ (List.mem_append_left _ (List.mem_of_getElem? (i := 145) rfl)), rfl⟩
set_option maxRecDepth 20000 in
theorem wm_1_146 : Cond.selects RX0 yX0_clear yX0_clear ∈ pWA := List.mem_filter.mpr ⟨List.mem_append_right _ (List.mem_append_left _ (List.mem_of_getElem? (i := 146) rfl)), rfl⟩
set_option maxRecDepth 20000 in
theorem wm_1_147 : Cond.code yX0_clear cX0_clear 2 (none : Option FieldType) ∈ pWA := List.mem_filter.mpr ⟨List.mem_append_right _ (List.mem_append_left _ (List.mem_of_getElem? (i := 147) rfl)), rfl⟩
set_option maxRecDepth 20000 in
theorem wm_1_148 : Cond.methodLink RX5 93 yX2_clear ∈ pWA := List.mem_filter.mpr ⟨List.mem_append_right _ (List.mem_append_left _ (List.mem_of_getElem? (i := 148) rfl)), rfl⟩
set_option maxRecDepth 20000 in
theorem wm_1_149 : Cond.instanceMethod yX2_clear ∈ pWA := List.mem_filter.mpr ⟨List.mem_append_right _ (List.mem_append_left _ (List.mem_of_getElem? (i := 149) rfl)), rfl⟩
set_option maxRecDepth 20000 in
theorem wm_1_150 : Cond.selects RX2 yX2_clear yX2_clear ∈ pWA := List.mem_filter.mpr ⟨List.mem_append_right _ (List.mem_append_left _ (List.mem_of_getElem? (i := 150) rfl)), rfl⟩
set_option maxRecDepth 20000 in
theorem wm_1_151 : Cond.code yX2_clear cX2_clear 1 (none : Option FieldType) ∈ pWA := List.mem_filter.mpr ⟨List.mem_append_right _ (List.mem_append_left _ (List.mem_of_getElem? (i := 151) rfl)), rfl⟩
set_option maxRecDepth 20000 in
theorem wm_1_152 : Cond.fieldLink RX5 9 RX5 "clock" "I" ∈ pWA := List.mem_filter.mpr ⟨List.mem_append_right _ (List.mem_append_left _ (List.mem_of_getElem? (i := 152) rfl)), rfl⟩
set_option maxRecDepth 20000 in
theorem wm_1_153 : Cond.fieldLink RX8 61 RX5 "clock" "I" ∈ pWA := List.mem_filter.mpr ⟨List.mem_append_right _ (List.mem_append_left _ (List.mem_of_getElem? (i := 153) rfl)), rfl⟩
set_option maxRecDepth 20000 in
theorem wm_1_154 : Cond.fieldLink RX5 15 RX5 "grade" "I" ∈ pWA := List.mem_filter.mpr ⟨List.mem_append_right _ (List.mem_append_left _ (List.mem_of_getElem? (i := 154) rfl)), rfl⟩
set_option maxRecDepth 20000 in
theorem wm_1_155 : Cond.fieldLink RX8 83 RX5 "grade" "I" ∈ pWA := List.mem_filter.mpr ⟨List.mem_append_right _ (List.mem_append_left _ (List.mem_of_getElem? (i := 155) rfl)), rfl⟩
set_option maxRecDepth 20000 in
theorem wm_1_156 : Cond.fieldLink RX5 18 RX5 "broken" "I" ∈ pWA := List.mem_filter.mpr ⟨List.mem_append_right _ (List.mem_append_left _ (List.mem_of_getElem? (i := 156) rfl)), rfl⟩
set_option maxRecDepth 20000 in
theorem wm_1_157 : Cond.fieldLink RX8 80 RX5 "broken" "I" ∈ pWA := List.mem_filter.mpr ⟨List.mem_append_right _ (List.mem_append_left _ (List.mem_of_getElem? (i := 157) rfl)), rfl⟩
set_option maxRecDepth 20000 in
theorem wm_1_158 : Cond.fieldLink RX5 21 RX5 "offGrade" "I" ∈ pWA := List.mem_filter.mpr ⟨List.mem_append_right _ (List.mem_append_left _ (List.mem_of_getElem? (i := 158) rfl)), rfl⟩
set_option maxRecDepth 20000 in
theorem wm_1_159 : Cond.fieldLink RX8 152 RX5 "offGrade" "I" ∈ pWA := List.mem_filter.mpr ⟨List.mem_append_right _ (List.mem_append_left _ (List.mem_of_getElem? (i := 159) rfl)), rfl⟩
set_option maxRecDepth 20000 in
theorem wm_1_160 : Cond.fieldLink RX5 24 RX5 "brokeGrade" "I" ∈ pWA := List.mem_filter.mpr ⟨List.mem_append_right _ (List.mem_append_left _ (List.mem_of_getElem? (i := 160) rfl)), rfl⟩
set_option maxRecDepth 20000 in
theorem wm_1_161 : Cond.fieldLink RX8 164 RX5 "brokeGrade" "I" ∈ pWA := List.mem_filter.mpr ⟨List.mem_append_right _ (List.mem_append_left _ (List.mem_of_getElem? (i := 161) rfl)), rfl⟩
set_option maxRecDepth 20000 in
theorem wm_1_162 : Cond.fieldLink RX5 27 RX5 "reason" "I" ∈ pWA := List.mem_filter.mpr ⟨List.mem_append_right _ (List.mem_append_left _ (List.mem_of_getElem? (i := 162) rfl)), rfl⟩
set_option maxRecDepth 20000 in
theorem wm_1_163 : Cond.fieldLink RX8 167 RX5 "reason" "I" ∈ pWA := List.mem_filter.mpr ⟨List.mem_append_right _ (List.mem_append_left _ (List.mem_of_getElem? (i := 163) rfl)), rfl⟩
set_option maxRecDepth 20000 in
theorem wm_1_164 : Cond.fieldLink RX5 30 RX5 "lostTicks" "I" ∈ pWA := List.mem_filter.mpr ⟨List.mem_append_right _ (List.mem_append_left _ (List.mem_of_getElem? (i := 164) rfl)), rfl⟩
set_option maxRecDepth 20000 in
theorem wm_1_165 : Cond.fieldLink RX8 177 RX5 "lostTicks" "I" ∈ pWA := List.mem_filter.mpr ⟨List.mem_append_right _ (List.mem_append_left _ (List.mem_of_getElem? (i := 165) rfl)), rfl⟩
set_option maxRecDepth 20000 in
theorem wm_1_166 : Cond.fieldLink RX5 38 RX5 "pulp" "LBrokeLoop$Chest;" ∈ pWA := List.mem_filter.mpr ⟨List.mem_append_right _ (List.mem_append_left _ (List.mem_of_getElem? (i := 166) rfl)), rfl⟩
set_option maxRecDepth 20000 in
theorem wm_1_167 : Cond.fieldLink RX5 42 RX5 "broke" "LBrokeLoop$Chest;" ∈ pWA := List.mem_filter.mpr ⟨List.mem_append_right _ (List.mem_append_left _ (List.mem_of_getElem? (i := 167) rfl)), rfl⟩
set_option maxRecDepth 20000 in
theorem wm_1_168 : Cond.fieldLink RX8 228 RX5 "broke" "LBrokeLoop$Chest;" ∈ pWA := List.mem_filter.mpr ⟨List.mem_append_right _ (List.mem_append_left _ (List.mem_of_getElem? (i := 168) rfl)), rfl⟩
set_option maxRecDepth 20000 in
theorem wm_1_169 : Cond.fieldLink RX5 45 RX5 "mixing" "LBrokeLoop$Chest;" ∈ pWA := List.mem_filter.mpr ⟨List.mem_append_right _ (List.mem_append_left _ (List.mem_of_getElem? (i := 169) rfl)), rfl⟩
set_option maxRecDepth 20000 in
theorem wm_1_170 : Cond.fieldLink RX5 48 RX5 "machine" "LBrokeLoop$Chest;" ∈ pWA := List.mem_filter.mpr ⟨List.mem_append_right _ (List.mem_append_left _ (List.mem_of_getElem? (i := 170) rfl)), rfl⟩
set_option maxRecDepth 20000 in
theorem wm_1_171 : Cond.fieldLink RX8 224 RX5 "machine" "LBrokeLoop$Chest;" ∈ pWA := List.mem_filter.mpr ⟨List.mem_append_right _ (List.mem_append_left _ (List.mem_of_getElem? (i := 171) rfl)), rfl⟩
set_option maxRecDepth 20000 in
theorem wm_1_172 : Cond.fieldLink RX5 54 RX5 "account" "LBrokeLoop$Account;" ∈ pWA := List.mem_filter.mpr ⟨List.mem_append_right _ (List.mem_append_left _ (List.mem_of_getElem? (i := 172) rfl)), rfl⟩
set_option maxRecDepth 20000 in
theorem wm_1_173 : Cond.fieldLink RX8 90 RX5 "account" "LBrokeLoop$Account;" ∈ pWA := List.mem_filter.mpr ⟨List.mem_append_right _ (List.mem_append_left _ (List.mem_of_getElem? (i := 173) rfl)), rfl⟩
set_option maxRecDepth 20000 in
theorem wm_1_174 : Cond.fieldLink RX5 61 RX5 "controller" "LBrokeLoop$Controller;" ∈ pWA := List.mem_filter.mpr ⟨List.mem_append_right _ (List.mem_append_left _ (List.mem_of_getElem? (i := 174) rfl)), rfl⟩
set_option maxRecDepth 20000 in
theorem wm_1_175 : Cond.fieldLink RX8 155 RX5 "controller" "LBrokeLoop$Controller;" ∈ pWA := List.mem_filter.mpr ⟨List.mem_append_right _ (List.mem_append_left _ (List.mem_of_getElem? (i := 175) rfl)), rfl⟩
set_option maxRecDepth 20000 in
theorem wm_1_176 : Cond.fieldLink RX5 68 RX5 "schedule" "LBrokeLoop$Schedule;" ∈ pWA := List.mem_filter.mpr ⟨List.mem_append_right _ (List.mem_append_left _ (List.mem_of_getElem? (i := 176) rfl)), rfl⟩
set_option maxRecDepth 20000 in
theorem wm_1_177 : Cond.fieldLink RX8 129 RX5 "schedule" "LBrokeLoop$Schedule;" ∈ pWA := List.mem_filter.mpr ⟨List.mem_append_right _ (List.mem_append_left _ (List.mem_of_getElem? (i := 177) rfl)), rfl⟩
set_option maxRecDepth 20000 in
theorem wm_1_178 : Cond.fieldLink RX5 72 RX5 "settings" "[I" ∈ pWA := List.mem_filter.mpr ⟨List.mem_append_right _ (List.mem_append_left _ (List.mem_of_getElem? (i := 178) rfl)), rfl⟩
set_option maxRecDepth 20000 in
theorem wm_1_179 : Cond.fieldLink RX8 73 RX5 "settings" "[I" ∈ pWA := List.mem_filter.mpr ⟨List.mem_append_right _ (List.mem_append_left _ (List.mem_of_getElem? (i := 179) rfl)), rfl⟩
set_option maxRecDepth 20000 in
theorem wm_1_180 : Cond.lays RX5 RX5 "clock" "I" ∈ pWA := List.mem_filter.mpr ⟨List.mem_append_right _ (List.mem_append_left _ (List.mem_of_getElem? (i := 180) rfl)), rfl⟩
set_option maxRecDepth 20000 in
theorem wm_1_182 : Cond.lays RX5 RX5 "grade" "I" ∈ pWA := List.mem_filter.mpr ⟨List.mem_append_right _ (List.mem_append_left _ (List.mem_of_getElem? (i := 182) rfl)), rfl⟩
set_option maxRecDepth 20000 in
theorem wm_1_184 : Cond.lays RX5 RX5 "broken" "I" ∈ pWA := List.mem_filter.mpr ⟨List.mem_append_right _ (List.mem_append_left _ (List.mem_of_getElem? (i := 184) rfl)), rfl⟩
set_option maxRecDepth 20000 in
theorem wm_1_186 : Cond.lays RX5 RX5 "offGrade" "I" ∈ pWA := List.mem_filter.mpr ⟨List.mem_append_right _ (List.mem_append_left _ (List.mem_of_getElem? (i := 186) rfl)), rfl⟩
set_option maxRecDepth 20000 in
theorem wm_1_188 : Cond.lays RX5 RX5 "brokeGrade" "I" ∈ pWA := List.mem_filter.mpr ⟨List.mem_append_right _ (List.mem_append_left _ (List.mem_of_getElem? (i := 188) rfl)), rfl⟩
set_option maxRecDepth 20000 in
theorem wm_1_190 : Cond.lays RX5 RX5 "reason" "I" ∈ pWA := List.mem_filter.mpr ⟨List.mem_append_right _ (List.mem_append_left _ (List.mem_of_getElem? (i := 190) rfl)), rfl⟩
set_option maxRecDepth 20000 in
theorem wm_1_192 : Cond.lays RX5 RX5 "lostTicks" "I" ∈ pWA := List.mem_filter.mpr ⟨List.mem_append_right _ (List.mem_append_left _ (List.mem_of_getElem? (i := 192) rfl)), rfl⟩
set_option maxRecDepth 20000 in
theorem wm_1_194 : Cond.laysFinal RX5 RX5 "pulp" "LBrokeLoop$Chest;" ∈ pWA := List.mem_filter.mpr ⟨List.mem_append_right _ (List.mem_append_left _ (List.mem_of_getElem? (i := 194) rfl)), rfl⟩
set_option maxRecDepth 20000 in
theorem wm_1_196 : Cond.laysFinal RX5 RX5 "broke" "LBrokeLoop$Chest;" ∈ pWA := List.mem_filter.mpr ⟨List.mem_append_right _ (List.mem_append_left _ (List.mem_of_getElem? (i := 196) rfl)), rfl⟩
set_option maxRecDepth 20000 in
theorem wm_1_198 : Cond.laysFinal RX5 RX5 "mixing" "LBrokeLoop$Chest;" ∈ pWA := List.mem_filter.mpr ⟨List.mem_append_right _ (List.mem_append_left _ (List.mem_of_getElem? (i := 198) rfl)), rfl⟩
set_option maxRecDepth 20000 in
theorem wm_1_200 : Cond.laysFinal RX5 RX5 "machine" "LBrokeLoop$Chest;" ∈ pWA := List.mem_filter.mpr ⟨List.mem_append_right _ (List.mem_append_left _ (List.mem_of_getElem? (i := 200) rfl)), rfl⟩
set_option maxRecDepth 20000 in
theorem wm_1_202 : Cond.laysFinal RX5 RX5 "account" "LBrokeLoop$Account;" ∈ pWA := List.mem_filter.mpr ⟨List.mem_append_right _ (List.mem_append_left _ (List.mem_of_getElem? (i := 202) rfl)), rfl⟩
set_option maxRecDepth 20000 in
theorem wm_1_204 : Cond.laysFinal RX5 RX5 "controller" "LBrokeLoop$Controller;" ∈ pWA := List.mem_filter.mpr ⟨List.mem_append_right _ (List.mem_append_left _ (List.mem_of_getElem? (i := 204) rfl)), rfl⟩
set_option maxRecDepth 20000 in
theorem wm_1_206 : Cond.laysFinal RX5 RX5 "schedule" "LBrokeLoop$Schedule;" ∈ pWA := List.mem_filter.mpr ⟨List.mem_append_right _ (List.mem_append_left _ (List.mem_of_getElem? (i := 206) rfl)), rfl⟩
set_option maxRecDepth 20000 in
theorem wm_1_208 : Cond.laysFinal RX5 RX5 "settings" "[I" ∈ pWA := List.mem_filter.mpr ⟨List.mem_append_right _ (List.mem_append_left _ (List.mem_of_getElem? (i := 208) rfl)), rfl⟩
set_option maxRecDepth 20000 in
theorem wm_1_211 : Cond.classLink RX8 19 RX3 ∈ pWA := List.mem_filter.mpr ⟨List.mem_append_right _ (List.mem_append_left _ (List.mem_of_getElem? (i := 211) rfl)), rfl⟩
set_option maxRecDepth 20000 in
theorem wm_1_212 : Cond.instantiable RX3 3 ∈ pWA := List.mem_filter.mpr ⟨List.mem_append_right _ (List.mem_append_left _ (List.mem_of_getElem? (i := 212) rfl)), rfl⟩
set_option maxRecDepth 20000 in
theorem wm_1_213 : Cond.methodLink RX8 21 yX3_init ∈ pWA := List.mem_filter.mpr ⟨List.mem_append_right _ (List.mem_append_left _ (List.mem_of_getElem? (i := 213) rfl)), rfl⟩
set_option maxRecDepth 20000 in
theorem wm_1_214 : Cond.instanceMethod yX3_init ∈ pWA := List.mem_filter.mpr ⟨List.mem_append_right _ (List.mem_append_left _ (List.mem_of_getElem? (i := 214) rfl)), rfl⟩
set_option maxRecDepth 20000 in
theorem wm_1_215 : Cond.code yX3_init cX3_init 2 (none : Option FieldType) ∈ pWA := List.mem_filter.mpr ⟨List.mem_append_right _ (List.mem_append_left _ (List.mem_of_getElem? (i := 215) rfl)), rfl⟩
set_option maxRecDepth 20000 in
theorem wm_1_216 : Cond.methodLink RX3 3 ⟨"java/lang/Object", "<init>", "()V"⟩ ∈ pWA := List.mem_filter.mpr ⟨List.mem_append_right _ (List.mem_append_left _ (List.mem_of_getElem? (i := 216) rfl)), rfl⟩
set_option maxRecDepth 20000 in
theorem wm_1_217 : Cond.classLink RX3 9 RX5 ∈ pWA := List.mem_filter.mpr ⟨List.mem_append_right _ (List.mem_append_left _ (List.mem_of_getElem? (i := 217) rfl)), rfl⟩
set_option maxRecDepth 20000 in
theorem wm_1_218 : Cond.arrayOver (FieldType.object "BrokeLoop$Loop") ∈ lw_tbl := List.mem_append_right _ (List.mem_append_left _ (List.mem_of_getElem? (i := 218) rfl))
set_option maxRecDepth 20000 in
theorem wm_1_219 : Cond.methodLink RX3 24 yX5_init ∈ pWA := List.mem_filter.mpr ⟨List.mem_append_right _ (List.mem_append_left _ (List.mem_of_getElem? (i := 219) rfl)), rfl⟩
set_option maxRecDepth 20000 in
theorem wm_1_220 : Cond.fieldLink RX3 11 RX3 "states" "[LBrokeLoop$Loop;" ∈ pWA := List.mem_filter.mpr ⟨List.mem_append_right _ (List.mem_append_left _ (List.mem_of_getElem? (i := 220) rfl)), rfl⟩
set_option maxRecDepth 20000 in
theorem wm_1_221 : Cond.fieldLink RX3 17 RX3 "newest" "I" ∈ pWA := List.mem_filter.mpr ⟨List.mem_append_right _ (List.mem_append_left _ (List.mem_of_getElem? (i := 221) rfl)), rfl⟩
set_option maxRecDepth 20000 in
theorem wm_1_222 : Cond.fieldLink RX3 21 RX3 "size" "I" ∈ pWA := List.mem_filter.mpr ⟨List.mem_append_right _ (List.mem_append_left _ (List.mem_of_getElem? (i := 222) rfl)), rfl⟩
set_option maxRecDepth 20000 in
theorem wm_1_223 : Cond.fieldLink RX8 148 RX3 "size" "I" ∈ pWA := List.mem_filter.mpr ⟨List.mem_append_right _ (List.mem_append_left _ (List.mem_of_getElem? (i := 223) rfl)), rfl⟩
set_option maxRecDepth 20000 in
theorem wm_1_224 : Cond.laysFinal RX3 RX3 "states" "[LBrokeLoop$Loop;" ∈ pWA := List.mem_filter.mpr ⟨List.mem_append_right _ (List.mem_append_left _ (List.mem_of_getElem? (i := 224) rfl)), rfl⟩
set_option maxRecDepth 20000 in
theorem wm_1_226 : Cond.lays RX3 RX3 "newest" "I" ∈ pWA := List.mem_filter.mpr ⟨List.mem_append_right _ (List.mem_append_left _ (List.mem_of_getElem? (i := 226) rfl)), rfl⟩
set_option maxRecDepth 20000 in
theorem wm_1_228 : Cond.lays RX3 RX3 "size" "I" ∈ pWA := List.mem_filter.mpr ⟨List.mem_append_right _ (List.mem_append_left _ (List.mem_of_getElem? (i := 228) rfl)), rfl⟩
set_option maxRecDepth 20000 in
theorem wm_1_231 : Cond.classLink RX8 26 RX4 ∈ pWA := List.mem_filter.mpr ⟨List.mem_append_right _ (List.mem_append_left _ (List.mem_of_getElem? (i := 231) rfl)), rfl⟩
set_option maxRecDepth 20000 in
theorem wm_1_232 : Cond.instantiable RX4 2 ∈ pWA := List.mem_filter.mpr ⟨List.mem_append_right _ (List.mem_append_left _ (List.mem_of_getElem? (i := 232) rfl)), rfl⟩
set_option maxRecDepth 20000 in
theorem wm_1_233 : Cond.methodLinkNest RX8 28 yX4_init RX8 ∈ lw_tbl := List.mem_append_right _ (List.mem_append_left _ (List.mem_of_getElem? (i := 233) rfl))
set_option maxRecDepth 20000 in
theorem wm_1_234 : Cond.instanceMethod yX4_init ∈ pWA := List.mem_filter.mpr ⟨List.mem_append_right _ (List.mem_append_left _ (List.mem_of_getElem? (i := 234) rfl)), rfl⟩
set_option maxRecDepth 20000 in
theorem wm_1_235 : Cond.code yX4_init cX4_init 1 (none : Option FieldType) ∈ pWA := List.mem_filter.mpr ⟨List.mem_append_right _ (List.mem_append_left _ (List.mem_of_getElem? (i := 235) rfl)), rfl⟩
set_option maxRecDepth 20000 in
theorem wm_1_236 : Cond.methodLink RX4 1 ⟨"java/lang/Object", "<init>", "()V"⟩ ∈ pWA := List.mem_filter.mpr ⟨List.mem_append_right _ (List.mem_append_left _ (List.mem_of_getElem? (i := 236) rfl)), rfl⟩
set_option maxRecDepth 20000 in
theorem wm_1_237 : Cond.classLink RX4 7 RX5 ∈ pWA := List.mem_filter.mpr ⟨List.mem_append_right _ (List.mem_append_left _ (List.mem_of_getElem? (i := 237) rfl)), rfl⟩
set_option maxRecDepth 20000 in
theorem wm_1_238 : Cond.methodLink RX4 9 yX5_init ∈ pWA := List.mem_filter.mpr ⟨List.mem_append_right _ (List.mem_append_left _ (List.mem_of_getElem? (i := 238) rfl)), rfl⟩
set_option maxRecDepth 20000 in
theorem wm_1_239 : Cond.fieldLink RX4 10 RX4 "state" "LBrokeLoop$Loop;" ∈ pWA := List.mem_filter.mpr ⟨List.mem_append_right _ (List.mem_append_left _ (List.mem_of_getElem? (i := 239) rfl)), rfl⟩
set_option maxRecDepth 20000 in
theorem wm_2_0 : Cond.fieldLink RX8 238 RX4 "state" "LBrokeLoop$Loop;" ∈ pWA := List.mem_filter.mpr ⟨List.mem_append_right _ (List.mem_append_right _ (List.mem_append_left _ (List.mem_of_getElem? (i := 0) rfl))), rfl⟩
set_option maxRecDepth 20000 in
theorem wm_2_1 : Cond.fieldLink RX4 16 RX4 "kept" "Z" ∈ pWA := List.mem_filter.mpr ⟨List.mem_append_right _ (List.mem_append_right _ (List.mem_append_left _ (List.mem_of_getElem? (i := 1) rfl))), rfl⟩
set_option maxRecDepth 20000 in
theorem wm_2_2 : Cond.fieldLink RX8 241 RX4 "kept" "Z" ∈ pWA := List.mem_filter.mpr ⟨List.mem_append_right _ (List.mem_append_right _ (List.mem_append_left _ (List.mem_of_getElem? (i := 2) rfl))), rfl⟩
set_option maxRecDepth 20000 in
theorem wm_2_3 : Cond.laysFinal RX4 RX4 "state" "LBrokeLoop$Loop;" ∈ pWA := List.mem_filter.mpr ⟨List.mem_append_right _ (List.mem_append_right _ (List.mem_append_left _ (List.mem_of_getElem? (i := 3) rfl))), rfl⟩
set_option maxRecDepth 20000 in
theorem wm_2_5 : Cond.lays RX4 RX4 "kept" "Z" ∈ pWA := List.mem_filter.mpr ⟨List.mem_append_right _ (List.mem_append_right _ (List.mem_append_left _ (List.mem_of_getElem? (i := 5) rfl))), rfl⟩
set_option maxRecDepth 20000 in
theorem wm_2_8 : Cond.classLink RX8 44 RX6 ∈ pWA := List.mem_filter.mpr ⟨List.mem_append_right _ (List.mem_append_right _ (List.mem_append_left _ (List.mem_of_getElem? (i := 8) rfl))), rfl⟩
set_option maxRecDepth 20000 in
theorem wm_2_9 : Cond.instantiable RX6 4 ∈ pWA := List.mem_filter.mpr ⟨List.mem_append_right _ (List.mem_append_right _ (List.mem_append_left _ (List.mem_of_getElem? (i := 9) rfl))), rfl⟩
set_option maxRecDepth 20000 in
theorem wm_2_10 : Cond.methodLinkNest RX8 46 yX6_init RX8 ∈ lw_tbl := List.mem_append_right _ (List.mem_append_right _ (List.mem_append_left _ (List.mem_of_getElem? (i := 10) rfl)))
set_option maxRecDepth 20000 in
theorem wm_2_11 : Cond.instanceMethod yX6_init ∈ pWA := List.mem_filter.mpr ⟨List.mem_append_right _ (List.mem_append_right _ (List.mem_append_left _ (List.mem_of_getElem? (i := 11) rfl))), rfl⟩
set_option maxRecDepth 20000 in
theorem wm_2_12 : Cond.code yX6_init cX6_init 1 (none : Option FieldType) ∈ pWA := List.mem_filter.mpr ⟨List.mem_append_right _ (List.mem_append_right _ (List.mem_append_left _ (List.mem_of_getElem? (i := 12) rfl))), rfl⟩
set_option maxRecDepth 20000 in
theorem wm_2_13 : Cond.methodLink RX6 3 ⟨"java/lang/Object", "<init>", "()V"⟩ ∈ pWA := List.mem_filter.mpr ⟨List.mem_append_right _ (List.mem_append_right _ (List.mem_append_left _ (List.mem_of_getElem? (i := 13) rfl))), rfl⟩
set_option maxRecDepth 20000 in
theorem wm_2_14 : Cond.classLink RX6 9 RX7 ∈ pWA := List.mem_filter.mpr ⟨List.mem_append_right _ (List.mem_append_right _ (List.mem_append_left _ (List.mem_of_getElem? (i := 14) rfl))), rfl⟩
set_option maxRecDepth 20000 in
theorem wm_2_15 : Cond.methodLinkNest RX6 11 yX7_init RX8 ∈ lw_tbl := List.mem_append_right _ (List.mem_append_right _ (List.mem_append_left _ (List.mem_of_getElem? (i := 15) rfl)))
set_option maxRecDepth 20000 in
theorem wm_2_16 : Cond.fieldLink RX6 12 RX6 "found" "LBrokeLoop$Schedule;" ∈ pWA := List.mem_filter.mpr ⟨List.mem_append_right _ (List.mem_append_right _ (List.mem_append_left _ (List.mem_of_getElem? (i := 16) rfl))), rfl⟩
set_option maxRecDepth 20000 in
theorem wm_2_17 : Cond.fieldLink RX8 133 RX6 "found" "LBrokeLoop$Schedule;" ∈ pWA := List.mem_filter.mpr ⟨List.mem_append_right _ (List.mem_append_right _ (List.mem_append_left _ (List.mem_of_getElem? (i := 17) rfl))), rfl⟩
set_option maxRecDepth 20000 in
theorem wm_2_18 : Cond.fieldLink RX6 18 RX6 "kind" "I" ∈ pWA := List.mem_filter.mpr ⟨List.mem_append_right _ (List.mem_append_right _ (List.mem_append_left _ (List.mem_of_getElem? (i := 18) rfl))), rfl⟩
set_option maxRecDepth 20000 in
theorem wm_2_19 : Cond.fieldLink RX8 123 RX6 "kind" "I" ∈ pWA := List.mem_filter.mpr ⟨List.mem_append_right _ (List.mem_append_right _ (List.mem_append_left _ (List.mem_of_getElem? (i := 19) rfl))), rfl⟩
set_option maxRecDepth 20000 in
theorem wm_2_20 : Cond.fieldLink RX6 22 RX6 "place" "I" ∈ pWA := List.mem_filter.mpr ⟨List.mem_append_right _ (List.mem_append_right _ (List.mem_append_left _ (List.mem_of_getElem? (i := 20) rfl))), rfl⟩
set_option maxRecDepth 20000 in
theorem wm_2_21 : Cond.fieldLink RX8 126 RX6 "place" "I" ∈ pWA := List.mem_filter.mpr ⟨List.mem_append_right _ (List.mem_append_right _ (List.mem_append_left _ (List.mem_of_getElem? (i := 21) rfl))), rfl⟩
set_option maxRecDepth 20000 in
theorem wm_2_22 : Cond.fieldLink RX6 25 RX6 "at" "I" ∈ pWA := List.mem_filter.mpr ⟨List.mem_append_right _ (List.mem_append_right _ (List.mem_append_left _ (List.mem_of_getElem? (i := 22) rfl))), rfl⟩
set_option maxRecDepth 20000 in
theorem wm_2_23 : Cond.laysFinal RX6 RX6 "found" "LBrokeLoop$Schedule;" ∈ pWA := List.mem_filter.mpr ⟨List.mem_append_right _ (List.mem_append_right _ (List.mem_append_left _ (List.mem_of_getElem? (i := 23) rfl))), rfl⟩
set_option maxRecDepth 20000 in
theorem wm_2_25 : Cond.lays RX6 RX6 "kind" "I" ∈ pWA := List.mem_filter.mpr ⟨List.mem_append_right _ (List.mem_append_right _ (List.mem_append_left _ (List.mem_of_getElem? (i := 25) rfl))), rfl⟩
set_option maxRecDepth 20000 in
theorem wm_2_27 : Cond.lays RX6 RX6 "place" "I" ∈ pWA := List.mem_filter.mpr ⟨List.mem_append_right _ (List.mem_append_right _ (List.mem_append_left _ (List.mem_of_getElem? (i := 27) rfl))), rfl⟩
set_option maxRecDepth 20000 in
theorem wm_2_29 : Cond.lays RX6 RX6 "at" "I" ∈ pWA := List.mem_filter.mpr ⟨List.mem_append_right _ (List.mem_append_right _ (List.mem_append_left _ (List.mem_of_getElem? (i := 29) rfl))), rfl⟩
set_option maxRecDepth 20000 in
theorem wm_2_32 : Cond.fieldLink RX8 10 RX8 "loop" "LBrokeLoop$Loop;" ∈ pWA := List.mem_filter.mpr ⟨List.mem_append_right _ (List.mem_append_right _ (List.mem_append_left _ (List.mem_of_getElem? (i := 32) rfl))), rfl⟩
set_option maxRecDepth 20000 in
theorem wm_2_33 : Cond.fieldLink RX8 16 RX8 "trial" "LBrokeLoop$Loop;" ∈ pWA := List.mem_filter.mpr ⟨List.mem_append_right _ (List.mem_append_right _ (List.mem_append_left _ (List.mem_of_getElem? (i := 33) rfl))), rfl⟩
set_option maxRecDepth 20000 in
theorem wm_2_34 : Cond.fieldLink RX8 22 RX8 "history" "LBrokeLoop$History;" ∈ pWA := List.mem_filter.mpr ⟨List.mem_append_right _ (List.mem_append_right _ (List.mem_append_left _ (List.mem_of_getElem? (i := 34) rfl))), rfl⟩
set_option maxRecDepth 20000 in
theorem wm_2_35 : Cond.fieldLink RX8 29 RX8 "firstImage" "LBrokeLoop$Image;" ∈ pWA := List.mem_filter.mpr ⟨List.mem_append_right _ (List.mem_append_right _ (List.mem_append_left _ (List.mem_of_getElem? (i := 35) rfl))), rfl⟩
set_option maxRecDepth 20000 in
theorem wm_2_36 : Cond.fieldLink RX8 33 RX8 "secondImage" "LBrokeLoop$Image;" ∈ pWA := List.mem_filter.mpr ⟨List.mem_append_right _ (List.mem_append_right _ (List.mem_append_left _ (List.mem_of_getElem? (i := 36) rfl))), rfl⟩
set_option maxRecDepth 20000 in
theorem wm_2_37 : Cond.fieldLink RX8 36 RX8 "text" "[I" ∈ pWA := List.mem_filter.mpr ⟨List.mem_append_right _ (List.mem_append_right _ (List.mem_append_left _ (List.mem_of_getElem? (i := 37) rfl))), rfl⟩
set_option maxRecDepth 20000 in
theorem wm_2_38 : Cond.fieldLink RX8 40 RX8 "textLength" "I" ∈ pWA := List.mem_filter.mpr ⟨List.mem_append_right _ (List.mem_append_right _ (List.mem_append_left _ (List.mem_of_getElem? (i := 38) rfl))), rfl⟩
set_option maxRecDepth 20000 in
theorem wm_2_39 : Cond.fieldLink RX8 47 RX8 "reader" "LBrokeLoop$Reader;" ∈ pWA := List.mem_filter.mpr ⟨List.mem_append_right _ (List.mem_append_right _ (List.mem_append_left _ (List.mem_of_getElem? (i := 39) rfl))), rfl⟩
set_option maxRecDepth 20000 in
theorem wm_2_40 : Cond.fieldLink RX8 51 RX8 "faultKind" "I" ∈ pWA := List.mem_filter.mpr ⟨List.mem_append_right _ (List.mem_append_right _ (List.mem_append_left _ (List.mem_of_getElem? (i := 40) rfl))), rfl⟩
set_option maxRecDepth 20000 in
theorem wm_2_41 : Cond.fieldLink RX8 54 RX8 "faultPlace" "I" ∈ pWA := List.mem_filter.mpr ⟨List.mem_append_right _ (List.mem_append_right _ (List.mem_append_left _ (List.mem_of_getElem? (i := 41) rfl))), rfl⟩
set_option maxRecDepth 20000 in
theorem wm_2_42 : Cond.laysFinal RX8 RX8 "loop" "LBrokeLoop$Loop;" ∈ pWA := List.mem_filter.mpr ⟨List.mem_append_right _ (List.mem_append_right _ (List.mem_append_left _ (List.mem_of_getElem? (i := 42) rfl))), rfl⟩
set_option maxRecDepth 20000 in
theorem wm_2_44 : Cond.laysFinal RX8 RX8 "trial" "LBrokeLoop$Loop;" ∈ pWA := List.mem_filter.mpr ⟨List.mem_append_right _ (List.mem_append_right _ (List.mem_append_left _ (List.mem_of_getElem? (i := 44) rfl))), rfl⟩
set_option maxRecDepth 20000 in
theorem wm_2_46 : Cond.laysFinal RX8 RX8 "history" "LBrokeLoop$History;" ∈ pWA := List.mem_filter.mpr ⟨List.mem_append_right _ (List.mem_append_right _ (List.mem_append_left _ (List.mem_of_getElem? (i := 46) rfl))), rfl⟩
set_option maxRecDepth 20000 in
theorem wm_2_48 : Cond.laysFinal RX8 RX8 "firstImage" "LBrokeLoop$Image;" ∈ pWA := List.mem_filter.mpr ⟨List.mem_append_right _ (List.mem_append_right _ (List.mem_append_left _ (List.mem_of_getElem? (i := 48) rfl))), rfl⟩
set_option maxRecDepth 20000 in
theorem wm_2_50 : Cond.laysFinal RX8 RX8 "secondImage" "LBrokeLoop$Image;" ∈ pWA := List.mem_filter.mpr ⟨List.mem_append_right _ (List.mem_append_right _ (List.mem_append_left _ (List.mem_of_getElem? (i := 50) rfl))), rfl⟩
set_option maxRecDepth 20000 in
theorem wm_2_52 : Cond.laysFinal RX8 RX8 "text" "[I" ∈ pWA := List.mem_filter.mpr ⟨List.mem_append_right _ (List.mem_append_right _ (List.mem_append_left _ (List.mem_of_getElem? (i := 52) rfl))), rfl⟩
set_option maxRecDepth 20000 in
theorem wm_2_54 : Cond.lays RX8 RX8 "textLength" "I" ∈ pWA := List.mem_filter.mpr ⟨List.mem_append_right _ (List.mem_append_right _ (List.mem_append_left _ (List.mem_of_getElem? (i := 54) rfl))), rfl⟩
set_option maxRecDepth 20000 in
theorem wm_2_56 : Cond.laysFinal RX8 RX8 "reader" "LBrokeLoop$Reader;" ∈ pWA := List.mem_filter.mpr ⟨List.mem_append_right _ (List.mem_append_right _ (List.mem_append_left _ (List.mem_of_getElem? (i := 56) rfl))), rfl⟩
set_option maxRecDepth 20000 in
theorem wm_2_58 : Cond.lays RX8 RX8 "faultKind" "I" ∈ pWA := List.mem_filter.mpr ⟨List.mem_append_right _ (List.mem_append_right _ (List.mem_append_left _ (List.mem_of_getElem? (i := 58) rfl))), rfl⟩
set_option maxRecDepth 20000 in
theorem wm_2_60 : Cond.lays RX8 RX8 "faultPlace" "I" ∈ pWA := List.mem_filter.mpr ⟨List.mem_append_right _ (List.mem_append_right _ (List.mem_append_left _ (List.mem_of_getElem? (i := 60) rfl))), rfl⟩
set_option maxRecDepth 20000 in
theorem wm_2_63 : Cond.methodLink RL 13 yX8_begin ∈ pWA := List.mem_filter.mpr ⟨List.mem_append_right _ (List.mem_append_right _ (List.mem_append_left _ (List.mem_of_getElem? (i := 63) rfl))), rfl⟩
set_option maxRecDepth 20000 in
theorem wm_2_64 : Cond.instanceMethod yX8_begin ∈ pWA := List.mem_filter.mpr ⟨List.mem_append_right _ (List.mem_append_right _ (List.mem_append_left _ (List.mem_of_getElem? (i := 64) rfl))), rfl⟩
set_option maxRecDepth 20000 in
theorem wm_2_65 : Cond.selects RX8 yX8_begin yX8_begin ∈ pWA := List.mem_filter.mpr ⟨List.mem_append_right _ (List.mem_append_right _ (List.mem_append_left _ (List.mem_of_getElem? (i := 65) rfl))), rfl⟩
set_option maxRecDepth 20000 in
theorem wm_2_66 : Cond.code yX8_begin cX8_begin 2 (some FieldType.int) ∈ pWA := List.mem_filter.mpr ⟨List.mem_append_right _ (List.mem_append_right _ (List.mem_append_left _ (List.mem_of_getElem? (i := 66) rfl))), rfl⟩
set_option maxRecDepth 20000 in
theorem wm_2_67 : Cond.methodLink RX8 57 yX3_remember ∈ pWA := List.mem_filter.mpr ⟨List.mem_append_right _ (List.mem_append_right _ (List.mem_append_left _ (List.mem_of_getElem? (i := 67) rfl))), rfl⟩
set_option maxRecDepth 20000 in
theorem wm_2_68 : Cond.instanceMethod yX3_remember ∈ pWA := List.mem_filter.mpr ⟨List.mem_append_right _ (List.mem_append_right _ (List.mem_append_left _ (List.mem_of_getElem? (i := 68) rfl))), rfl⟩
set_option maxRecDepth 20000 in
theorem wm_2_69 : Cond.selects RX3 yX3_remember yX3_remember ∈ pWA := List.mem_filter.mpr ⟨List.mem_append_right _ (List.mem_append_right _ (List.mem_append_left _ (List.mem_of_getElem? (i := 69) rfl))), rfl⟩
set_option maxRecDepth 20000 in
theorem wm_2_70 : Cond.code yX3_remember cX3_remember 3 (none : Option FieldType) ∈ pWA := List.mem_filter.mpr ⟨List.mem_append_right _ (List.mem_append_right _ (List.mem_append_left _ (List.mem_of_getElem? (i := 70) rfl))), rfl⟩
set_option maxRecDepth 20000 in
theorem wm_2_71 : Cond.methodLink RX3 25 yX5_copyFrom ∈ pWA := List.mem_filter.mpr ⟨List.mem_append_right _ (List.mem_append_right _ (List.mem_append_left _ (List.mem_of_getElem? (i := 71) rfl))), rfl⟩
set_option maxRecDepth 20000 in
theorem wm_2_72 : Cond.instanceMethod yX5_copyFrom ∈ pWA := List.mem_filter.mpr ⟨List.mem_append_right _ (List.mem_append_right _ (List.mem_append_left _ (List.mem_of_getElem? (i := 72) rfl))), rfl⟩
set_option maxRecDepth 20000 in
theorem wm_2_73 : Cond.selects RX5 yX5_copyFrom yX5_copyFrom ∈ pWA := List.mem_filter.mpr ⟨List.mem_append_right _ (List.mem_append_right _ (List.mem_append_left _ (List.mem_of_getElem? (i := 73) rfl))), rfl⟩
set_option maxRecDepth 20000 in
theorem wm_2_74 : Cond.code yX5_copyFrom cX5_copyFrom 2 (none : Option FieldType) ∈ pWA := List.mem_filter.mpr ⟨List.mem_append_right _ (List.mem_append_right _ (List.mem_append_left _ (List.mem_of_getElem? (i := 74) rfl))), rfl⟩
set_option maxRecDepth 20000 in
theorem wm_2_75 : Cond.methodLink RX5 94 yX1_copyFrom ∈ pWA := List.mem_filter.mpr ⟨List.mem_append_right _ (List.mem_append_right _ (List.mem_append_left _ (List.mem_of_getElem? (i := 75) rfl))), rfl⟩
set_option maxRecDepth 20000 in
theorem wm_2_76 : Cond.instanceMethod yX1_copyFrom ∈ pWA := List.mem_filter.mpr ⟨List.mem_append_right _ (List.mem_append_right _ (List.mem_append_left _ (List.mem_of_getElem? (i := 76) rfl))), rfl⟩
set_option maxRecDepth 20000 in
theorem wm_2_77 : Cond.selects RX1 yX1_copyFrom yX1_copyFrom ∈ pWA := List.mem_filter.mpr ⟨List.mem_append_right _ (List.mem_append_right _ (List.mem_append_left _ (List.mem_of_getElem? (i := 77) rfl))), rfl⟩
set_option maxRecDepth 20000 in
theorem wm_2_78 : Cond.code yX1_copyFrom cX1_copyFrom 2 (none : Option FieldType) ∈ pWA := List.mem_filter.mpr ⟨List.mem_append_right _ (List.mem_append_right _ (List.mem_append_left _ (List.mem_of_getElem? (i := 78) rfl))), rfl⟩
set_option maxRecDepth 20000 in
theorem wm_2_79 : Cond.methodLink RX5 98 yX0_copyFrom ∈ pWA := List.mem_filter.mpr ⟨List.mem_append_right _ (List.mem_append_right _ (List.mem_append_left _ (List.mem_of_getElem? (i := 79) rfl))), rfl⟩
set_option maxRecDepth 20000 in
theorem wm_2_80 : Cond.instanceMethod yX0_copyFrom ∈ pWA := List.mem_filter.mpr ⟨List.mem_append_right _ (List.mem_append_right _ (List.mem_append_left _ (List.mem_of_getElem? (i := 80) rfl))), rfl⟩
set_option maxRecDepth 20000 in
theorem wm_2_81 : Cond.selects RX0 yX0_copyFrom yX0_copyFrom ∈ pWA := List.mem_filter.mpr ⟨List.mem_append_right _ (List.mem_append_right _ (List.mem_append_left _ (List.mem_of_getElem? (i := 81) rfl))), rfl⟩
set_option maxRecDepth 20000 in
theorem wm_2_82 : Cond.code yX0_copyFrom cX0_copyFrom 2 (none : Option FieldType) ∈ pWA := List.mem_filter.mpr ⟨List.mem_append_right _ (List.mem_append_right _ (List.mem_append_left _ (List.mem_of_getElem? (i := 82) rfl))), rfl⟩
set_option maxRecDepth 20000 in
theorem wm_2_83 : Cond.methodLinkNest RX0 31 yX8_copyNumbers RX8 ∈ lw_tbl := List.mem_append_right _ (List.mem_append_right _ (List.mem_append_left _ (List.mem_of_getElem? (i := 83) rfl)))
set_option maxRecDepth 20000 in
theorem wm_2_84 : Cond.methodLink RX5 101 yX2_copyFrom ∈ pWA := List.mem_filter.mpr ⟨List.mem_append_right _ (List.mem_append_right _ (List.mem_append_left _ (List.mem_of_getElem? (i := 84) rfl))), rfl⟩
set_option maxRecDepth 20000 in
theorem wm_2_85 : Cond.instanceMethod yX2_copyFrom ∈ pWA := List.mem_filter.mpr ⟨List.mem_append_right _ (List.mem_append_right _ (List.mem_append_left _ (List.mem_of_getElem? (i := 85) rfl))), rfl⟩
set_option maxRecDepth 20000 in
theorem wm_2_86 : Cond.selects RX2 yX2_copyFrom yX2_copyFrom ∈ pWA := List.mem_filter.mpr ⟨List.mem_append_right _ (List.mem_append_right _ (List.mem_append_left _ (List.mem_of_getElem? (i := 86) rfl))), rfl⟩
set_option maxRecDepth 20000 in
theorem wm_2_87 : Cond.code yX2_copyFrom cX2_copyFrom 2 (none : Option FieldType) ∈ pWA := List.mem_filter.mpr ⟨List.mem_append_right _ (List.mem_append_right _ (List.mem_append_left _ (List.mem_of_getElem? (i := 87) rfl))), rfl⟩
set_option maxRecDepth 20000 in
theorem wm_2_88 : Cond.methodLinkNest RX2 22 yX8_copyNumbers RX8 ∈ lw_tbl := List.mem_append_right _ (List.mem_append_right _ (List.mem_append_left _ (List.mem_of_getElem? (i := 88) rfl)))
set_option maxRecDepth 20000 in
theorem wm_2_89 : Cond.methodLink RX5 104 yX7_copyFrom ∈ pWA := List.mem_filter.mpr ⟨List.mem_append_right _ (List.mem_append_right _ (List.mem_append_left _ (List.mem_of_getElem? (i := 89) rfl))), rfl⟩
set_option maxRecDepth 20000 in
theorem wm_2_90 : Cond.instanceMethod yX7_copyFrom ∈ pWA := List.mem_filter.mpr ⟨List.mem_append_right _ (List.mem_append_right _ (List.mem_append_left _ (List.mem_of_getElem? (i := 90) rfl))), rfl⟩
set_option maxRecDepth 20000 in
theorem wm_2_91 : Cond.selects RX7 yX7_copyFrom yX7_copyFrom ∈ pWA := List.mem_filter.mpr ⟨List.mem_append_right _ (List.mem_append_right _ (List.mem_append_left _ (List.mem_of_getElem? (i := 91) rfl))), rfl⟩
set_option maxRecDepth 20000 in
theorem wm_2_92 : Cond.code yX7_copyFrom cX7_copyFrom 2 (none : Option FieldType) ∈ pWA := List.mem_filter.mpr ⟨List.mem_append_right _ (List.mem_append_right _ (List.mem_append_left _ (List.mem_of_getElem? (i := 92) rfl))), rfl⟩
set_option maxRecDepth 20000 in
theorem wm_2_93 : Cond.methodLinkNest RX7 25 yX8_copyNumbers RX8 ∈ lw_tbl := List.mem_append_right _ (List.mem_append_right _ (List.mem_append_left _ (List.mem_of_getElem? (i := 93) rfl)))
set_option maxRecDepth 20000 in
theorem wm_2_94 : Cond.methodLink RX3 29 yJ9_min_7cf53 ∈ pWA := List.mem_filter.mpr ⟨List.mem_append_right _ (List.mem_append_right _ (List.mem_append_left _ (List.mem_of_getElem? (i := 94) rfl))), rfl⟩
set_option maxRecDepth 20000 in
theorem wm_2_95 : Cond.static yJ9_min_7cf53 ∈ pWA := List.mem_filter.mpr ⟨List.mem_append_right _ (List.mem_append_right _ (List.mem_append_left _ (List.mem_of_getElem? (i := 95) rfl))), rfl⟩
set_option maxRecDepth 20000 in
theorem wm_2_96 : Cond.code yJ9_min_7cf53 cJ9_min_7cf53 2 (some FieldType.int) ∈ pWA := List.mem_filter.mpr ⟨List.mem_append_right _ (List.mem_append_right _ (List.mem_append_left _ (List.mem_of_getElem? (i := 96) rfl))), rfl⟩
set_option maxRecDepth 20000 in
theorem wm_2_97 : Cond.methodLink RX8 64 yX5_startAnew ∈ pWA := List.mem_filter.mpr ⟨List.mem_append_right _ (List.mem_append_right _ (List.mem_append_left _ (List.mem_of_getElem? (i := 97) rfl))), rfl⟩
set_option maxRecDepth 20000 in
theorem wm_2_98 : Cond.methodLink RL 18 yX8_set ∈ pWA := List.mem_filter.mpr ⟨List.mem_append_right _ (List.mem_append_right _ (List.mem_append_left _ (List.mem_of_getElem? (i := 98) rfl))), rfl⟩
set_option maxRecDepth 20000 in
theorem wm_2_99 : Cond.instanceMethod yX8_set ∈ pWA := List.mem_filter.mpr ⟨List.mem_append_right _ (List.mem_append_right _ (List.mem_append_left _ (List.mem_of_getElem? (i := 99) rfl))), rfl⟩
set_option maxRecDepth 20000 in
theorem wm_2_100 : Cond.selects RX8 yX8_set yX8_set ∈ pWA := List.mem_filter.mpr ⟨List.mem_append_right _ (List.mem_append_right _ (List.mem_append_left _ (List.mem_of_getElem? (i := 100) rfl))), rfl⟩
set_option maxRecDepth 20000 in
theorem wm_2_101 : Cond.code yX8_set cX8_set 4 (some FieldType.int) ∈ pWA := List.mem_filter.mpr ⟨List.mem_append_right _ (List.mem_append_right _ (List.mem_append_left _ (List.mem_of_getElem? (i := 101) rfl))), rfl⟩
set_option maxRecDepth 20000 in
theorem wm_2_102 : Cond.fieldLink RX8 67 RX8 "LEAST_VALUE" "[I" ∈ pWA := List.mem_filter.mpr ⟨List.mem_append_right _ (List.mem_append_right _ (List.mem_append_left _ (List.mem_of_getElem? (i := 102) rfl))), rfl⟩
set_option maxRecDepth 20000 in
theorem wm_2_103 : Cond.laysStatic RX8 "LEAST_VALUE" "[I" ∈ lw_tbl := List.mem_append_right _ (List.mem_append_right _ (List.mem_append_left _ (List.mem_of_getElem? (i := 103) rfl)))
set_option maxRecDepth 20000 in
theorem wm_2_104 : Cond.fieldLink RX8 70 RX8 "MOST_VALUE" "[I" ∈ pWA := List.mem_filter.mpr ⟨List.mem_append_right _ (List.mem_append_right _ (List.mem_append_left _ (List.mem_of_getElem? (i := 104) rfl))), rfl⟩
set_option maxRecDepth 20000 in
theorem wm_2_105 : Cond.laysStatic RX8 "MOST_VALUE" "[I" ∈ lw_tbl := List.mem_append_right _ (List.mem_append_right _ (List.mem_append_left _ (List.mem_of_getElem? (i := 105) rfl)))
set_option maxRecDepth 20000 in
theorem wm_2_106 : Cond.methodLink RL 23 yX8_tear ∈ pWA := List.mem_filter.mpr ⟨List.mem_append_right _ (List.mem_append_right _ (List.mem_append_left _ (List.mem_of_getElem? (i := 106) rfl))), rfl⟩
set_option maxRecDepth 20000 in
theorem wm_2_107 : Cond.instanceMethod yX8_tear ∈ pWA := List.mem_filter.mpr ⟨List.mem_append_right _ (List.mem_append_right _ (List.mem_append_left _ (List.mem_of_getElem? (i := 107) rfl))), rfl⟩
set_option maxRecDepth 20000 in
theorem wm_2_108 : Cond.selects RX8 yX8_tear yX8_tear ∈ pWA := List.mem_filter.mpr ⟨List.mem_append_right _ (List.mem_append_right _ (List.mem_append_left _ (List.mem_of_getElem? (i := 108) rfl))), rfl⟩
set_option maxRecDepth 20000 in
theorem wm_2_109 : Cond.code yX8_tear cX8_tear 2 (some FieldType.int) ∈ pWA := List.mem_filter.mpr ⟨List.mem_append_right _ (List.mem_append_right _ (List.mem_append_left _ (List.mem_of_getElem? (i := 109) rfl))), rfl⟩
set_option maxRecDepth 20000 in
theorem wm_2_110 : Cond.methodLink RX8 76 yX5_breakSheet ∈ pWA := List.mem_filter.mpr ⟨List.mem_append_right _ (List.mem_append_right _ (List.mem_append_left _ (List.mem_of_getElem? (i := 110) rfl))), rfl⟩
set_option maxRecDepth 20000 in
theorem wm_2_111 : Cond.instanceMethod yX5_breakSheet ∈ pWA := List.mem_filter.mpr ⟨List.mem_append_right _ (List.mem_append_right _ (List.mem_append_left _ (List.mem_of_getElem? (i := 111) rfl))), rfl⟩
set_option maxRecDepth 20000 in
theorem wm_2_112 : Cond.selects RX5 yX5_breakSheet yX5_breakSheet ∈ pWA := List.mem_filter.mpr ⟨List.mem_append_right _ (List.mem_append_right _ (List.mem_append_left _ (List.mem_of_getElem? (i := 112) rfl))), rfl⟩
set_option maxRecDepth 20000 in
theorem wm_2_113 : Cond.code yX5_breakSheet cX5_breakSheet 2 (none : Option FieldType) ∈ pWA := List.mem_filter.mpr ⟨List.mem_append_right _ (List.mem_append_right _ (List.mem_append_left _ (List.mem_of_getElem? (i := 113) rfl))), rfl⟩
set_option maxRecDepth 20000 in
theorem wm_2_114 : Cond.methodLink RX5 110 yJ9_max_7cf53 ∈ pWA := List.mem_filter.mpr ⟨List.mem_append_right _ (List.mem_append_right _ (List.mem_append_left _ (List.mem_of_getElem? (i := 114) rfl))), rfl⟩
set_option maxRecDepth 20000 in
theorem wm_2_115 : Cond.static yJ9_max_7cf53 ∈ pWA := List.mem_filter.mpr ⟨List.mem_append_right _ (List.mem_append_right _ (List.mem_append_left _ (List.mem_of_getElem? (i := 115) rfl))), rfl⟩
set_option maxRecDepth 20000 in
theorem wm_2_116 : Cond.code yJ9_max_7cf53 cJ9_max_7cf53 2 (some FieldType.int) ∈ pWA := List.mem_filter.mpr ⟨List.mem_append_right _ (List.mem_append_right _ (List.mem_append_left _ (List.mem_of_getElem? (i := 116) rfl))), rfl⟩
set_option maxRecDepth 20000 in
theorem wm_2_117 : Cond.methodLink RL 28 yX8_change ∈ pWA := List.mem_filter.mpr ⟨List.mem_append_right _ (List.mem_append_right _ (List.mem_append_left _ (List.mem_of_getElem? (i := 117) rfl))), rfl⟩
set_option maxRecDepth 20000 in
theorem wm_2_118 : Cond.instanceMethod yX8_change ∈ pWA := List.mem_filter.mpr ⟨List.mem_append_right _ (List.mem_append_right _ (List.mem_append_left _ (List.mem_of_getElem? (i := 118) rfl))), rfl⟩
set_option maxRecDepth 20000 in
theorem wm_2_119 : Cond.selects RX8 yX8_change yX8_change ∈ pWA := List.mem_filter.mpr ⟨List.mem_append_right _ (List.mem_append_right _ (List.mem_append_left _ (List.mem_of_getElem? (i := 119) rfl))), rfl⟩
set_option maxRecDepth 20000 in
theorem wm_2_120 : Cond.code yX8_change cX8_change 3 (some FieldType.int) ∈ pWA := List.mem_filter.mpr ⟨List.mem_append_right _ (List.mem_append_right _ (List.mem_append_left _ (List.mem_of_getElem? (i := 120) rfl))), rfl⟩
set_option maxRecDepth 20000 in
theorem wm_2_121 : Cond.methodLink RX8 86 yX5_turnTo ∈ pWA := List.mem_filter.mpr ⟨List.mem_append_right _ (List.mem_append_right _ (List.mem_append_left _ (List.mem_of_getElem? (i := 121) rfl))), rfl⟩
set_option maxRecDepth 20000 in
theorem wm_2_122 : Cond.instanceMethod yX5_turnTo ∈ pWA := List.mem_filter.mpr ⟨List.mem_append_right _ (List.mem_append_right _ (List.mem_append_left _ (List.mem_of_getElem? (i := 122) rfl))), rfl⟩
set_option maxRecDepth 20000 in
theorem wm_2_123 : Cond.selects RX5 yX5_turnTo yX5_turnTo ∈ pWA := List.mem_filter.mpr ⟨List.mem_append_right _ (List.mem_append_right _ (List.mem_append_left _ (List.mem_of_getElem? (i := 123) rfl))), rfl⟩
set_option maxRecDepth 20000 in
theorem wm_2_124 : Cond.code yX5_turnTo cX5_turnTo 2 (none : Option FieldType) ∈ pWA := List.mem_filter.mpr ⟨List.mem_append_right _ (List.mem_append_right _ (List.mem_append_left _ (List.mem_of_getElem? (i := 124) rfl))), rfl⟩
set_option maxRecDepth 20000 in
theorem wm_2_125 : Cond.methodLink RL 32 yX8_fill ∈ pWA := List.mem_filter.mpr ⟨List.mem_append_right _ (List.mem_append_right _ (List.mem_append_left _ (List.mem_of_getElem? (i := 125) rfl))), rfl⟩
set_option maxRecDepth 20000 in
theorem wm_2_126 : Cond.instanceMethod yX8_fill ∈ pWA := List.mem_filter.mpr ⟨List.mem_append_right _ (List.mem_append_right _ (List.mem_append_left _ (List.mem_of_getElem? (i := 126) rfl))), rfl⟩
set_option maxRecDepth 20000 in
theorem wm_2_127 : Cond.selects RX8 yX8_fill yX8_fill ∈ pWA := List.mem_filter.mpr ⟨List.mem_append_right _ (List.mem_append_right _ (List.mem_append_left _ (List.mem_of_getElem? (i := 127) rfl))), rfl⟩
set_option maxRecDepth 20000 in
theorem wm_2_128 : Cond.code yX8_fill cX8_fill 4 (some FieldType.int) ∈ pWA := List.mem_filter.mpr ⟨List.mem_append_right _ (List.mem_append_right _ (List.mem_append_left _ (List.mem_of_getElem? (i := 128) rfl))), rfl⟩
set_option maxRecDepth 20000 in
theorem wm_2_129 : Cond.constant RX8 89 50000 ∈ pWA := List.mem_filter.mpr ⟨List.mem_append_right _ (List.mem_append_right _ (List.mem_append_left _ (List.mem_of_getElem? (i := 129) rfl))), rfl⟩
set_option maxRecDepth 20000 in
theorem wm_2_130 : Cond.methodLink RX8 99 yX5_chestAt ∈ pWA := List.mem_filter.mpr ⟨List.mem_append_right _ (List.mem_append_right _ (List.mem_append_left _ (List.mem_of_getElem? (i := 130) rfl))), rfl⟩
set_option maxRecDepth 20000 in
theorem wm_2_131 : Cond.instanceMethod yX5_chestAt ∈ pWA := List.mem_filter.mpr ⟨List.mem_append_right _ (List.mem_append_right _ (List.mem_append_left _ (List.mem_of_getElem? (i := 131) rfl))), rfl⟩
set_option maxRecDepth 20000 in
theorem wm_2_132 : Cond.selects RX5 yX5_chestAt yX5_chestAt ∈ pWA := List.mem_filter.mpr ⟨List.mem_append_right _ (List.mem_append_right _ (List.mem_append_left _ (List.mem_of_getElem? (i := 132) rfl))), rfl⟩
set_option maxRecDepth 20000 in
theorem wm_2_133 : Cond.code yX5_chestAt cX5_chestAt 2 (some (FieldType.object "BrokeLoop$Chest")) ∈ pWA := List.mem_filter.mpr ⟨List.mem_append_right _ (List.mem_append_right _ (List.mem_append_left _ (List.mem_of_getElem? (i := 133) rfl))), rfl⟩
set_option maxRecDepth 20000 in
theorem wm_2_134 : Cond.methodLink RX8 103 yX5_pour ∈ pWA := List.mem_filter.mpr ⟨List.mem_append_right _ (List.mem_append_right _ (List.mem_append_left _ (List.mem_of_getElem? (i := 134) rfl))), rfl⟩
set_option maxRecDepth 20000 in
theorem wm_2_135 : Cond.instanceMethod yX5_pour ∈ pWA := List.mem_filter.mpr ⟨List.mem_append_right _ (List.mem_append_right _ (List.mem_append_left _ (List.mem_of_getElem? (i := 135) rfl))), rfl⟩
set_option maxRecDepth 20000 in
theorem wm_2_136 : Cond.selects RX5 yX5_pour yX5_pour ∈ pWA := List.mem_filter.mpr ⟨List.mem_append_right _ (List.mem_append_right _ (List.mem_append_left _ (List.mem_of_getElem? (i := 136) rfl))), rfl⟩
set_option maxRecDepth 20000 in
theorem wm_2_137 : Cond.code yX5_pour cX5_pour 5 (some FieldType.int) ∈ pWA := List.mem_filter.mpr ⟨List.mem_append_right _ (List.mem_append_right _ (List.mem_append_left _ (List.mem_of_getElem? (i := 137) rfl))), rfl⟩
set_option maxRecDepth 20000 in
theorem wm_2_138 : Cond.methodLink RX5 116 yX1_putIn ∈ pWA := List.mem_filter.mpr ⟨List.mem_append_right _ (List.mem_append_right _ (List.mem_append_left _ (List.mem_of_getElem? (i := 138) rfl))), rfl⟩
set_option maxRecDepth 20000 in
theorem wm_2_139 : Cond.instanceMethod yX1_putIn ∈ pWA := List.mem_filter.mpr ⟨List.mem_append_right _ (List.mem_append_right _ (List.mem_append_left _ (List.mem_of_getElem? (i := 139) rfl))), rfl⟩
set_option maxRecDepth 20000 in
theorem wm_2_140 : Cond.selects RX1 yX1_putIn yX1_putIn ∈ pWA := List.mem_filter.mpr ⟨List.mem_append_right _ (List.mem_append_right _ (List.mem_append_left _ (List.mem_of_getElem? (i := 140) rfl))), rfl⟩
set_option maxRecDepth 20000 in
theorem wm_2_141 : Cond.code yX1_putIn cX1_putIn 4 (some FieldType.int) ∈ pWA := List.mem_filter.mpr ⟨List.mem_append_right _ (List.mem_append_right _ (List.mem_append_left _ (List.mem_of_getElem? (i := 141) rfl))), rfl⟩
set_option maxRecDepth 20000 in
theorem wm_2_142 : Cond.methodLink RX1 28 yX1_takeOut ∈ pWA := List.mem_filter.mpr ⟨List.mem_append_right _ (List.mem_append_right _ (List.mem_append_left _ (List.mem_of_getElem? (i := 142) rfl))), rfl⟩
set_option maxRecDepth 20000 in
theorem wm_2_143 : Cond.instanceMethod yX1_takeOut ∈ pWA := List.mem_filter.mpr ⟨List.mem_append_right _ (List.mem_append_right _ (List.mem_append_left _ (List.mem_of_getElem? (i := 143) rfl))), rfl⟩
set_option maxRecDepth 20000 in
theorem wm_2_144 : Cond.selects RX1 yX1_takeOut yX1_takeOut ∈ pWA := List.mem_filter.mpr ⟨List.mem_append_right _ (List.mem_append_right _ (List.mem_append_left _ (List.mem_of_getElem? (i := 144) rfl))), rfl⟩
set_option maxRecDepth 20000 in
theorem wm_2_145 : Cond.code yX1_takeOut cX1_takeOut 4 (some FieldType.int) ∈ pWA := List.mem_filter.mpr ⟨List.mem_append_right _ (List.mem_append_right _ (List.mem_append_left _ (List.mem_of_getElem? (i := 145) rfl))), rfl⟩
set_option maxRecDepth 20000 in
theorem wm_2_146 : Cond.methodLink RL 37 yX8_drain ∈ pWA := List.mem_filter.mpr ⟨List.mem_append_right _ (List.mem_append_right _ (List.mem_append_left _ (List.mem_of_getElem? (i := 146) rfl))), rfl⟩
set_option maxRecDepth 20000 in
theorem wm_2_147 : Cond.instanceMethod yX8_drain ∈ pWA := List.mem_filter.mpr ⟨List.mem_append_right _ (List.mem_append_right _ (List.mem_append_left _ (List.mem_of_getElem? (i := 147) rfl))), rfl⟩
set_option maxRecDepth 20000 in
theorem wm_2_148 : Cond.selects RX8 yX8_drain yX8_drain ∈ pWA := List.mem_filter.mpr ⟨List.mem_append_right _ (List.mem_append_right _ (List.mem_append_left _ (List.mem_of_getElem? (i := 148) rfl))), rfl⟩
set_option maxRecDepth 20000 in
theorem wm_2_149 : Cond.code yX8_drain cX8_drain 5 (some FieldType.int) ∈ pWA := List.mem_filter.mpr ⟨List.mem_append_right _ (List.mem_append_right _ (List.mem_append_left _ (List.mem_of_getElem? (i := 149) rfl))), rfl⟩
set_option maxRecDepth 20000 in
theorem wm_2_150 : Cond.methodLink RX8 107 yX1_there ∈ pWA := List.mem_filter.mpr ⟨List.mem_append_right _ (List.mem_append_right _ (List.mem_append_left _ (List.mem_of_getElem? (i := 150) rfl))), rfl⟩
set_option maxRecDepth 20000 in
theorem wm_2_151 : Cond.instanceMethod yX1_there ∈ pWA := List.mem_filter.mpr ⟨List.mem_append_right _ (List.mem_append_right _ (List.mem_append_left _ (List.mem_of_getElem? (i := 151) rfl))), rfl⟩
set_option maxRecDepth 20000 in
theorem wm_2_152 : Cond.selects RX1 yX1_there yX1_there ∈ pWA := List.mem_filter.mpr ⟨List.mem_append_right _ (List.mem_append_right _ (List.mem_append_left _ (List.mem_of_getElem? (i := 152) rfl))), rfl⟩
set_option maxRecDepth 20000 in
theorem wm_2_153 : Cond.code yX1_there cX1_there 2 (some FieldType.int) ∈ pWA := List.mem_filter.mpr ⟨List.mem_append_right _ (List.mem_append_right _ (List.mem_append_left _ (List.mem_of_getElem? (i := 153) rfl))), rfl⟩
set_option maxRecDepth 20000 in
theorem wm_2_154 : Cond.methodLink RX1 22 yJ9_min_7cf53 ∈ pWA := List.mem_filter.mpr ⟨List.mem_append_right _ (List.mem_append_right _ (List.mem_append_left _ (List.mem_of_getElem? (i := 154) rfl))), rfl⟩
set_option maxRecDepth 20000 in
theorem wm_2_155 : Cond.methodLink RX8 113 yX1_takeOut ∈ pWA := List.mem_filter.mpr ⟨List.mem_append_right _ (List.mem_append_right _ (List.mem_append_left _ (List.mem_of_getElem? (i := 155) rfl))), rfl⟩
set_option maxRecDepth 20000 in
theorem wm_2_156 : Cond.methodLink RL 41 yX8_plan ∈ pWA := List.mem_filter.mpr ⟨List.mem_append_right _ (List.mem_append_right _ (List.mem_append_left _ (List.mem_of_getElem? (i := 156) rfl))), rfl⟩
set_option maxRecDepth 20000 in
theorem wm_2_157 : Cond.instanceMethod yX8_plan ∈ pWA := List.mem_filter.mpr ⟨List.mem_append_right _ (List.mem_append_right _ (List.mem_append_left _ (List.mem_of_getElem? (i := 157) rfl))), rfl⟩
set_option maxRecDepth 20000 in
theorem wm_2_158 : Cond.selects RX8 yX8_plan yX8_plan ∈ pWA := List.mem_filter.mpr ⟨List.mem_append_right _ (List.mem_append_right _ (List.mem_append_left _ (List.mem_of_getElem? (i := 158) rfl))), rfl⟩
set_option maxRecDepth 20000 in
theorem wm_2_159 : Cond.code yX8_plan cX8_plan 1 (some FieldType.int) ∈ pWA := List.mem_filter.mpr ⟨List.mem_append_right _ (List.mem_append_right _ (List.mem_append_left _ (List.mem_of_getElem? (i := 159) rfl))), rfl⟩
set_option maxRecDepth 20000 in
theorem wm_2_160 : Cond.methodLink RX8 119 yX6_read ∈ pWA := List.mem_filter.mpr ⟨List.mem_append_right _ (List.mem_append_right _ (List.mem_append_left _ (List.mem_of_getElem? (i := 160) rfl))), rfl⟩
set_option maxRecDepth 20000 in
theorem wm_2_161 : Cond.instanceMethod yX6_read ∈ pWA := List.mem_filter.mpr ⟨List.mem_append_right _ (List.mem_append_right _ (List.mem_append_left _ (List.mem_of_getElem? (i := 161) rfl))), rfl⟩
set_option maxRecDepth 20000 in
theorem wm_2_162 : Cond.selects RX6 yX6_read yX6_read ∈ pWA := List.mem_filter.mpr ⟨List.mem_append_right _ (List.mem_append_right _ (List.mem_append_left _ (List.mem_of_getElem? (i := 162) rfl))), rfl⟩
set_option maxRecDepth 20000 in
theorem wm_2_163 : Cond.code yX6_read cX6_read 4 (none : Option FieldType) ∈ pWA := List.mem_filter.mpr ⟨List.mem_append_right _ (List.mem_append_right _ (List.mem_append_left _ (List.mem_of_getElem? (i := 163) rfl))), rfl⟩
set_option maxRecDepth 20000 in
theorem wm_2_164 : Cond.methodLink RX6 31 yX6_skipBlanks ∈ pWA := List.mem_filter.mpr ⟨List.mem_append_right _ (List.mem_append_right _ (List.mem_append_left _ (List.mem_of_getElem? (i := 164) rfl))), rfl⟩
set_option maxRecDepth 20000 in
theorem wm_2_166 : Cond.instanceMethod yX6_skipBlanks ∈ pWA := List.mem_filter.mpr ⟨List.mem_append_right _ (List.mem_append_right _ (List.mem_append_left _ (List.mem_of_getElem? (i := 166) rfl))), rfl⟩
set_option maxRecDepth 20000 in
theorem wm_2_167 : Cond.code yX6_skipBlanks cX6_skipBlanks 3 (none : Option FieldType) ∈ pWA := List.mem_filter.mpr ⟨List.mem_append_right _ (List.mem_append_right _ (List.mem_append_left _ (List.mem_of_getElem? (i := 167) rfl))), rfl⟩
set_option maxRecDepth 20000 in
theorem wm_2_168 : Cond.methodLink RX6 38 yX6_codeAt ∈ pWA := List.mem_filter.mpr ⟨List.mem_append_right _ (List.mem_append_right _ (List.mem_append_left _ (List.mem_of_getElem? (i := 168) rfl))), rfl⟩
set_option maxRecDepth 20000 in
theorem wm_2_170 : Cond.instanceMethod yX6_codeAt ∈ pWA := List.mem_filter.mpr ⟨List.mem_append_right _ (List.mem_append_right _ (List.mem_append_left _ (List.mem_of_getElem? (i := 170) rfl))), rfl⟩
set_option maxRecDepth 20000 in
theorem wm_2_171 : Cond.code yX6_codeAt cX6_codeAt 3 (some FieldType.int) ∈ pWA := List.mem_filter.mpr ⟨List.mem_append_right _ (List.mem_append_right _ (List.mem_append_left _ (List.mem_of_getElem? (i := 171) rfl))), rfl⟩
set_option maxRecDepth 20000 in
theorem wm_2_172 : Cond.methodLink RX6 35 yX6_readEntry ∈ pWA := List.mem_filter.mpr ⟨List.mem_append_right _ (List.mem_append_right _ (List.mem_append_left _ (List.mem_of_getElem? (i := 172) rfl))), rfl⟩
set_option maxRecDepth 20000 in
theorem wm_2_174 : Cond.instanceMethod yX6_readEntry ∈ pWA := List.mem_filter.mpr ⟨List.mem_append_right _ (List.mem_append_right _ (List.mem_append_left _ (List.mem_of_getElem? (i := 174) rfl))), rfl⟩
set_option maxRecDepth 20000 in
theorem wm_2_175 : Cond.code yX6_readEntry cX6_readEntry 6 (none : Option FieldType) ∈ pWA := List.mem_filter.mpr ⟨List.mem_append_right _ (List.mem_append_right _ (List.mem_append_left _ (List.mem_of_getElem? (i := 175) rfl))), rfl⟩
set_option maxRecDepth 20000 in
theorem wm_2_176 : Cond.methodLink RX6 42 yX6_kindOf ∈ pWA := List.mem_filter.mpr ⟨List.mem_append_right _ (List.mem_append_right _ (List.mem_append_left _ (List.mem_of_getElem? (i := 176) rfl))), rfl⟩
set_option maxRecDepth 20000 in
theorem wm_2_177 : Cond.static yX6_kindOf ∈ pWA := List.mem_filter.mpr ⟨List.mem_append_right _ (List.mem_append_right _ (List.mem_append_left _ (List.mem_of_getElem? (i := 177) rfl))), rfl⟩
set_option maxRecDepth 20000 in
theorem wm_2_178 : Cond.code yX6_kindOf cX6_kindOf 1 (some FieldType.int) ∈ pWA := List.mem_filter.mpr ⟨List.mem_append_right _ (List.mem_append_right _ (List.mem_append_left _ (List.mem_of_getElem? (i := 178) rfl))), rfl⟩
set_option maxRecDepth 20000 in
theorem wm_2_179 : Cond.methodLink RX6 46 yX6_note ∈ pWA := List.mem_filter.mpr ⟨List.mem_append_right _ (List.mem_append_right _ (List.mem_append_left _ (List.mem_of_getElem? (i := 179) rfl))), rfl⟩
set_option maxRecDepth 20000 in
theorem wm_2_181 : Cond.instanceMethod yX6_note ∈ pWA := List.mem_filter.mpr ⟨List.mem_append_right _ (List.mem_append_right _ (List.mem_append_left _ (List.mem_of_getElem? (i := 181) rfl))), rfl⟩
set_option maxRecDepth 20000 in
theorem wm_2_182 : Cond.code yX6_note cX6_note 3 (none : Option FieldType) ∈ pWA := List.mem_filter.mpr ⟨List.mem_append_right _ (List.mem_append_right _ (List.mem_append_left _ (List.mem_of_getElem? (i := 182) rfl))), rfl⟩
set_option maxRecDepth 20000 in
theorem wm_2_183 : Cond.methodLink RX6 50 yX6_readNumber ∈ pWA := List.mem_filter.mpr ⟨List.mem_append_right _ (List.mem_append_right _ (List.mem_append_left _ (List.mem_of_getElem? (i := 183) rfl))), rfl⟩
set_option maxRecDepth 20000 in
theorem wm_2_185 : Cond.instanceMethod yX6_readNumber ∈ pWA := List.mem_filter.mpr ⟨List.mem_append_right _ (List.mem_append_right _ (List.mem_append_left _ (List.mem_of_getElem? (i := 185) rfl))), rfl⟩
set_option maxRecDepth 20000 in
theorem wm_2_186 : Cond.code yX6_readNumber cX6_readNumber 7 (some FieldType.int) ∈ pWA := List.mem_filter.mpr ⟨List.mem_append_right _ (List.mem_append_right _ (List.mem_append_left _ (List.mem_of_getElem? (i := 186) rfl))), rfl⟩
set_option maxRecDepth 20000 in
theorem wm_2_187 : Cond.methodLink RX6 68 yX6_isDigit ∈ pWA := List.mem_filter.mpr ⟨List.mem_append_right _ (List.mem_append_right _ (List.mem_append_left _ (List.mem_of_getElem? (i := 187) rfl))), rfl⟩
set_option maxRecDepth 20000 in
theorem wm_2_188 : Cond.static yX6_isDigit ∈ pWA := List.mem_filter.mpr ⟨List.mem_append_right _ (List.mem_append_right _ (List.mem_append_left _ (List.mem_of_getElem? (i := 188) rfl))), rfl⟩
set_option maxRecDepth 20000 in
theorem wm_2_189 : Cond.code yX6_isDigit cX6_isDigit 1 (some FieldType.boolean) ∈ pWA := List.mem_filter.mpr ⟨List.mem_append_right _ (List.mem_append_right _ (List.mem_append_left _ (List.mem_of_getElem? (i := 189) rfl))), rfl⟩
set_option maxRecDepth 20000 in
theorem wm_2_190 : Cond.methodLink RX6 54 yX6_noteWrongByte ∈ pWA := List.mem_filter.mpr ⟨List.mem_append_right _ (List.mem_append_right _ (List.mem_append_left _ (List.mem_of_getElem? (i := 190) rfl))), rfl⟩
set_option maxRecDepth 20000 in
theorem wm_2_192 : Cond.instanceMethod yX6_noteWrongByte ∈ pWA := List.mem_filter.mpr ⟨List.mem_append_right _ (List.mem_append_right _ (List.mem_append_left _ (List.mem_of_getElem? (i := 192) rfl))), rfl⟩
set_option maxRecDepth 20000 in
theorem wm_2_193 : Cond.code yX6_noteWrongByte cX6_noteWrongByte 2 (none : Option FieldType) ∈ pWA := List.mem_filter.mpr ⟨List.mem_append_right _ (List.mem_append_right _ (List.mem_append_left _ (List.mem_of_getElem? (i := 193) rfl))), rfl⟩
set_option maxRecDepth 20000 in
theorem wm_2_194 : Cond.methodLink RX6 58 yX6_leastOf ∈ pWA := List.mem_filter.mpr ⟨List.mem_append_right _ (List.mem_append_right _ (List.mem_append_left _ (List.mem_of_getElem? (i := 194) rfl))), rfl⟩
set_option maxRecDepth 20000 in
theorem wm_2_195 : Cond.static yX6_leastOf ∈ pWA := List.mem_filter.mpr ⟨List.mem_append_right _ (List.mem_append_right _ (List.mem_append_left _ (List.mem_of_getElem? (i := 195) rfl))), rfl⟩
set_option maxRecDepth 20000 in
theorem wm_2_196 : Cond.code yX6_leastOf cX6_leastOf 1 (some FieldType.int) ∈ pWA := List.mem_filter.mpr ⟨List.mem_append_right _ (List.mem_append_right _ (List.mem_append_left _ (List.mem_of_getElem? (i := 196) rfl))), rfl⟩
set_option maxRecDepth 20000 in
theorem wm_2_197 : Cond.methodLink RX6 61 yX6_mostOf ∈ pWA := List.mem_filter.mpr ⟨List.mem_append_right _ (List.mem_append_right _ (List.mem_append_left _ (List.mem_of_getElem? (i := 197) rfl))), rfl⟩
set_option maxRecDepth 20000 in
theorem wm_2_198 : Cond.static yX6_mostOf ∈ pWA := List.mem_filter.mpr ⟨List.mem_append_right _ (List.mem_append_right _ (List.mem_append_left _ (List.mem_of_getElem? (i := 198) rfl))), rfl⟩
set_option maxRecDepth 20000 in
theorem wm_2_199 : Cond.code yX6_mostOf cX6_mostOf 1 (some FieldType.int) ∈ pWA := List.mem_filter.mpr ⟨List.mem_append_right _ (List.mem_append_right _ (List.mem_append_left _ (List.mem_of_getElem? (i := 199) rfl))), rfl⟩
set_option maxRecDepth 20000 in
theorem wm_2_200 : Cond.methodLink RX6 64 yX7_insert ∈ pWA := List.mem_filter.mpr ⟨List.mem_append_right _ (List.mem_append_right _ (List.mem_append_left _ (List.mem_of_getElem? (i := 200) rfl))), rfl⟩
set_option maxRecDepth 20000 in
theorem wm_2_201 : Cond.instanceMethod yX7_insert ∈ pWA := List.mem_filter.mpr ⟨List.mem_append_right _ (List.mem_append_right _ (List.mem_append_left _ (List.mem_of_getElem? (i := 201) rfl))), rfl⟩
set_option maxRecDepth 20000 in
theorem wm_2_202 : Cond.selects RX7 yX7_insert yX7_insert ∈ pWA := List.mem_filter.mpr ⟨List.mem_append_right _ (List.mem_append_right _ (List.mem_append_left _ (List.mem_of_getElem? (i := 202) rfl))), rfl⟩
set_option maxRecDepth 20000 in
theorem wm_2_203 : Cond.code yX7_insert cX7_insert 5 (none : Option FieldType) ∈ pWA := List.mem_filter.mpr ⟨List.mem_append_right _ (List.mem_append_right _ (List.mem_append_left _ (List.mem_of_getElem? (i := 203) rfl))), rfl⟩
set_option maxRecDepth 20000 in
theorem wm_2_204 : Cond.methodLink RX8 136 yX7_copyFrom ∈ pWA := List.mem_filter.mpr ⟨List.mem_append_right _ (List.mem_append_right _ (List.mem_append_left _ (List.mem_of_getElem? (i := 204) rfl))), rfl⟩
set_option maxRecDepth 20000 in
theorem wm_2_205 : Cond.methodLink RL 45 yX8_run ∈ pWA := List.mem_filter.mpr ⟨List.mem_append_right _ (List.mem_append_right _ (List.mem_append_left _ (List.mem_of_getElem? (i := 205) rfl))), rfl⟩
set_option maxRecDepth 20000 in
theorem wm_2_206 : Cond.instanceMethod yX8_run ∈ pWA := List.mem_filter.mpr ⟨List.mem_append_right _ (List.mem_append_right _ (List.mem_append_left _ (List.mem_of_getElem? (i := 206) rfl))), rfl⟩
set_option maxRecDepth 20000 in
theorem wm_2_207 : Cond.selects RX8 yX8_run yX8_run ∈ pWA := List.mem_filter.mpr ⟨List.mem_append_right _ (List.mem_append_right _ (List.mem_append_left _ (List.mem_of_getElem? (i := 207) rfl))), rfl⟩
set_option maxRecDepth 20000 in
theorem wm_2_208 : Cond.code yX8_run cX8_run 2 (some FieldType.int) ∈ pWA := List.mem_filter.mpr ⟨List.mem_append_right _ (List.mem_append_right _ (List.mem_append_left _ (List.mem_of_getElem? (i := 208) rfl))), rfl⟩
set_option maxRecDepth 20000 in
theorem wm_2_209 : Cond.methodLink RX8 145 yX5_doTicks ∈ pWA := List.mem_filter.mpr ⟨List.mem_append_right _ (List.mem_append_right _ (List.mem_append_left _ (List.mem_of_getElem? (i := 209) rfl))), rfl⟩
set_option maxRecDepth 20000 in
theorem wm_2_210 : Cond.instanceMethod yX5_doTicks ∈ pWA := List.mem_filter.mpr ⟨List.mem_append_right _ (List.mem_append_right _ (List.mem_append_left _ (List.mem_of_getElem? (i := 210) rfl))), rfl⟩
set_option maxRecDepth 20000 in
theorem wm_2_211 : Cond.selects RX5 yX5_doTicks yX5_doTicks ∈ pWA := List.mem_filter.mpr ⟨List.mem_append_right _ (List.mem_append_right _ (List.mem_append_left _ (List.mem_of_getElem? (i := 211) rfl))), rfl⟩
set_option maxRecDepth 20000 in
theorem wm_2_212 : Cond.code yX5_doTicks cX5_doTicks 4 (some FieldType.int) ∈ pWA := List.mem_filter.mpr ⟨List.mem_append_right _ (List.mem_append_right _ (List.mem_append_left _ (List.mem_of_getElem? (i := 212) rfl))), rfl⟩
set_option maxRecDepth 20000 in
theorem wm_2_213 : Cond.methodLink RX5 122 yX0_paperOfAll ∈ pWA := List.mem_filter.mpr ⟨List.mem_append_right _ (List.mem_append_right _ (List.mem_append_left _ (List.mem_of_getElem? (i := 213) rfl))), rfl⟩
set_option maxRecDepth 20000 in
theorem wm_2_214 : Cond.instanceMethod yX0_paperOfAll ∈ pWA := List.mem_filter.mpr ⟨List.mem_append_right _ (List.mem_append_right _ (List.mem_append_left _ (List.mem_of_getElem? (i := 214) rfl))), rfl⟩
set_option maxRecDepth 20000 in
theorem wm_2_215 : Cond.selects RX0 yX0_paperOfAll yX0_paperOfAll ∈ pWA := List.mem_filter.mpr ⟨List.mem_append_right _ (List.mem_append_right _ (List.mem_append_left _ (List.mem_of_getElem? (i := 215) rfl))), rfl⟩
set_option maxRecDepth 20000 in
theorem wm_2_216 : Cond.code yX0_paperOfAll cX0_paperOfAll 3 (some FieldType.int) ∈ pWA := List.mem_filter.mpr ⟨List.mem_append_right _ (List.mem_append_right _ (List.mem_append_left _ (List.mem_of_getElem? (i := 216) rfl))), rfl⟩
set_option maxRecDepth 20000 in
theorem wm_2_217 : Cond.methodLink RX5 126 yX5_tick ∈ pWA := List.mem_filter.mpr ⟨List.mem_append_right _ (List.mem_append_right _ (List.mem_append_left _ (List.mem_of_getElem? (i := 217) rfl))), rfl⟩
set_option maxRecDepth 20000 in
theorem wm_2_218 : Cond.instanceMethod yX5_tick ∈ pWA := List.mem_filter.mpr ⟨List.mem_append_right _ (List.mem_append_right _ (List.mem_append_left _ (List.mem_of_getElem? (i := 218) rfl))), rfl⟩
set_option maxRecDepth 20000 in
theorem wm_2_219 : Cond.selects RX5 yX5_tick yX5_tick ∈ pWA := List.mem_filter.mpr ⟨List.mem_append_right _ (List.mem_append_right _ (List.mem_append_left _ (List.mem_of_getElem? (i := 219) rfl))), rfl⟩
set_option maxRecDepth 20000 in
theorem wm_2_220 : Cond.code yX5_tick cX5_tick 2 (some FieldType.boolean) ∈ pWA := List.mem_filter.mpr ⟨List.mem_append_right _ (List.mem_append_right _ (List.mem_append_left _ (List.mem_of_getElem? (i := 220) rfl))), rfl⟩
set_option maxRecDepth 20000 in
theorem wm_2_221 : Cond.methodLink RX5 130 yX5_carryOutSchedule ∈ pWA := List.mem_filter.mpr ⟨List.mem_append_right _ (List.mem_append_right _ (List.mem_append_left _ (List.mem_of_getElem? (i := 221) rfl))), rfl⟩
set_option maxRecDepth 20000 in
theorem wm_2_223 : Cond.instanceMethod yX5_carryOutSchedule ∈ pWA := List.mem_filter.mpr ⟨List.mem_append_right _ (List.mem_append_right _ (List.mem_append_left _ (List.mem_of_getElem? (i := 223) rfl))), rfl⟩
set_option maxRecDepth 20000 in
theorem wm_2_224 : Cond.code yX5_carryOutSchedule cX5_carryOutSchedule 2 (none : Option FieldType) ∈ pWA := List.mem_filter.mpr ⟨List.mem_append_right _ (List.mem_append_right _ (List.mem_append_left _ (List.mem_of_getElem? (i := 224) rfl))), rfl⟩
set_option maxRecDepth 20000 in
theorem wm_2_225 : Cond.methodLink RX5 174 yX5_carryOut ∈ pWA := List.mem_filter.mpr ⟨List.mem_append_right _ (List.mem_append_right _ (List.mem_append_left _ (List.mem_of_getElem? (i := 225) rfl))), rfl⟩
set_option maxRecDepth 20000 in
theorem wm_2_227 : Cond.instanceMethod yX5_carryOut ∈ pWA := List.mem_filter.mpr ⟨List.mem_append_right _ (List.mem_append_right _ (List.mem_append_left _ (List.mem_of_getElem? (i := 227) rfl))), rfl⟩
set_option maxRecDepth 20000 in
theorem wm_2_228 : Cond.code yX5_carryOut cX5_carryOut 3 (none : Option FieldType) ∈ pWA := List.mem_filter.mpr ⟨List.mem_append_right _ (List.mem_append_right _ (List.mem_append_left _ (List.mem_of_getElem? (i := 228) rfl))), rfl⟩
set_option maxRecDepth 20000 in
theorem wm_2_229 : Cond.methodLink RX5 177 yX5_breakSheet ∈ pWA := List.mem_filter.mpr ⟨List.mem_append_right _ (List.mem_append_right _ (List.mem_append_left _ (List.mem_of_getElem? (i := 229) rfl))), rfl⟩
set_option maxRecDepth 20000 in
theorem wm_2_230 : Cond.methodLink RX5 180 yX5_turnTo ∈ pWA := List.mem_filter.mpr ⟨List.mem_append_right _ (List.mem_append_right _ (List.mem_append_left _ (List.mem_of_getElem? (i := 230) rfl))), rfl⟩
set_option maxRecDepth 20000 in
theorem wm_2_231 : Cond.methodLink RX5 136 yX5_pour ∈ pWA := List.mem_filter.mpr ⟨List.mem_append_right _ (List.mem_append_right _ (List.mem_append_left _ (List.mem_of_getElem? (i := 231) rfl))), rfl⟩
set_option maxRecDepth 20000 in
theorem wm_2_232 : Cond.methodLink RX5 140 yX5_feedMixing ∈ pWA := List.mem_filter.mpr ⟨List.mem_append_right _ (List.mem_append_right _ (List.mem_append_left _ (List.mem_of_getElem? (i := 232) rfl))), rfl⟩
set_option maxRecDepth 20000 in
theorem wm_2_234 : Cond.instanceMethod yX5_feedMixing ∈ pWA := List.mem_filter.mpr ⟨List.mem_append_right _ (List.mem_append_right _ (List.mem_append_left _ (List.mem_of_getElem? (i := 234) rfl))), rfl⟩
set_option maxRecDepth 20000 in
theorem wm_2_235 : Cond.code yX5_feedMixing cX5_feedMixing 6 (none : Option FieldType) ∈ pWA := List.mem_filter.mpr ⟨List.mem_append_right _ (List.mem_append_right _ (List.mem_append_left _ (List.mem_of_getElem? (i := 235) rfl))), rfl⟩
set_option maxRecDepth 20000 in
theorem wm_2_236 : Cond.methodLink RX5 183 yX1_missing ∈ pWA := List.mem_filter.mpr ⟨List.mem_append_right _ (List.mem_append_right _ (List.mem_append_left _ (List.mem_of_getElem? (i := 236) rfl))), rfl⟩
set_option maxRecDepth 20000 in
theorem wm_2_237 : Cond.instanceMethod yX1_missing ∈ pWA := List.mem_filter.mpr ⟨List.mem_append_right _ (List.mem_append_right _ (List.mem_append_left _ (List.mem_of_getElem? (i := 237) rfl))), rfl⟩
set_option maxRecDepth 20000 in
theorem wm_2_238 : Cond.selects RX1 yX1_missing yX1_missing ∈ pWA := List.mem_filter.mpr ⟨List.mem_append_right _ (List.mem_append_right _ (List.mem_append_left _ (List.mem_of_getElem? (i := 238) rfl))), rfl⟩
set_option maxRecDepth 20000 in
theorem wm_2_239 : Cond.code yX1_missing cX1_missing 1 (some FieldType.int) ∈ pWA := List.mem_filter.mpr ⟨List.mem_append_right _ (List.mem_append_right _ (List.mem_append_left _ (List.mem_of_getElem? (i := 239) rfl))), rfl⟩
set_option maxRecDepth 20000 in
theorem wm_3_0 : Cond.methodLink RX5 186 yJ9_min_7cf53 ∈ pWA := List.mem_filter.mpr ⟨List.mem_append_right _ (List.mem_append_right _ (List.mem_append_right _ (List.mem_append_left _ (List.mem_of_getElem? (i := 0) rfl)))), rfl⟩
set_option maxRecDepth 20000 in
theorem wm_3_1 : Cond.methodLink RX5 189 yX1_there ∈ pWA := List.mem_filter.mpr ⟨List.mem_append_right _ (List.mem_append_right _ (List.mem_append_right _ (List.mem_append_left _ (List.mem_of_getElem? (i := 1) rfl)))), rfl⟩
set_option maxRecDepth 20000 in
theorem wm_3_2 : Cond.methodLink RX5 193 yX1_takeOut ∈ pWA := List.mem_filter.mpr ⟨List.mem_append_right _ (List.mem_append_right _ (List.mem_append_right _ (List.mem_append_left _ (List.mem_of_getElem? (i := 2) rfl)))), rfl⟩
set_option maxRecDepth 20000 in
theorem wm_3_3 : Cond.methodLink RX5 196 yX5_reasonOf ∈ pWA := List.mem_filter.mpr ⟨List.mem_append_right _ (List.mem_append_right _ (List.mem_append_right _ (List.mem_append_left _ (List.mem_of_getElem? (i := 3) rfl)))), rfl⟩
set_option maxRecDepth 20000 in
theorem wm_3_5 : Cond.instanceMethod yX5_reasonOf ∈ pWA := List.mem_filter.mpr ⟨List.mem_append_right _ (List.mem_append_right _ (List.mem_append_right _ (List.mem_append_left _ (List.mem_of_getElem? (i := 5) rfl)))), rfl⟩
set_option maxRecDepth 20000 in
theorem wm_3_6 : Cond.code yX5_reasonOf cX5_reasonOf 4 (some FieldType.int) ∈ pWA := List.mem_filter.mpr ⟨List.mem_append_right _ (List.mem_append_right _ (List.mem_append_right _ (List.mem_append_left _ (List.mem_of_getElem? (i := 6) rfl)))), rfl⟩
set_option maxRecDepth 20000 in
theorem wm_3_7 : Cond.methodLink RX5 143 yX5_feedMachine ∈ pWA := List.mem_filter.mpr ⟨List.mem_append_right _ (List.mem_append_right _ (List.mem_append_right _ (List.mem_append_left _ (List.mem_of_getElem? (i := 7) rfl)))), rfl⟩
set_option maxRecDepth 20000 in
theorem wm_3_9 : Cond.instanceMethod yX5_feedMachine ∈ pWA := List.mem_filter.mpr ⟨List.mem_append_right _ (List.mem_append_right _ (List.mem_append_right _ (List.mem_append_left _ (List.mem_of_getElem? (i := 9) rfl)))), rfl⟩
set_option maxRecDepth 20000 in
theorem wm_3_10 : Cond.code yX5_feedMachine cX5_feedMachine 4 (none : Option FieldType) ∈ pWA := List.mem_filter.mpr ⟨List.mem_append_right _ (List.mem_append_right _ (List.mem_append_right _ (List.mem_append_left _ (List.mem_of_getElem? (i := 10) rfl)))), rfl⟩
set_option maxRecDepth 20000 in
theorem wm_3_11 : Cond.methodLink RX5 146 yX1_consistency ∈ pWA := List.mem_filter.mpr ⟨List.mem_append_right _ (List.mem_append_right _ (List.mem_append_right _ (List.mem_append_left _ (List.mem_of_getElem? (i := 11) rfl)))), rfl⟩
set_option maxRecDepth 20000 in
theorem wm_3_12 : Cond.instanceMethod yX1_consistency ∈ pWA := List.mem_filter.mpr ⟨List.mem_append_right _ (List.mem_append_right _ (List.mem_append_right _ (List.mem_append_left _ (List.mem_of_getElem? (i := 12) rfl)))), rfl⟩
set_option maxRecDepth 20000 in
theorem wm_3_13 : Cond.selects RX1 yX1_consistency yX1_consistency ∈ pWA := List.mem_filter.mpr ⟨List.mem_append_right _ (List.mem_append_right _ (List.mem_append_right _ (List.mem_append_left _ (List.mem_of_getElem? (i := 13) rfl)))), rfl⟩
set_option maxRecDepth 20000 in
theorem wm_3_14 : Cond.code yX1_consistency cX1_consistency 2 (some FieldType.int) ∈ pWA := List.mem_filter.mpr ⟨List.mem_append_right _ (List.mem_append_right _ (List.mem_append_right _ (List.mem_append_left _ (List.mem_of_getElem? (i := 14) rfl)))), rfl⟩
set_option maxRecDepth 20000 in
theorem wm_3_15 : Cond.methodLink RX5 149 yX2_measure ∈ pWA := List.mem_filter.mpr ⟨List.mem_append_right _ (List.mem_append_right _ (List.mem_append_right _ (List.mem_append_left _ (List.mem_of_getElem? (i := 15) rfl)))), rfl⟩
set_option maxRecDepth 20000 in
theorem wm_3_16 : Cond.instanceMethod yX2_measure ∈ pWA := List.mem_filter.mpr ⟨List.mem_append_right _ (List.mem_append_right _ (List.mem_append_right _ (List.mem_append_left _ (List.mem_of_getElem? (i := 16) rfl)))), rfl⟩
set_option maxRecDepth 20000 in
theorem wm_3_17 : Cond.selects RX2 yX2_measure yX2_measure ∈ pWA := List.mem_filter.mpr ⟨List.mem_append_right _ (List.mem_append_right _ (List.mem_append_right _ (List.mem_append_left _ (List.mem_of_getElem? (i := 17) rfl)))), rfl⟩
set_option maxRecDepth 20000 in
theorem wm_3_18 : Cond.code yX2_measure cX2_measure 3 (none : Option FieldType) ∈ pWA := List.mem_filter.mpr ⟨List.mem_append_right _ (List.mem_append_right _ (List.mem_append_right _ (List.mem_append_left _ (List.mem_of_getElem? (i := 18) rfl)))), rfl⟩
set_option maxRecDepth 20000 in
theorem wm_3_19 : Cond.methodLink RX2 26 yJ9_min_7cf53 ∈ pWA := List.mem_filter.mpr ⟨List.mem_append_right _ (List.mem_append_right _ (List.mem_append_right _ (List.mem_append_left _ (List.mem_of_getElem? (i := 19) rfl)))), rfl⟩
set_option maxRecDepth 20000 in
theorem wm_3_20 : Cond.methodLink RX5 152 yX2_control ∈ pWA := List.mem_filter.mpr ⟨List.mem_append_right _ (List.mem_append_right _ (List.mem_append_right _ (List.mem_append_left _ (List.mem_of_getElem? (i := 20) rfl)))), rfl⟩
set_option maxRecDepth 20000 in
theorem wm_3_21 : Cond.instanceMethod yX2_control ∈ pWA := List.mem_filter.mpr ⟨List.mem_append_right _ (List.mem_append_right _ (List.mem_append_right _ (List.mem_append_left _ (List.mem_of_getElem? (i := 21) rfl)))), rfl⟩
set_option maxRecDepth 20000 in
theorem wm_3_22 : Cond.selects RX2 yX2_control yX2_control ∈ pWA := List.mem_filter.mpr ⟨List.mem_append_right _ (List.mem_append_right _ (List.mem_append_right _ (List.mem_append_left _ (List.mem_of_getElem? (i := 22) rfl)))), rfl⟩
set_option maxRecDepth 20000 in
theorem wm_3_23 : Cond.code yX2_control cX2_control 5 (none : Option FieldType) ∈ pWA := List.mem_filter.mpr ⟨List.mem_append_right _ (List.mem_append_right _ (List.mem_append_right _ (List.mem_append_left _ (List.mem_of_getElem? (i := 23) rfl)))), rfl⟩
set_option maxRecDepth 20000 in
theorem wm_3_24 : Cond.methodLink RX2 32 yJ9_max_7cf53 ∈ pWA := List.mem_filter.mpr ⟨List.mem_append_right _ (List.mem_append_right _ (List.mem_append_right _ (List.mem_append_left _ (List.mem_of_getElem? (i := 24) rfl)))), rfl⟩
set_option maxRecDepth 20000 in
theorem wm_3_25 : Cond.methodLink RX5 156 yX5_makeSheet ∈ pWA := List.mem_filter.mpr ⟨List.mem_append_right _ (List.mem_append_right _ (List.mem_append_right _ (List.mem_append_left _ (List.mem_of_getElem? (i := 25) rfl)))), rfl⟩
set_option maxRecDepth 20000 in
theorem wm_3_27 : Cond.instanceMethod yX5_makeSheet ∈ pWA := List.mem_filter.mpr ⟨List.mem_append_right _ (List.mem_append_right _ (List.mem_append_right _ (List.mem_append_left _ (List.mem_of_getElem? (i := 27) rfl)))), rfl⟩
set_option maxRecDepth 20000 in
theorem wm_3_28 : Cond.code yX5_makeSheet cX5_makeSheet 3 (some FieldType.boolean) ∈ pWA := List.mem_filter.mpr ⟨List.mem_append_right _ (List.mem_append_right _ (List.mem_append_right _ (List.mem_append_left _ (List.mem_of_getElem? (i := 28) rfl)))), rfl⟩
set_option maxRecDepth 20000 in
theorem wm_3_29 : Cond.methodLink RX5 203 yX5_countPaper ∈ pWA := List.mem_filter.mpr ⟨List.mem_append_right _ (List.mem_append_right _ (List.mem_append_right _ (List.mem_append_left _ (List.mem_of_getElem? (i := 29) rfl)))), rfl⟩
set_option maxRecDepth 20000 in
theorem wm_3_31 : Cond.instanceMethod yX5_countPaper ∈ pWA := List.mem_filter.mpr ⟨List.mem_append_right _ (List.mem_append_right _ (List.mem_append_right _ (List.mem_append_left _ (List.mem_of_getElem? (i := 31) rfl)))), rfl⟩
set_option maxRecDepth 20000 in
theorem wm_3_32 : Cond.code yX5_countPaper cX5_countPaper 2 (none : Option FieldType) ∈ pWA := List.mem_filter.mpr ⟨List.mem_append_right _ (List.mem_append_right _ (List.mem_append_right _ (List.mem_append_left _ (List.mem_of_getElem? (i := 32) rfl)))), rfl⟩
set_option maxRecDepth 20000 in
theorem wm_3_33 : Cond.methodLink RX5 159 yX5_noteSums ∈ pWA := List.mem_filter.mpr ⟨List.mem_append_right _ (List.mem_append_right _ (List.mem_append_right _ (List.mem_append_left _ (List.mem_of_getElem? (i := 33) rfl)))), rfl⟩
set_option maxRecDepth 20000 in
theorem wm_3_35 : Cond.instanceMethod yX5_noteSums ∈ pWA := List.mem_filter.mpr ⟨List.mem_append_right _ (List.mem_append_right _ (List.mem_append_right _ (List.mem_append_left _ (List.mem_of_getElem? (i := 35) rfl)))), rfl⟩
set_option maxRecDepth 20000 in
theorem wm_3_36 : Cond.code yX5_noteSums cX5_noteSums 1 (none : Option FieldType) ∈ pWA := List.mem_filter.mpr ⟨List.mem_append_right _ (List.mem_append_right _ (List.mem_append_right _ (List.mem_append_left _ (List.mem_of_getElem? (i := 36) rfl)))), rfl⟩
set_option maxRecDepth 20000 in
theorem wm_3_37 : Cond.methodLink RX5 211 yX1_noteSum ∈ pWA := List.mem_filter.mpr ⟨List.mem_append_right _ (List.mem_append_right _ (List.mem_append_right _ (List.mem_append_left _ (List.mem_of_getElem? (i := 37) rfl)))), rfl⟩
set_option maxRecDepth 20000 in
theorem wm_3_38 : Cond.instanceMethod yX1_noteSum ∈ pWA := List.mem_filter.mpr ⟨List.mem_append_right _ (List.mem_append_right _ (List.mem_append_right _ (List.mem_append_left _ (List.mem_of_getElem? (i := 38) rfl)))), rfl⟩
set_option maxRecDepth 20000 in
theorem wm_3_39 : Cond.selects RX1 yX1_noteSum yX1_noteSum ∈ pWA := List.mem_filter.mpr ⟨List.mem_append_right _ (List.mem_append_right _ (List.mem_append_right _ (List.mem_append_left _ (List.mem_of_getElem? (i := 39) rfl)))), rfl⟩
set_option maxRecDepth 20000 in
theorem wm_3_40 : Cond.code yX1_noteSum cX1_noteSum 1 (none : Option FieldType) ∈ pWA := List.mem_filter.mpr ⟨List.mem_append_right _ (List.mem_append_right _ (List.mem_append_right _ (List.mem_append_left _ (List.mem_of_getElem? (i := 40) rfl)))), rfl⟩
set_option maxRecDepth 20000 in
theorem wm_3_41 : Cond.methodLink RX1 32 yJ9_max_7cf53 ∈ pWA := List.mem_filter.mpr ⟨List.mem_append_right _ (List.mem_append_right _ (List.mem_append_right _ (List.mem_append_left _ (List.mem_of_getElem? (i := 41) rfl)))), rfl⟩
set_option maxRecDepth 20000 in
theorem wm_3_42 : Cond.methodLink RL 49 yX8_undo ∈ pWA := List.mem_filter.mpr ⟨List.mem_append_right _ (List.mem_append_right _ (List.mem_append_right _ (List.mem_append_left _ (List.mem_of_getElem? (i := 42) rfl)))), rfl⟩
set_option maxRecDepth 20000 in
theorem wm_3_43 : Cond.instanceMethod yX8_undo ∈ pWA := List.mem_filter.mpr ⟨List.mem_append_right _ (List.mem_append_right _ (List.mem_append_right _ (List.mem_append_left _ (List.mem_of_getElem? (i := 43) rfl)))), rfl⟩
set_option maxRecDepth 20000 in
theorem wm_3_44 : Cond.selects RX8 yX8_undo yX8_undo ∈ pWA := List.mem_filter.mpr ⟨List.mem_append_right _ (List.mem_append_right _ (List.mem_append_right _ (List.mem_append_left _ (List.mem_of_getElem? (i := 44) rfl)))), rfl⟩
set_option maxRecDepth 20000 in
theorem wm_3_45 : Cond.code yX8_undo cX8_undo 1 (some FieldType.int) ∈ pWA := List.mem_filter.mpr ⟨List.mem_append_right _ (List.mem_append_right _ (List.mem_append_right _ (List.mem_append_left _ (List.mem_of_getElem? (i := 45) rfl)))), rfl⟩
set_option maxRecDepth 20000 in
theorem wm_3_46 : Cond.methodLink RX8 149 yX3_restore ∈ pWA := List.mem_filter.mpr ⟨List.mem_append_right _ (List.mem_append_right _ (List.mem_append_right _ (List.mem_append_left _ (List.mem_of_getElem? (i := 46) rfl)))), rfl⟩
set_option maxRecDepth 20000 in
theorem wm_3_47 : Cond.instanceMethod yX3_restore ∈ pWA := List.mem_filter.mpr ⟨List.mem_append_right _ (List.mem_append_right _ (List.mem_append_right _ (List.mem_append_left _ (List.mem_of_getElem? (i := 47) rfl)))), rfl⟩
set_option maxRecDepth 20000 in
theorem wm_3_48 : Cond.selects RX3 yX3_restore yX3_restore ∈ pWA := List.mem_filter.mpr ⟨List.mem_append_right _ (List.mem_append_right _ (List.mem_append_right _ (List.mem_append_left _ (List.mem_of_getElem? (i := 48) rfl)))), rfl⟩
set_option maxRecDepth 20000 in
theorem wm_3_49 : Cond.code yX3_restore cX3_restore 3 (none : Option FieldType) ∈ pWA := List.mem_filter.mpr ⟨List.mem_append_right _ (List.mem_append_right _ (List.mem_append_right _ (List.mem_append_left _ (List.mem_of_getElem? (i := 49) rfl)))), rfl⟩
set_option maxRecDepth 20000 in
theorem wm_3_50 : Cond.methodLink RL 53 yX8_write ∈ pWA := List.mem_filter.mpr ⟨List.mem_append_right _ (List.mem_append_right _ (List.mem_append_right _ (List.mem_append_left _ (List.mem_of_getElem? (i := 50) rfl)))), rfl⟩
set_option maxRecDepth 20000 in
theorem wm_3_51 : Cond.instanceMethod yX8_write ∈ pWA := List.mem_filter.mpr ⟨List.mem_append_right _ (List.mem_append_right _ (List.mem_append_right _ (List.mem_append_left _ (List.mem_of_getElem? (i := 51) rfl)))), rfl⟩
set_option maxRecDepth 20000 in
theorem wm_3_52 : Cond.selects RX8 yX8_write yX8_write ∈ pWA := List.mem_filter.mpr ⟨List.mem_append_right _ (List.mem_append_right _ (List.mem_append_right _ (List.mem_append_left _ (List.mem_of_getElem? (i := 52) rfl)))), rfl⟩
set_option maxRecDepth 20000 in
theorem wm_3_53 : Cond.code yX8_write cX8_write 2 (some FieldType.int) ∈ pWA := List.mem_filter.mpr ⟨List.mem_append_right _ (List.mem_append_right _ (List.mem_append_right _ (List.mem_append_left _ (List.mem_of_getElem? (i := 53) rfl)))), rfl⟩
set_option maxRecDepth 20000 in
theorem wm_3_54 : Cond.methodLink RL 57 yX8_wipe ∈ pWA := List.mem_filter.mpr ⟨List.mem_append_right _ (List.mem_append_right _ (List.mem_append_right _ (List.mem_append_left _ (List.mem_of_getElem? (i := 54) rfl)))), rfl⟩
set_option maxRecDepth 20000 in
theorem wm_3_55 : Cond.instanceMethod yX8_wipe ∈ pWA := List.mem_filter.mpr ⟨List.mem_append_right _ (List.mem_append_right _ (List.mem_append_right _ (List.mem_append_left _ (List.mem_of_getElem? (i := 55) rfl)))), rfl⟩
set_option maxRecDepth 20000 in
theorem wm_3_56 : Cond.selects RX8 yX8_wipe yX8_wipe ∈ pWA := List.mem_filter.mpr ⟨List.mem_append_right _ (List.mem_append_right _ (List.mem_append_right _ (List.mem_append_left _ (List.mem_of_getElem? (i := 56) rfl)))), rfl⟩
set_option maxRecDepth 20000 in
theorem wm_3_57 : Cond.code yX8_wipe cX8_wipe 2 (some FieldType.int) ∈ pWA := List.mem_filter.mpr ⟨List.mem_append_right _ (List.mem_append_right _ (List.mem_append_right _ (List.mem_append_left _ (List.mem_of_getElem? (i := 57) rfl)))), rfl⟩
set_option maxRecDepth 20000 in
theorem wm_3_58 : Cond.methodLink RL 61 yX8_fault ∈ pWA := List.mem_filter.mpr ⟨List.mem_append_right _ (List.mem_append_right _ (List.mem_append_right _ (List.mem_append_left _ (List.mem_of_getElem? (i := 58) rfl)))), rfl⟩
set_option maxRecDepth 20000 in
theorem wm_3_59 : Cond.instanceMethod yX8_fault ∈ pWA := List.mem_filter.mpr ⟨List.mem_append_right _ (List.mem_append_right _ (List.mem_append_right _ (List.mem_append_left _ (List.mem_of_getElem? (i := 59) rfl)))), rfl⟩
set_option maxRecDepth 20000 in
theorem wm_3_60 : Cond.selects RX8 yX8_fault yX8_fault ∈ pWA := List.mem_filter.mpr ⟨List.mem_append_right _ (List.mem_append_right _ (List.mem_append_right _ (List.mem_append_left _ (List.mem_of_getElem? (i := 60) rfl)))), rfl⟩
set_option maxRecDepth 20000 in
theorem wm_3_61 : Cond.code yX8_fault cX8_fault 2 (some FieldType.int) ∈ pWA := List.mem_filter.mpr ⟨List.mem_append_right _ (List.mem_append_right _ (List.mem_append_right _ (List.mem_append_left _ (List.mem_of_getElem? (i := 61) rfl)))), rfl⟩
set_option maxRecDepth 20000 in
theorem wm_3_62 : Cond.methodLink RL 65 yX8_told ∈ pWA := List.mem_filter.mpr ⟨List.mem_append_right _ (List.mem_append_right _ (List.mem_append_right _ (List.mem_append_left _ (List.mem_of_getElem? (i := 62) rfl)))), rfl⟩
set_option maxRecDepth 20000 in
theorem wm_3_63 : Cond.instanceMethod yX8_told ∈ pWA := List.mem_filter.mpr ⟨List.mem_append_right _ (List.mem_append_right _ (List.mem_append_right _ (List.mem_append_left _ (List.mem_of_getElem? (i := 63) rfl)))), rfl⟩
set_option maxRecDepth 20000 in
theorem wm_3_64 : Cond.selects RX8 yX8_told yX8_told ∈ pWA := List.mem_filter.mpr ⟨List.mem_append_right _ (List.mem_append_right _ (List.mem_append_right _ (List.mem_append_left _ (List.mem_of_getElem? (i := 64) rfl)))), rfl⟩
set_option maxRecDepth 20000 in
theorem wm_3_65 : Cond.code yX8_told cX8_told 2 (some FieldType.int) ∈ pWA := List.mem_filter.mpr ⟨List.mem_append_right _ (List.mem_append_right _ (List.mem_append_right _ (List.mem_append_left _ (List.mem_of_getElem? (i := 65) rfl)))), rfl⟩
set_option maxRecDepth 20000 in
theorem wm_3_66 : Cond.methodLink RX8 170 yX2_latest ∈ pWA := List.mem_filter.mpr ⟨List.mem_append_right _ (List.mem_append_right _ (List.mem_append_right _ (List.mem_append_left _ (List.mem_of_getElem? (i := 66) rfl)))), rfl⟩
set_option maxRecDepth 20000 in
theorem wm_3_67 : Cond.instanceMethod yX2_latest ∈ pWA := List.mem_filter.mpr ⟨List.mem_append_right _ (List.mem_append_right _ (List.mem_append_right _ (List.mem_append_left _ (List.mem_of_getElem? (i := 67) rfl)))), rfl⟩
set_option maxRecDepth 20000 in
theorem wm_3_68 : Cond.selects RX2 yX2_latest yX2_latest ∈ pWA := List.mem_filter.mpr ⟨List.mem_append_right _ (List.mem_append_right _ (List.mem_append_right _ (List.mem_append_left _ (List.mem_of_getElem? (i := 68) rfl)))), rfl⟩
set_option maxRecDepth 20000 in
theorem wm_3_69 : Cond.code yX2_latest cX2_latest 1 (some FieldType.int) ∈ pWA := List.mem_filter.mpr ⟨List.mem_append_right _ (List.mem_append_right _ (List.mem_append_right _ (List.mem_append_left _ (List.mem_of_getElem? (i := 69) rfl)))), rfl⟩
set_option maxRecDepth 20000 in
theorem wm_3_70 : Cond.methodLink RX8 174 yX7_countAfter ∈ pWA := List.mem_filter.mpr ⟨List.mem_append_right _ (List.mem_append_right _ (List.mem_append_right _ (List.mem_append_left _ (List.mem_of_getElem? (i := 70) rfl)))), rfl⟩
set_option maxRecDepth 20000 in
theorem wm_3_71 : Cond.instanceMethod yX7_countAfter ∈ pWA := List.mem_filter.mpr ⟨List.mem_append_right _ (List.mem_append_right _ (List.mem_append_right _ (List.mem_append_left _ (List.mem_of_getElem? (i := 71) rfl)))), rfl⟩
set_option maxRecDepth 20000 in
theorem wm_3_72 : Cond.selects RX7 yX7_countAfter yX7_countAfter ∈ pWA := List.mem_filter.mpr ⟨List.mem_append_right _ (List.mem_append_right _ (List.mem_append_right _ (List.mem_append_left _ (List.mem_of_getElem? (i := 72) rfl)))), rfl⟩
set_option maxRecDepth 20000 in
theorem wm_3_73 : Cond.code yX7_countAfter cX7_countAfter 4 (some FieldType.int) ∈ pWA := List.mem_filter.mpr ⟨List.mem_append_right _ (List.mem_append_right _ (List.mem_append_right _ (List.mem_append_left _ (List.mem_of_getElem? (i := 73) rfl)))), rfl⟩
set_option maxRecDepth 20000 in
theorem wm_3_74 : Cond.methodLink RL 69 yX8_setting ∈ pWA := List.mem_filter.mpr ⟨List.mem_append_right _ (List.mem_append_right _ (List.mem_append_right _ (List.mem_append_left _ (List.mem_of_getElem? (i := 74) rfl)))), rfl⟩
set_option maxRecDepth 20000 in
theorem wm_3_75 : Cond.instanceMethod yX8_setting ∈ pWA := List.mem_filter.mpr ⟨List.mem_append_right _ (List.mem_append_right _ (List.mem_append_right _ (List.mem_append_left _ (List.mem_of_getElem? (i := 75) rfl)))), rfl⟩
set_option maxRecDepth 20000 in
theorem wm_3_76 : Cond.selects RX8 yX8_setting yX8_setting ∈ pWA := List.mem_filter.mpr ⟨List.mem_append_right _ (List.mem_append_right _ (List.mem_append_right _ (List.mem_append_left _ (List.mem_of_getElem? (i := 76) rfl)))), rfl⟩
set_option maxRecDepth 20000 in
theorem wm_3_77 : Cond.code yX8_setting cX8_setting 2 (some FieldType.int) ∈ pWA := List.mem_filter.mpr ⟨List.mem_append_right _ (List.mem_append_right _ (List.mem_append_right _ (List.mem_append_left _ (List.mem_of_getElem? (i := 77) rfl)))), rfl⟩
set_option maxRecDepth 20000 in
theorem wm_3_78 : Cond.methodLink RL 73 yX8_chest ∈ pWA := List.mem_filter.mpr ⟨List.mem_append_right _ (List.mem_append_right _ (List.mem_append_right _ (List.mem_append_left _ (List.mem_of_getElem? (i := 78) rfl)))), rfl⟩
set_option maxRecDepth 20000 in
theorem wm_3_79 : Cond.instanceMethod yX8_chest ∈ pWA := List.mem_filter.mpr ⟨List.mem_append_right _ (List.mem_append_right _ (List.mem_append_right _ (List.mem_append_left _ (List.mem_of_getElem? (i := 79) rfl)))), rfl⟩
set_option maxRecDepth 20000 in
theorem wm_3_80 : Cond.selects RX8 yX8_chest yX8_chest ∈ pWA := List.mem_filter.mpr ⟨List.mem_append_right _ (List.mem_append_right _ (List.mem_append_right _ (List.mem_append_left _ (List.mem_of_getElem? (i := 80) rfl)))), rfl⟩
set_option maxRecDepth 20000 in
theorem wm_3_81 : Cond.code yX8_chest cX8_chest 4 (some FieldType.int) ∈ pWA := List.mem_filter.mpr ⟨List.mem_append_right _ (List.mem_append_right _ (List.mem_append_right _ (List.mem_append_left _ (List.mem_of_getElem? (i := 81) rfl)))), rfl⟩
set_option maxRecDepth 20000 in
theorem wm_3_82 : Cond.methodLink RX8 186 yX1_consistency ∈ pWA := List.mem_filter.mpr ⟨List.mem_append_right _ (List.mem_append_right _ (List.mem_append_right _ (List.mem_append_left _ (List.mem_of_getElem? (i := 82) rfl)))), rfl⟩
set_option maxRecDepth 20000 in
theorem wm_3_83 : Cond.methodLink RX8 189 yX1_missing ∈ pWA := List.mem_filter.mpr ⟨List.mem_append_right _ (List.mem_append_right _ (List.mem_append_right _ (List.mem_append_left _ (List.mem_of_getElem? (i := 83) rfl)))), rfl⟩
set_option maxRecDepth 20000 in
theorem wm_3_84 : Cond.methodLink RL 77 yX8_account ∈ pWA := List.mem_filter.mpr ⟨List.mem_append_right _ (List.mem_append_right _ (List.mem_append_right _ (List.mem_append_left _ (List.mem_of_getElem? (i := 84) rfl)))), rfl⟩
set_option maxRecDepth 20000 in
theorem wm_3_85 : Cond.instanceMethod yX8_account ∈ pWA := List.mem_filter.mpr ⟨List.mem_append_right _ (List.mem_append_right _ (List.mem_append_right _ (List.mem_append_left _ (List.mem_of_getElem? (i := 85) rfl)))), rfl⟩
set_option maxRecDepth 20000 in
theorem wm_3_86 : Cond.selects RX8 yX8_account yX8_account ∈ pWA := List.mem_filter.mpr ⟨List.mem_append_right _ (List.mem_append_right _ (List.mem_append_right _ (List.mem_append_left _ (List.mem_of_getElem? (i := 86) rfl)))), rfl⟩
set_option maxRecDepth 20000 in
theorem wm_3_87 : Cond.code yX8_account cX8_account 2 (some FieldType.int) ∈ pWA := List.mem_filter.mpr ⟨List.mem_append_right _ (List.mem_append_right _ (List.mem_append_right _ (List.mem_append_left _ (List.mem_of_getElem? (i := 87) rfl)))), rfl⟩
set_option maxRecDepth 20000 in
theorem wm_3_88 : Cond.methodLink RX8 198 yX0_paperOfAll ∈ pWA := List.mem_filter.mpr ⟨List.mem_append_right _ (List.mem_append_right _ (List.mem_append_right _ (List.mem_append_left _ (List.mem_of_getElem? (i := 88) rfl)))), rfl⟩
set_option maxRecDepth 20000 in
theorem wm_3_89 : Cond.methodLink RX8 204 yX5_fibreNow ∈ pWA := List.mem_filter.mpr ⟨List.mem_append_right _ (List.mem_append_right _ (List.mem_append_right _ (List.mem_append_left _ (List.mem_of_getElem? (i := 89) rfl)))), rfl⟩
set_option maxRecDepth 20000 in
theorem wm_3_90 : Cond.instanceMethod yX5_fibreNow ∈ pWA := List.mem_filter.mpr ⟨List.mem_append_right _ (List.mem_append_right _ (List.mem_append_right _ (List.mem_append_left _ (List.mem_of_getElem? (i := 90) rfl)))), rfl⟩
set_option maxRecDepth 20000 in
theorem wm_3_91 : Cond.selects RX5 yX5_fibreNow yX5_fibreNow ∈ pWA := List.mem_filter.mpr ⟨List.mem_append_right _ (List.mem_append_right _ (List.mem_append_right _ (List.mem_append_left _ (List.mem_of_getElem? (i := 91) rfl)))), rfl⟩
set_option maxRecDepth 20000 in
theorem wm_3_92 : Cond.code yX5_fibreNow cX5_fibreNow 1 (some FieldType.int) ∈ pWA := List.mem_filter.mpr ⟨List.mem_append_right _ (List.mem_append_right _ (List.mem_append_right _ (List.mem_append_left _ (List.mem_of_getElem? (i := 92) rfl)))), rfl⟩
set_option maxRecDepth 20000 in
theorem wm_3_93 : Cond.methodLink RL 81 yX8_paper ∈ pWA := List.mem_filter.mpr ⟨List.mem_append_right _ (List.mem_append_right _ (List.mem_append_right _ (List.mem_append_left _ (List.mem_of_getElem? (i := 93) rfl)))), rfl⟩
set_option maxRecDepth 20000 in
theorem wm_3_94 : Cond.instanceMethod yX8_paper ∈ pWA := List.mem_filter.mpr ⟨List.mem_append_right _ (List.mem_append_right _ (List.mem_append_right _ (List.mem_append_left _ (List.mem_of_getElem? (i := 94) rfl)))), rfl⟩
set_option maxRecDepth 20000 in
theorem wm_3_95 : Cond.selects RX8 yX8_paper yX8_paper ∈ pWA := List.mem_filter.mpr ⟨List.mem_append_right _ (List.mem_append_right _ (List.mem_append_right _ (List.mem_append_left _ (List.mem_of_getElem? (i := 95) rfl)))), rfl⟩
set_option maxRecDepth 20000 in
theorem wm_3_96 : Cond.code yX8_paper cX8_paper 2 (some FieldType.int) ∈ pWA := List.mem_filter.mpr ⟨List.mem_append_right _ (List.mem_append_right _ (List.mem_append_right _ (List.mem_append_left _ (List.mem_of_getElem? (i := 96) rfl)))), rfl⟩
set_option maxRecDepth 20000 in
theorem wm_3_97 : Cond.methodLink RL 85 yX8_entry ∈ pWA := List.mem_filter.mpr ⟨List.mem_append_right _ (List.mem_append_right _ (List.mem_append_right _ (List.mem_append_left _ (List.mem_of_getElem? (i := 97) rfl)))), rfl⟩
set_option maxRecDepth 20000 in
theorem wm_3_98 : Cond.instanceMethod yX8_entry ∈ pWA := List.mem_filter.mpr ⟨List.mem_append_right _ (List.mem_append_right _ (List.mem_append_right _ (List.mem_append_left _ (List.mem_of_getElem? (i := 98) rfl)))), rfl⟩
set_option maxRecDepth 20000 in
theorem wm_3_99 : Cond.selects RX8 yX8_entry yX8_entry ∈ pWA := List.mem_filter.mpr ⟨List.mem_append_right _ (List.mem_append_right _ (List.mem_append_right _ (List.mem_append_left _ (List.mem_of_getElem? (i := 99) rfl)))), rfl⟩
set_option maxRecDepth 20000 in
theorem wm_3_100 : Cond.code yX8_entry cX8_entry 3 (some FieldType.int) ∈ pWA := List.mem_filter.mpr ⟨List.mem_append_right _ (List.mem_append_right _ (List.mem_append_right _ (List.mem_append_left _ (List.mem_of_getElem? (i := 100) rfl)))), rfl⟩
set_option maxRecDepth 20000 in
theorem wm_3_101 : Cond.methodLink RL 89 yX8_paperShare ∈ pWA := List.mem_filter.mpr ⟨List.mem_append_right _ (List.mem_append_right _ (List.mem_append_right _ (List.mem_append_left _ (List.mem_of_getElem? (i := 101) rfl)))), rfl⟩
set_option maxRecDepth 20000 in
theorem wm_3_102 : Cond.instanceMethod yX8_paperShare ∈ pWA := List.mem_filter.mpr ⟨List.mem_append_right _ (List.mem_append_right _ (List.mem_append_right _ (List.mem_append_left _ (List.mem_of_getElem? (i := 102) rfl)))), rfl⟩
set_option maxRecDepth 20000 in
theorem wm_3_103 : Cond.selects RX8 yX8_paperShare yX8_paperShare ∈ pWA := List.mem_filter.mpr ⟨List.mem_append_right _ (List.mem_append_right _ (List.mem_append_right _ (List.mem_append_left _ (List.mem_of_getElem? (i := 103) rfl)))), rfl⟩
set_option maxRecDepth 20000 in
theorem wm_3_104 : Cond.code yX8_paperShare cX8_paperShare 3 (some FieldType.float) ∈ pWA := List.mem_filter.mpr ⟨List.mem_append_right _ (List.mem_append_right _ (List.mem_append_right _ (List.mem_append_left _ (List.mem_of_getElem? (i := 104) rfl)))), rfl⟩
set_option maxRecDepth 20000 in
theorem wm_3_105 : Cond.methodLink RL 94 yX8_later ∈ pWA := List.mem_filter.mpr ⟨List.mem_append_right _ (List.mem_append_right _ (List.mem_append_right _ (List.mem_append_left _ (List.mem_of_getElem? (i := 105) rfl)))), rfl⟩
set_option maxRecDepth 20000 in
theorem wm_3_106 : Cond.instanceMethod yX8_later ∈ pWA := List.mem_filter.mpr ⟨List.mem_append_right _ (List.mem_append_right _ (List.mem_append_right _ (List.mem_append_left _ (List.mem_of_getElem? (i := 106) rfl)))), rfl⟩
set_option maxRecDepth 20000 in
theorem wm_3_107 : Cond.selects RX8 yX8_later yX8_later ∈ pWA := List.mem_filter.mpr ⟨List.mem_append_right _ (List.mem_append_right _ (List.mem_append_right _ (List.mem_append_left _ (List.mem_of_getElem? (i := 107) rfl)))), rfl⟩
set_option maxRecDepth 20000 in
theorem wm_3_108 : Cond.code yX8_later cX8_later 4 (some FieldType.int) ∈ pWA := List.mem_filter.mpr ⟨List.mem_append_right _ (List.mem_append_right _ (List.mem_append_right _ (List.mem_append_left _ (List.mem_of_getElem? (i := 108) rfl)))), rfl⟩
set_option maxRecDepth 20000 in
theorem wm_3_109 : Cond.methodLink RX8 222 yX5_copyFrom ∈ pWA := List.mem_filter.mpr ⟨List.mem_append_right _ (List.mem_append_right _ (List.mem_append_right _ (List.mem_append_left _ (List.mem_of_getElem? (i := 109) rfl)))), rfl⟩
set_option maxRecDepth 20000 in
theorem wm_3_110 : Cond.methodLink RL 98 yX8_overflow ∈ pWA := List.mem_filter.mpr ⟨List.mem_append_right _ (List.mem_append_right _ (List.mem_append_right _ (List.mem_append_left _ (List.mem_of_getElem? (i := 110) rfl)))), rfl⟩
set_option maxRecDepth 20000 in
theorem wm_3_111 : Cond.instanceMethod yX8_overflow ∈ pWA := List.mem_filter.mpr ⟨List.mem_append_right _ (List.mem_append_right _ (List.mem_append_right _ (List.mem_append_left _ (List.mem_of_getElem? (i := 111) rfl)))), rfl⟩
set_option maxRecDepth 20000 in
theorem wm_3_112 : Cond.selects RX8 yX8_overflow yX8_overflow ∈ pWA := List.mem_filter.mpr ⟨List.mem_append_right _ (List.mem_append_right _ (List.mem_append_right _ (List.mem_append_left _ (List.mem_of_getElem? (i := 112) rfl)))), rfl⟩
set_option maxRecDepth 20000 in
theorem wm_3_113 : Cond.code yX8_overflow cX8_overflow 2 (some FieldType.int) ∈ pWA := List.mem_filter.mpr ⟨List.mem_append_right _ (List.mem_append_right _ (List.mem_append_right _ (List.mem_append_left _ (List.mem_of_getElem? (i := 113) rfl)))), rfl⟩
set_option maxRecDepth 20000 in
theorem wm_3_114 : Cond.methodLink RX8 230 yX5_tick ∈ pWA := List.mem_filter.mpr ⟨List.mem_append_right _ (List.mem_append_right _ (List.mem_append_right _ (List.mem_append_left _ (List.mem_of_getElem? (i := 114) rfl)))), rfl⟩
set_option maxRecDepth 20000 in
theorem wm_3_115 : Cond.methodLink RL 102 yX8_bestLimit ∈ pWA := List.mem_filter.mpr ⟨List.mem_append_right _ (List.mem_append_right _ (List.mem_append_right _ (List.mem_append_left _ (List.mem_of_getElem? (i := 115) rfl)))), rfl⟩
set_option maxRecDepth 20000 in
theorem wm_3_116 : Cond.instanceMethod yX8_bestLimit ∈ pWA := List.mem_filter.mpr ⟨List.mem_append_right _ (List.mem_append_right _ (List.mem_append_right _ (List.mem_append_left _ (List.mem_of_getElem? (i := 116) rfl)))), rfl⟩
set_option maxRecDepth 20000 in
theorem wm_3_117 : Cond.selects RX8 yX8_bestLimit yX8_bestLimit ∈ pWA := List.mem_filter.mpr ⟨List.mem_append_right _ (List.mem_append_right _ (List.mem_append_right _ (List.mem_append_left _ (List.mem_of_getElem? (i := 117) rfl)))), rfl⟩
set_option maxRecDepth 20000 in
theorem wm_3_118 : Cond.code yX8_bestLimit cX8_bestLimit 6 (some FieldType.int) ∈ pWA := List.mem_filter.mpr ⟨List.mem_append_right _ (List.mem_append_right _ (List.mem_append_right _ (List.mem_append_left _ (List.mem_of_getElem? (i := 118) rfl)))), rfl⟩
set_option maxRecDepth 20000 in
theorem wm_3_119 : Cond.methodLink RL 106 yX8_keep ∈ pWA := List.mem_filter.mpr ⟨List.mem_append_right _ (List.mem_append_right _ (List.mem_append_right _ (List.mem_append_left _ (List.mem_of_getElem? (i := 119) rfl)))), rfl⟩
set_option maxRecDepth 20000 in
theorem wm_3_120 : Cond.instanceMethod yX8_keep ∈ pWA := List.mem_filter.mpr ⟨List.mem_append_right _ (List.mem_append_right _ (List.mem_append_right _ (List.mem_append_left _ (List.mem_of_getElem? (i := 120) rfl)))), rfl⟩
set_option maxRecDepth 20000 in
theorem wm_3_121 : Cond.selects RX8 yX8_keep yX8_keep ∈ pWA := List.mem_filter.mpr ⟨List.mem_append_right _ (List.mem_append_right _ (List.mem_append_right _ (List.mem_append_left _ (List.mem_of_getElem? (i := 121) rfl)))), rfl⟩
set_option maxRecDepth 20000 in
theorem wm_3_122 : Cond.code yX8_keep cX8_keep 3 (some FieldType.int) ∈ pWA := List.mem_filter.mpr ⟨List.mem_append_right _ (List.mem_append_right _ (List.mem_append_right _ (List.mem_append_left _ (List.mem_of_getElem? (i := 122) rfl)))), rfl⟩
set_option maxRecDepth 20000 in
theorem wm_3_123 : Cond.methodLink RX8 234 yX8_imageAt ∈ pWA := List.mem_filter.mpr ⟨List.mem_append_right _ (List.mem_append_right _ (List.mem_append_right _ (List.mem_append_left _ (List.mem_of_getElem? (i := 123) rfl)))), rfl⟩
set_option maxRecDepth 20000 in
theorem wm_3_125 : Cond.instanceMethod yX8_imageAt ∈ pWA := List.mem_filter.mpr ⟨List.mem_append_right _ (List.mem_append_right _ (List.mem_append_right _ (List.mem_append_left _ (List.mem_of_getElem? (i := 125) rfl)))), rfl⟩
set_option maxRecDepth 20000 in
theorem wm_3_126 : Cond.code yX8_imageAt cX8_imageAt 2 (some (FieldType.object "BrokeLoop$Image")) ∈ pWA := List.mem_filter.mpr ⟨List.mem_append_right _ (List.mem_append_right _ (List.mem_append_right _ (List.mem_append_left _ (List.mem_of_getElem? (i := 126) rfl)))), rfl⟩
set_option maxRecDepth 20000 in
theorem wm_3_127 : Cond.methodLink RL 110 yX8_back ∈ pWA := List.mem_filter.mpr ⟨List.mem_append_right _ (List.mem_append_right _ (List.mem_append_right _ (List.mem_append_left _ (List.mem_of_getElem? (i := 127) rfl)))), rfl⟩
set_option maxRecDepth 20000 in
theorem wm_3_128 : Cond.instanceMethod yX8_back ∈ pWA := List.mem_filter.mpr ⟨List.mem_append_right _ (List.mem_append_right _ (List.mem_append_right _ (List.mem_append_left _ (List.mem_of_getElem? (i := 128) rfl)))), rfl⟩
set_option maxRecDepth 20000 in
theorem wm_3_129 : Cond.selects RX8 yX8_back yX8_back ∈ pWA := List.mem_filter.mpr ⟨List.mem_append_right _ (List.mem_append_right _ (List.mem_append_right _ (List.mem_append_left _ (List.mem_of_getElem? (i := 129) rfl)))), rfl⟩
set_option maxRecDepth 20000 in
theorem wm_3_130 : Cond.code yX8_back cX8_back 3 (some FieldType.int) ∈ pWA := List.mem_filter.mpr ⟨List.mem_append_right _ (List.mem_append_right _ (List.mem_append_right _ (List.mem_append_left _ (List.mem_of_getElem? (i := 130) rfl)))), rfl⟩
set_option maxRecDepth 20000 in
theorem wm_3_131 : Cond.classLink RL 10 RX9 ∈ pWA := List.mem_filter.mpr ⟨List.mem_append_right _ (List.mem_append_right _ (List.mem_append_right _ (List.mem_append_left _ (List.mem_of_getElem? (i := 131) rfl)))), rfl⟩
set_option maxRecDepth 20000 in
theorem wm_3_132 : Cond.instantiable RX9 22 ∈ pWA := List.mem_filter.mpr ⟨List.mem_append_right _ (List.mem_append_right _ (List.mem_append_right _ (List.mem_append_left _ (List.mem_of_getElem? (i := 132) rfl)))), rfl⟩
set_option maxRecDepth 20000 in
theorem wm_3_133 : Cond.methodLink RL 12 yX9_init ∈ pWA := List.mem_filter.mpr ⟨List.mem_append_right _ (List.mem_append_right _ (List.mem_append_right _ (List.mem_append_left _ (List.mem_of_getElem? (i := 133) rfl)))), rfl⟩
set_option maxRecDepth 20000 in
theorem wm_3_134 : Cond.instanceMethod yX9_init ∈ pWA := List.mem_filter.mpr ⟨List.mem_append_right _ (List.mem_append_right _ (List.mem_append_right _ (List.mem_append_left _ (List.mem_of_getElem? (i := 134) rfl)))), rfl⟩
set_option maxRecDepth 20000 in
theorem wm_3_135 : Cond.code yX9_init cX9_init 1 (none : Option FieldType) ∈ pWA := List.mem_filter.mpr ⟨List.mem_append_right _ (List.mem_append_right _ (List.mem_append_right _ (List.mem_append_left _ (List.mem_of_getElem? (i := 135) rfl)))), rfl⟩
set_option maxRecDepth 20000 in
theorem wm_3_136 : Cond.methodLink RX9 1 ⟨"java/lang/Object", "<init>", "()V"⟩ ∈ pWA := List.mem_filter.mpr ⟨List.mem_append_right _ (List.mem_append_right _ (List.mem_append_right _ (List.mem_append_left _ (List.mem_of_getElem? (i := 136) rfl)))), rfl⟩
set_option maxRecDepth 20000 in
theorem wm_3_137 : Cond.methodLink RX9 35 yX9_lay ∈ pWA := List.mem_filter.mpr ⟨List.mem_append_right _ (List.mem_append_right _ (List.mem_append_right _ (List.mem_append_left _ (List.mem_of_getElem? (i := 137) rfl)))), rfl⟩
set_option maxRecDepth 20000 in
theorem wm_3_139 : Cond.instanceMethod yX9_lay ∈ pWA := List.mem_filter.mpr ⟨List.mem_append_right _ (List.mem_append_right _ (List.mem_append_right _ (List.mem_append_left _ (List.mem_of_getElem? (i := 139) rfl)))), rfl⟩
set_option maxRecDepth 20000 in
theorem wm_3_140 : Cond.code yX9_lay cX9_lay 2 (none : Option FieldType) ∈ pWA := List.mem_filter.mpr ⟨List.mem_append_right _ (List.mem_append_right _ (List.mem_append_right _ (List.mem_append_left _ (List.mem_of_getElem? (i := 140) rfl)))), rfl⟩
set_option maxRecDepth 20000 in
theorem wm_3_141 : Cond.fieldLink RX9 7 RX9 "w" "[I" ∈ pWA := List.mem_filter.mpr ⟨List.mem_append_right _ (List.mem_append_right _ (List.mem_append_right _ (List.mem_append_left _ (List.mem_of_getElem? (i := 141) rfl)))), rfl⟩
set_option maxRecDepth 20000 in
theorem wm_3_142 : Cond.fieldLink RX9 13 RX9 "past" "[I" ∈ pWA := List.mem_filter.mpr ⟨List.mem_append_right _ (List.mem_append_right _ (List.mem_append_right _ (List.mem_append_left _ (List.mem_of_getElem? (i := 142) rfl)))), rfl⟩
set_option maxRecDepth 20000 in
theorem wm_3_143 : Cond.fieldLink RX9 38 RX9 "pastMany" "I" ∈ pWA := List.mem_filter.mpr ⟨List.mem_append_right _ (List.mem_append_right _ (List.mem_append_right _ (List.mem_append_left _ (List.mem_of_getElem? (i := 143) rfl)))), rfl⟩
set_option maxRecDepth 20000 in
theorem wm_3_144 : Cond.fieldLink RX9 16 RX9 "images" "[I" ∈ pWA := List.mem_filter.mpr ⟨List.mem_append_right _ (List.mem_append_right _ (List.mem_append_right _ (List.mem_append_left _ (List.mem_of_getElem? (i := 144) rfl)))), rfl⟩
set_option maxRecDepth 20000 in
theorem wm_3_145 : Cond.fieldLink RX9 178 RX9 "filled" "I" ∈ pWA := List.mem_filter.mpr ⟨List.mem_append_right _ (List.mem_append_right _ (List.mem_append_right _ (List.mem_append_left _ (List.mem_of_getElem? (i := 145) rfl)))), rfl⟩
set_option maxRecDepth 20000 in
theorem wm_3_146 : Cond.fieldLink RX9 19 RX9 "text" "[I" ∈ pWA := List.mem_filter.mpr ⟨List.mem_append_right _ (List.mem_append_right _ (List.mem_append_right _ (List.mem_append_left _ (List.mem_of_getElem? (i := 146) rfl)))), rfl⟩
set_option maxRecDepth 20000 in
theorem wm_3_147 : Cond.fieldLink RX9 132 RX9 "length" "I" ∈ pWA := List.mem_filter.mpr ⟨List.mem_append_right _ (List.mem_append_right _ (List.mem_append_right _ (List.mem_append_left _ (List.mem_of_getElem? (i := 147) rfl)))), rfl⟩
set_option maxRecDepth 20000 in
theorem wm_3_148 : Cond.fieldLink RX9 22 RX9 "faultKind" "I" ∈ pWA := List.mem_filter.mpr ⟨List.mem_append_right _ (List.mem_append_right _ (List.mem_append_right _ (List.mem_append_left _ (List.mem_of_getElem? (i := 148) rfl)))), rfl⟩
set_option maxRecDepth 20000 in
theorem wm_3_149 : Cond.fieldLink RX9 26 RX9 "faultPlace" "I" ∈ pWA := List.mem_filter.mpr ⟨List.mem_append_right _ (List.mem_append_right _ (List.mem_append_right _ (List.mem_append_left _ (List.mem_of_getElem? (i := 149) rfl)))), rfl⟩
set_option maxRecDepth 20000 in
theorem wm_3_150 : Cond.fieldLink RX9 49 RX9 "fibre" "I" ∈ pWA := List.mem_filter.mpr ⟨List.mem_append_right _ (List.mem_append_right _ (List.mem_append_right _ (List.mem_append_left _ (List.mem_of_getElem? (i := 150) rfl)))), rfl⟩
set_option maxRecDepth 20000 in
theorem wm_3_151 : Cond.fieldLink RX9 52 RX9 "water" "I" ∈ pWA := List.mem_filter.mpr ⟨List.mem_append_right _ (List.mem_append_right _ (List.mem_append_right _ (List.mem_append_left _ (List.mem_of_getElem? (i := 151) rfl)))), rfl⟩
set_option maxRecDepth 20000 in
theorem wm_3_152 : Cond.fieldLink RX9 58 RX9 "isSpilt" "Z" ∈ pWA := List.mem_filter.mpr ⟨List.mem_append_right _ (List.mem_append_right _ (List.mem_append_right _ (List.mem_append_left _ (List.mem_of_getElem? (i := 152) rfl)))), rfl⟩
set_option maxRecDepth 20000 in
theorem wm_3_153 : Cond.fieldLink RX9 80 RX9 "spills" "Z" ∈ pWA := List.mem_filter.mpr ⟨List.mem_append_right _ (List.mem_append_right _ (List.mem_append_right _ (List.mem_append_left _ (List.mem_of_getElem? (i := 153) rfl)))), rfl⟩
set_option maxRecDepth 20000 in
theorem wm_3_154 : Cond.fieldLink RX9 104 RX9 "readMany" "I" ∈ pWA := List.mem_filter.mpr ⟨List.mem_append_right _ (List.mem_append_right _ (List.mem_append_right _ (List.mem_append_left _ (List.mem_of_getElem? (i := 154) rfl)))), rfl⟩
set_option maxRecDepth 20000 in
theorem wm_3_155 : Cond.fieldLink RX9 29 RX9 "readEntry" "[I" ∈ pWA := List.mem_filter.mpr ⟨List.mem_append_right _ (List.mem_append_right _ (List.mem_append_right _ (List.mem_append_left _ (List.mem_of_getElem? (i := 155) rfl)))), rfl⟩
set_option maxRecDepth 20000 in
theorem wm_3_156 : Cond.fieldLink RX9 98 RX9 "wrongKind" "I" ∈ pWA := List.mem_filter.mpr ⟨List.mem_append_right _ (List.mem_append_right _ (List.mem_append_right _ (List.mem_append_left _ (List.mem_of_getElem? (i := 156) rfl)))), rfl⟩
set_option maxRecDepth 20000 in
theorem wm_3_157 : Cond.fieldLink RX9 101 RX9 "wrongPlace" "I" ∈ pWA := List.mem_filter.mpr ⟨List.mem_append_right _ (List.mem_append_right _ (List.mem_append_right _ (List.mem_append_left _ (List.mem_of_getElem? (i := 157) rfl)))), rfl⟩
set_option maxRecDepth 20000 in
theorem wm_3_158 : Cond.fieldLink RX9 107 RX9 "part" "I" ∈ pWA := List.mem_filter.mpr ⟨List.mem_append_right _ (List.mem_append_right _ (List.mem_append_right _ (List.mem_append_left _ (List.mem_of_getElem? (i := 158) rfl)))), rfl⟩
set_option maxRecDepth 20000 in
theorem wm_3_159 : Cond.fieldLink RX9 119 RX9 "digits" "I" ∈ pWA := List.mem_filter.mpr ⟨List.mem_append_right _ (List.mem_append_right _ (List.mem_append_right _ (List.mem_append_left _ (List.mem_of_getElem? (i := 159) rfl)))), rfl⟩
set_option maxRecDepth 20000 in
theorem wm_3_160 : Cond.fieldLink RX9 113 RX9 "digitsAt" "I" ∈ pWA := List.mem_filter.mpr ⟨List.mem_append_right _ (List.mem_append_right _ (List.mem_append_right _ (List.mem_append_left _ (List.mem_of_getElem? (i := 160) rfl)))), rfl⟩
set_option maxRecDepth 20000 in
theorem wm_3_161 : Cond.fieldLink RX9 110 RX9 "number" "I" ∈ pWA := List.mem_filter.mpr ⟨List.mem_append_right _ (List.mem_append_right _ (List.mem_append_right _ (List.mem_append_left _ (List.mem_of_getElem? (i := 161) rfl)))), rfl⟩
set_option maxRecDepth 20000 in
theorem wm_3_162 : Cond.fieldLink RX9 32 RX9 "held" "[I" ∈ pWA := List.mem_filter.mpr ⟨List.mem_append_right _ (List.mem_append_right _ (List.mem_append_right _ (List.mem_append_left _ (List.mem_of_getElem? (i := 162) rfl)))), rfl⟩
set_option maxRecDepth 20000 in
theorem wm_3_163 : Cond.laysFinal RX9 RX9 "w" "[I" ∈ pWA := List.mem_filter.mpr ⟨List.mem_append_right _ (List.mem_append_right _ (List.mem_append_right _ (List.mem_append_left _ (List.mem_of_getElem? (i := 163) rfl)))), rfl⟩
set_option maxRecDepth 20000 in
theorem wm_3_165 : Cond.laysFinal RX9 RX9 "past" "[I" ∈ pWA := List.mem_filter.mpr ⟨List.mem_append_right _ (List.mem_append_right _ (List.mem_append_right _ (List.mem_append_left _ (List.mem_of_getElem? (i := 165) rfl)))), rfl⟩
set_option maxRecDepth 20000 in
theorem wm_3_167 : Cond.lays RX9 RX9 "pastMany" "I" ∈ pWA := List.mem_filter.mpr ⟨List.mem_append_right _ (List.mem_append_right _ (List.mem_append_right _ (List.mem_append_left _ (List.mem_of_getElem? (i := 167) rfl)))), rfl⟩
set_option maxRecDepth 20000 in
theorem wm_3_169 : Cond.laysFinal RX9 RX9 "images" "[I" ∈ pWA := List.mem_filter.mpr ⟨List.mem_append_right _ (List.mem_append_right _ (List.mem_append_right _ (List.mem_append_left _ (List.mem_of_getElem? (i := 169) rfl)))), rfl⟩
set_option maxRecDepth 20000 in
theorem wm_3_171 : Cond.lays RX9 RX9 "filled" "I" ∈ pWA := List.mem_filter.mpr ⟨List.mem_append_right _ (List.mem_append_right _ (List.mem_append_right _ (List.mem_append_left _ (List.mem_of_getElem? (i := 171) rfl)))), rfl⟩
set_option maxRecDepth 20000 in
theorem wm_3_173 : Cond.laysFinal RX9 RX9 "text" "[I" ∈ pWA := List.mem_filter.mpr ⟨List.mem_append_right _ (List.mem_append_right _ (List.mem_append_right _ (List.mem_append_left _ (List.mem_of_getElem? (i := 173) rfl)))), rfl⟩
set_option maxRecDepth 20000 in
theorem wm_3_175 : Cond.lays RX9 RX9 "length" "I" ∈ pWA := List.mem_filter.mpr ⟨List.mem_append_right _ (List.mem_append_right _ (List.mem_append_right _ (List.mem_append_left _ (List.mem_of_getElem? (i := 175) rfl)))), rfl⟩
set_option maxRecDepth 20000 in
theorem wm_3_177 : Cond.lays RX9 RX9 "faultKind" "I" ∈ pWA := List.mem_filter.mpr ⟨List.mem_append_right _ (List.mem_append_right _ (List.mem_append_right _ (List.mem_append_left _ (List.mem_of_getElem? (i := 177) rfl)))), rfl⟩
set_option maxRecDepth 20000 in
theorem wm_3_179 : Cond.lays RX9 RX9 "faultPlace" "I" ∈ pWA := List.mem_filter.mpr ⟨List.mem_append_right _ (List.mem_append_right _ (List.mem_append_right _ (List.mem_append_left _ (List.mem_of_getElem? (i := 179) rfl)))), rfl⟩
set_option maxRecDepth 20000 in
theorem wm_3_181 : Cond.lays RX9 RX9 "fibre" "I" ∈ pWA := List.mem_filter.mpr ⟨List.mem_append_right _ (List.mem_append_right _ (List.mem_append_right _ (List.mem_append_left _ (List.mem_of_getElem? (i := 181) rfl)))), rfl⟩
set_option maxRecDepth 20000 in
theorem wm_3_183 : Cond.lays RX9 RX9 "water" "I" ∈ pWA := List.mem_filter.mpr ⟨List.mem_append_right _ (List.mem_append_right _ (List.mem_append_right _ (List.mem_append_left _ (List.mem_of_getElem? (i := 183) rfl)))), rfl⟩
set_option maxRecDepth 20000 in
theorem wm_3_185 : Cond.lays RX9 RX9 "isSpilt" "Z" ∈ pWA := List.mem_filter.mpr ⟨List.mem_append_right _ (List.mem_append_right _ (List.mem_append_right _ (List.mem_append_left _ (List.mem_of_getElem? (i := 185) rfl)))), rfl⟩
set_option maxRecDepth 20000 in
theorem wm_3_187 : Cond.lays RX9 RX9 "spills" "Z" ∈ pWA := List.mem_filter.mpr ⟨List.mem_append_right _ (List.mem_append_right _ (List.mem_append_right _ (List.mem_append_left _ (List.mem_of_getElem? (i := 187) rfl)))), rfl⟩
set_option maxRecDepth 20000 in
theorem wm_3_189 : Cond.lays RX9 RX9 "readMany" "I" ∈ pWA := List.mem_filter.mpr ⟨List.mem_append_right _ (List.mem_append_right _ (List.mem_append_right _ (List.mem_append_left _ (List.mem_of_getElem? (i := 189) rfl)))), rfl⟩
set_option maxRecDepth 20000 in
theorem wm_3_191 : Cond.laysFinal RX9 RX9 "readEntry" "[I" ∈ pWA := List.mem_filter.mpr ⟨List.mem_append_right _ (List.mem_append_right _ (List.mem_append_right _ (List.mem_append_left _ (List.mem_of_getElem? (i := 191) rfl)))), rfl⟩
set_option maxRecDepth 20000 in
theorem wm_3_193 : Cond.lays RX9 RX9 "wrongKind" "I" ∈ pWA := List.mem_filter.mpr ⟨List.mem_append_right _ (List.mem_append_right _ (List.mem_append_right _ (List.mem_append_left _ (List.mem_of_getElem? (i := 193) rfl)))), rfl⟩
set_option maxRecDepth 20000 in
theorem wm_3_195 : Cond.lays RX9 RX9 "wrongPlace" "I" ∈ pWA := List.mem_filter.mpr ⟨List.mem_append_right _ (List.mem_append_right _ (List.mem_append_right _ (List.mem_append_left _ (List.mem_of_getElem? (i := 195) rfl)))), rfl⟩
set_option maxRecDepth 20000 in
theorem wm_3_197 : Cond.lays RX9 RX9 "part" "I" ∈ pWA := List.mem_filter.mpr ⟨List.mem_append_right _ (List.mem_append_right _ (List.mem_append_right _ (List.mem_append_left _ (List.mem_of_getElem? (i := 197) rfl)))), rfl⟩
set_option maxRecDepth 20000 in
theorem wm_3_199 : Cond.lays RX9 RX9 "digits" "I" ∈ pWA := List.mem_filter.mpr ⟨List.mem_append_right _ (List.mem_append_right _ (List.mem_append_right _ (List.mem_append_left _ (List.mem_of_getElem? (i := 199) rfl)))), rfl⟩
set_option maxRecDepth 20000 in
theorem wm_3_201 : Cond.lays RX9 RX9 "digitsAt" "I" ∈ pWA := List.mem_filter.mpr ⟨List.mem_append_right _ (List.mem_append_right _ (List.mem_append_right _ (List.mem_append_left _ (List.mem_of_getElem? (i := 201) rfl)))), rfl⟩
set_option maxRecDepth 20000 in
theorem wm_3_203 : Cond.lays RX9 RX9 "number" "I" ∈ pWA := List.mem_filter.mpr ⟨List.mem_append_right _ (List.mem_append_right _ (List.mem_append_right _ (List.mem_append_left _ (List.mem_of_getElem? (i := 203) rfl)))), rfl⟩
set_option maxRecDepth 20000 in
theorem wm_3_205 : Cond.laysFinal RX9 RX9 "held" "[I" ∈ pWA := List.mem_filter.mpr ⟨List.mem_append_right _ (List.mem_append_right _ (List.mem_append_right _ (List.mem_append_left _ (List.mem_of_getElem? (i := 205) rfl)))), rfl⟩
set_option maxRecDepth 20000 in
theorem wm_3_208 : Cond.methodLink RL 17 yX9_begin ∈ pWA := List.mem_filter.mpr ⟨List.mem_append_right _ (List.mem_append_right _ (List.mem_append_right _ (List.mem_append_left _ (List.mem_of_getElem? (i := 208) rfl)))), rfl⟩
set_option maxRecDepth 20000 in
theorem wm_3_209 : Cond.instanceMethod yX9_begin ∈ pWA := List.mem_filter.mpr ⟨List.mem_append_right _ (List.mem_append_right _ (List.mem_append_right _ (List.mem_append_left _ (List.mem_of_getElem? (i := 209) rfl)))), rfl⟩
set_option maxRecDepth 20000 in
theorem wm_3_210 : Cond.selects RX9 yX9_begin yX9_begin ∈ pWA := List.mem_filter.mpr ⟨List.mem_append_right _ (List.mem_append_right _ (List.mem_append_right _ (List.mem_append_left _ (List.mem_of_getElem? (i := 210) rfl)))), rfl⟩
set_option maxRecDepth 20000 in
theorem wm_3_211 : Cond.code yX9_begin cX9_begin 2 (some FieldType.int) ∈ pWA := List.mem_filter.mpr ⟨List.mem_append_right _ (List.mem_append_right _ (List.mem_append_right _ (List.mem_append_left _ (List.mem_of_getElem? (i := 211) rfl)))), rfl⟩
set_option maxRecDepth 20000 in
theorem wm_3_212 : Cond.methodLink RX9 141 yX9_remember ∈ pWA := List.mem_filter.mpr ⟨List.mem_append_right _ (List.mem_append_right _ (List.mem_append_right _ (List.mem_append_left _ (List.mem_of_getElem? (i := 212) rfl)))), rfl⟩
set_option maxRecDepth 20000 in
theorem wm_3_214 : Cond.instanceMethod yX9_remember ∈ pWA := List.mem_filter.mpr ⟨List.mem_append_right _ (List.mem_append_right _ (List.mem_append_right _ (List.mem_append_left _ (List.mem_of_getElem? (i := 214) rfl)))), rfl⟩
set_option maxRecDepth 20000 in
theorem wm_3_215 : Cond.code yX9_remember cX9_remember 2 (none : Option FieldType) ∈ pWA := List.mem_filter.mpr ⟨List.mem_append_right _ (List.mem_append_right _ (List.mem_append_right _ (List.mem_append_left _ (List.mem_of_getElem? (i := 215) rfl)))), rfl⟩
set_option maxRecDepth 20000 in
theorem wm_3_216 : Cond.methodLink RL 22 yX9_set ∈ pWA := List.mem_filter.mpr ⟨List.mem_append_right _ (List.mem_append_right _ (List.mem_append_right _ (List.mem_append_left _ (List.mem_of_getElem? (i := 216) rfl)))), rfl⟩
set_option maxRecDepth 20000 in
theorem wm_3_217 : Cond.instanceMethod yX9_set ∈ pWA := List.mem_filter.mpr ⟨List.mem_append_right _ (List.mem_append_right _ (List.mem_append_right _ (List.mem_append_left _ (List.mem_of_getElem? (i := 217) rfl)))), rfl⟩
set_option maxRecDepth 20000 in
theorem wm_3_218 : Cond.selects RX9 yX9_set yX9_set ∈ pWA := List.mem_filter.mpr ⟨List.mem_append_right _ (List.mem_append_right _ (List.mem_append_right _ (List.mem_append_left _ (List.mem_of_getElem? (i := 218) rfl)))), rfl⟩
set_option maxRecDepth 20000 in
theorem wm_3_219 : Cond.code yX9_set cX9_set 4 (some FieldType.int) ∈ pWA := List.mem_filter.mpr ⟨List.mem_append_right _ (List.mem_append_right _ (List.mem_append_right _ (List.mem_append_left _ (List.mem_of_getElem? (i := 219) rfl)))), rfl⟩
set_option maxRecDepth 20000 in
theorem wm_3_220 : Cond.methodLink RX9 144 yX9_isOf ∈ pWA := List.mem_filter.mpr ⟨List.mem_append_right _ (List.mem_append_right _ (List.mem_append_right _ (List.mem_append_left _ (List.mem_of_getElem? (i := 220) rfl)))), rfl⟩
set_option maxRecDepth 20000 in
theorem wm_3_221 : Cond.static yX9_isOf ∈ pWA := List.mem_filter.mpr ⟨List.mem_append_right _ (List.mem_append_right _ (List.mem_append_right _ (List.mem_append_left _ (List.mem_of_getElem? (i := 221) rfl)))), rfl⟩
set_option maxRecDepth 20000 in
theorem wm_3_222 : Cond.code yX9_isOf cX9_isOf 2 (some FieldType.boolean) ∈ pWA := List.mem_filter.mpr ⟨List.mem_append_right _ (List.mem_append_right _ (List.mem_append_right _ (List.mem_append_left _ (List.mem_of_getElem? (i := 222) rfl)))), rfl⟩
set_option maxRecDepth 20000 in
theorem wm_3_223 : Cond.methodLink RX9 41 yX9_isIn ∈ pWA := List.mem_filter.mpr ⟨List.mem_append_right _ (List.mem_append_right _ (List.mem_append_right _ (List.mem_append_left _ (List.mem_of_getElem? (i := 223) rfl)))), rfl⟩
set_option maxRecDepth 20000 in
theorem wm_3_224 : Cond.static yX9_isIn ∈ pWA := List.mem_filter.mpr ⟨List.mem_append_right _ (List.mem_append_right _ (List.mem_append_right _ (List.mem_append_left _ (List.mem_of_getElem? (i := 224) rfl)))), rfl⟩
set_option maxRecDepth 20000 in
theorem wm_3_225 : Cond.code yX9_isIn cX9_isIn 3 (some FieldType.boolean) ∈ pWA := List.mem_filter.mpr ⟨List.mem_append_right _ (List.mem_append_right _ (List.mem_append_right _ (List.mem_append_left _ (List.mem_of_getElem? (i := 225) rfl)))), rfl⟩
set_option maxRecDepth 20000 in
theorem wm_3_226 : Cond.methodLink RL 27 yX9_tear ∈ pWA := List.mem_filter.mpr ⟨List.mem_append_right _ (List.mem_append_right _ (List.mem_append_right _ (List.mem_append_left _ (List.mem_of_getElem? (i := 226) rfl)))), rfl⟩
set_option maxRecDepth 20000 in
theorem wm_3_227 : Cond.instanceMethod yX9_tear ∈ pWA := List.mem_filter.mpr ⟨List.mem_append_right _ (List.mem_append_right _ (List.mem_append_right _ (List.mem_append_left _ (List.mem_of_getElem? (i := 227) rfl)))), rfl⟩
set_option maxRecDepth 20000 in
theorem wm_3_228 : Cond.selects RX9 yX9_tear yX9_tear ∈ pWA := List.mem_filter.mpr ⟨List.mem_append_right _ (List.mem_append_right _ (List.mem_append_right _ (List.mem_append_left _ (List.mem_of_getElem? (i := 228) rfl)))), rfl⟩
set_option maxRecDepth 20000 in
theorem wm_3_229 : Cond.code yX9_tear cX9_tear 2 (some FieldType.int) ∈ pWA := List.mem_filter.mpr ⟨List.mem_append_right _ (List.mem_append_right _ (List.mem_append_right _ (List.mem_append_left _ (List.mem_of_getElem? (i := 229) rfl)))), rfl⟩
set_option maxRecDepth 20000 in
theorem wm_3_230 : Cond.methodLink RX9 66 yX9_breakSheet ∈ pWA := List.mem_filter.mpr ⟨List.mem_append_right _ (List.mem_append_right _ (List.mem_append_right _ (List.mem_append_left _ (List.mem_of_getElem? (i := 230) rfl)))), rfl⟩
set_option maxRecDepth 20000 in
theorem wm_3_232 : Cond.instanceMethod yX9_breakSheet ∈ pWA := List.mem_filter.mpr ⟨List.mem_append_right _ (List.mem_append_right _ (List.mem_append_right _ (List.mem_append_left _ (List.mem_of_getElem? (i := 232) rfl)))), rfl⟩
set_option maxRecDepth 20000 in
theorem wm_3_233 : Cond.code yX9_breakSheet cX9_breakSheet 2 (none : Option FieldType) ∈ pWA := List.mem_filter.mpr ⟨List.mem_append_right _ (List.mem_append_right _ (List.mem_append_right _ (List.mem_append_left _ (List.mem_of_getElem? (i := 233) rfl)))), rfl⟩
set_option maxRecDepth 20000 in
theorem wm_3_234 : Cond.methodLink RL 31 yX9_change ∈ pWA := List.mem_filter.mpr ⟨List.mem_append_right _ (List.mem_append_right _ (List.mem_append_right _ (List.mem_append_left _ (List.mem_of_getElem? (i := 234) rfl)))), rfl⟩
set_option maxRecDepth 20000 in
theorem wm_3_235 : Cond.instanceMethod yX9_change ∈ pWA := List.mem_filter.mpr ⟨List.mem_append_right _ (List.mem_append_right _ (List.mem_append_right _ (List.mem_append_left _ (List.mem_of_getElem? (i := 235) rfl)))), rfl⟩
set_option maxRecDepth 20000 in
theorem wm_3_236 : Cond.selects RX9 yX9_change yX9_change ∈ pWA := List.mem_filter.mpr ⟨List.mem_append_right _ (List.mem_append_right _ (List.mem_append_right _ (List.mem_append_left _ (List.mem_of_getElem? (i := 236) rfl)))), rfl⟩
set_option maxRecDepth 20000 in
theorem wm_3_237 : Cond.code yX9_change cX9_change 3 (some FieldType.int) ∈ pWA := List.mem_filter.mpr ⟨List.mem_append_right _ (List.mem_append_right _ (List.mem_append_right _ (List.mem_append_left _ (List.mem_of_getElem? (i := 237) rfl)))), rfl⟩
set_option maxRecDepth 20000 in
theorem wm_3_238 : Cond.methodLink RX9 70 yX9_changeGrade ∈ pWA := List.mem_filter.mpr ⟨List.mem_append_right _ (List.mem_append_right _ (List.mem_append_right _ (List.mem_append_left _ (List.mem_of_getElem? (i := 238) rfl)))), rfl⟩
set_option maxRecDepth 20000 in
theorem wm_4_0 : Cond.instanceMethod yX9_changeGrade ∈ pWA := List.mem_filter.mpr ⟨List.mem_append_right _ (List.mem_append_right _ (List.mem_append_right _ (List.mem_append_right _ (List.mem_of_getElem? (i := 0) rfl)))), rfl⟩
set_option maxRecDepth 20000 in
theorem wm_4_1 : Cond.code yX9_changeGrade cX9_changeGrade 2 (none : Option FieldType) ∈ pWA := List.mem_filter.mpr ⟨List.mem_append_right _ (List.mem_append_right _ (List.mem_append_right _ (List.mem_append_right _ (List.mem_of_getElem? (i := 1) rfl)))), rfl⟩
set_option maxRecDepth 20000 in
theorem wm_4_2 : Cond.methodLink RL 36 yX9_fill ∈ pWA := List.mem_filter.mpr ⟨List.mem_append_right _ (List.mem_append_right _ (List.mem_append_right _ (List.mem_append_right _ (List.mem_of_getElem? (i := 2) rfl)))), rfl⟩
set_option maxRecDepth 20000 in
theorem wm_4_3 : Cond.instanceMethod yX9_fill ∈ pWA := List.mem_filter.mpr ⟨List.mem_append_right _ (List.mem_append_right _ (List.mem_append_right _ (List.mem_append_right _ (List.mem_of_getElem? (i := 3) rfl)))), rfl⟩
set_option maxRecDepth 20000 in
theorem wm_4_4 : Cond.selects RX9 yX9_fill yX9_fill ∈ pWA := List.mem_filter.mpr ⟨List.mem_append_right _ (List.mem_append_right _ (List.mem_append_right _ (List.mem_append_right _ (List.mem_of_getElem? (i := 4) rfl)))), rfl⟩
set_option maxRecDepth 20000 in
theorem wm_4_5 : Cond.code yX9_fill cX9_fill 4 (some FieldType.int) ∈ pWA := List.mem_filter.mpr ⟨List.mem_append_right _ (List.mem_append_right _ (List.mem_append_right _ (List.mem_append_right _ (List.mem_of_getElem? (i := 5) rfl)))), rfl⟩
set_option maxRecDepth 20000 in
theorem wm_4_6 : Cond.methodLink RX9 148 yX9_isChest ∈ pWA := List.mem_filter.mpr ⟨List.mem_append_right _ (List.mem_append_right _ (List.mem_append_right _ (List.mem_append_right _ (List.mem_of_getElem? (i := 6) rfl)))), rfl⟩
set_option maxRecDepth 20000 in
theorem wm_4_7 : Cond.static yX9_isChest ∈ pWA := List.mem_filter.mpr ⟨List.mem_append_right _ (List.mem_append_right _ (List.mem_append_right _ (List.mem_append_right _ (List.mem_of_getElem? (i := 7) rfl)))), rfl⟩
set_option maxRecDepth 20000 in
theorem wm_4_8 : Cond.code yX9_isChest cX9_isChest 1 (some FieldType.boolean) ∈ pWA := List.mem_filter.mpr ⟨List.mem_append_right _ (List.mem_append_right _ (List.mem_append_right _ (List.mem_append_right _ (List.mem_of_getElem? (i := 8) rfl)))), rfl⟩
set_option maxRecDepth 20000 in
theorem wm_4_9 : Cond.constant RX9 152 50000 ∈ pWA := List.mem_filter.mpr ⟨List.mem_append_right _ (List.mem_append_right _ (List.mem_append_right _ (List.mem_append_right _ (List.mem_of_getElem? (i := 9) rfl)))), rfl⟩
set_option maxRecDepth 20000 in
theorem wm_4_10 : Cond.methodLink RX9 73 yX9_fillInto ∈ pWA := List.mem_filter.mpr ⟨List.mem_append_right _ (List.mem_append_right _ (List.mem_append_right _ (List.mem_append_right _ (List.mem_of_getElem? (i := 10) rfl)))), rfl⟩
set_option maxRecDepth 20000 in
theorem wm_4_12 : Cond.instanceMethod yX9_fillInto ∈ pWA := List.mem_filter.mpr ⟨List.mem_append_right _ (List.mem_append_right _ (List.mem_append_right _ (List.mem_append_right _ (List.mem_of_getElem? (i := 12) rfl)))), rfl⟩
set_option maxRecDepth 20000 in
theorem wm_4_13 : Cond.code yX9_fillInto cX9_fillInto 5 (some FieldType.int) ∈ pWA := List.mem_filter.mpr ⟨List.mem_append_right _ (List.mem_append_right _ (List.mem_append_right _ (List.mem_append_right _ (List.mem_of_getElem? (i := 13) rfl)))), rfl⟩
set_option maxRecDepth 20000 in
theorem wm_4_14 : Cond.methodLink RX9 45 yX9_sum ∈ pWA := List.mem_filter.mpr ⟨List.mem_append_right _ (List.mem_append_right _ (List.mem_append_right _ (List.mem_append_right _ (List.mem_of_getElem? (i := 14) rfl)))), rfl⟩
set_option maxRecDepth 20000 in
theorem wm_4_16 : Cond.instanceMethod yX9_sum ∈ pWA := List.mem_filter.mpr ⟨List.mem_append_right _ (List.mem_append_right _ (List.mem_append_right _ (List.mem_append_right _ (List.mem_of_getElem? (i := 16) rfl)))), rfl⟩
set_option maxRecDepth 20000 in
theorem wm_4_17 : Cond.code yX9_sum cX9_sum 2 (some FieldType.int) ∈ pWA := List.mem_filter.mpr ⟨List.mem_append_right _ (List.mem_append_right _ (List.mem_append_right _ (List.mem_append_right _ (List.mem_of_getElem? (i := 17) rfl)))), rfl⟩
set_option maxRecDepth 20000 in
theorem wm_4_18 : Cond.methodLink RX9 55 yX9_roomOf ∈ pWA := List.mem_filter.mpr ⟨List.mem_append_right _ (List.mem_append_right _ (List.mem_append_right _ (List.mem_append_right _ (List.mem_of_getElem? (i := 18) rfl)))), rfl⟩
set_option maxRecDepth 20000 in
theorem wm_4_19 : Cond.static yX9_roomOf ∈ pWA := List.mem_filter.mpr ⟨List.mem_append_right _ (List.mem_append_right _ (List.mem_append_right _ (List.mem_append_right _ (List.mem_of_getElem? (i := 19) rfl)))), rfl⟩
set_option maxRecDepth 20000 in
theorem wm_4_20 : Cond.code yX9_roomOf cX9_roomOf 1 (some FieldType.int) ∈ pWA := List.mem_filter.mpr ⟨List.mem_append_right _ (List.mem_append_right _ (List.mem_append_right _ (List.mem_append_right _ (List.mem_of_getElem? (i := 20) rfl)))), rfl⟩
set_option maxRecDepth 20000 in
theorem wm_4_21 : Cond.methodLink RX9 62 yX9_takeFrom ∈ pWA := List.mem_filter.mpr ⟨List.mem_append_right _ (List.mem_append_right _ (List.mem_append_right _ (List.mem_append_right _ (List.mem_of_getElem? (i := 21) rfl)))), rfl⟩
set_option maxRecDepth 20000 in
theorem wm_4_23 : Cond.instanceMethod yX9_takeFrom ∈ pWA := List.mem_filter.mpr ⟨List.mem_append_right _ (List.mem_append_right _ (List.mem_append_right _ (List.mem_append_right _ (List.mem_of_getElem? (i := 23) rfl)))), rfl⟩
set_option maxRecDepth 20000 in
theorem wm_4_24 : Cond.code yX9_takeFrom cX9_takeFrom 5 (none : Option FieldType) ∈ pWA := List.mem_filter.mpr ⟨List.mem_append_right _ (List.mem_append_right _ (List.mem_append_right _ (List.mem_append_right _ (List.mem_of_getElem? (i := 24) rfl)))), rfl⟩
set_option maxRecDepth 20000 in
theorem wm_4_25 : Cond.methodLink RL 40 yX9_drain ∈ pWA := List.mem_filter.mpr ⟨List.mem_append_right _ (List.mem_append_right _ (List.mem_append_right _ (List.mem_append_right _ (List.mem_of_getElem? (i := 25) rfl)))), rfl⟩
set_option maxRecDepth 20000 in
theorem wm_4_26 : Cond.instanceMethod yX9_drain ∈ pWA := List.mem_filter.mpr ⟨List.mem_append_right _ (List.mem_append_right _ (List.mem_append_right _ (List.mem_append_right _ (List.mem_of_getElem? (i := 26) rfl)))), rfl⟩
set_option maxRecDepth 20000 in
theorem wm_4_27 : Cond.selects RX9 yX9_drain yX9_drain ∈ pWA := List.mem_filter.mpr ⟨List.mem_append_right _ (List.mem_append_right _ (List.mem_append_right _ (List.mem_append_right _ (List.mem_of_getElem? (i := 27) rfl)))), rfl⟩
set_option maxRecDepth 20000 in
theorem wm_4_28 : Cond.code yX9_drain cX9_drain 3 (some FieldType.int) ∈ pWA := List.mem_filter.mpr ⟨List.mem_append_right _ (List.mem_append_right _ (List.mem_append_right _ (List.mem_append_right _ (List.mem_of_getElem? (i := 28) rfl)))), rfl⟩
set_option maxRecDepth 20000 in
theorem wm_4_29 : Cond.methodLink RL 44 yX9_plan ∈ pWA := List.mem_filter.mpr ⟨List.mem_append_right _ (List.mem_append_right _ (List.mem_append_right _ (List.mem_append_right _ (List.mem_of_getElem? (i := 29) rfl)))), rfl⟩
set_option maxRecDepth 20000 in
theorem wm_4_30 : Cond.instanceMethod yX9_plan ∈ pWA := List.mem_filter.mpr ⟨List.mem_append_right _ (List.mem_append_right _ (List.mem_append_right _ (List.mem_append_right _ (List.mem_of_getElem? (i := 30) rfl)))), rfl⟩
set_option maxRecDepth 20000 in
theorem wm_4_31 : Cond.selects RX9 yX9_plan yX9_plan ∈ pWA := List.mem_filter.mpr ⟨List.mem_append_right _ (List.mem_append_right _ (List.mem_append_right _ (List.mem_append_right _ (List.mem_of_getElem? (i := 31) rfl)))), rfl⟩
set_option maxRecDepth 20000 in
theorem wm_4_32 : Cond.code yX9_plan cX9_plan 4 (some FieldType.int) ∈ pWA := List.mem_filter.mpr ⟨List.mem_append_right _ (List.mem_append_right _ (List.mem_append_right _ (List.mem_append_right _ (List.mem_of_getElem? (i := 32) rfl)))), rfl⟩
set_option maxRecDepth 20000 in
theorem wm_4_33 : Cond.methodLink RX9 153 yX9_readText ∈ pWA := List.mem_filter.mpr ⟨List.mem_append_right _ (List.mem_append_right _ (List.mem_append_right _ (List.mem_append_right _ (List.mem_of_getElem? (i := 33) rfl)))), rfl⟩
set_option maxRecDepth 20000 in
theorem wm_4_35 : Cond.instanceMethod yX9_readText ∈ pWA := List.mem_filter.mpr ⟨List.mem_append_right _ (List.mem_append_right _ (List.mem_append_right _ (List.mem_append_right _ (List.mem_of_getElem? (i := 35) rfl)))), rfl⟩
set_option maxRecDepth 20000 in
theorem wm_4_36 : Cond.code yX9_readText cX9_readText 2 (none : Option FieldType) ∈ pWA := List.mem_filter.mpr ⟨List.mem_append_right _ (List.mem_append_right _ (List.mem_append_right _ (List.mem_append_right _ (List.mem_of_getElem? (i := 36) rfl)))), rfl⟩
set_option maxRecDepth 20000 in
theorem wm_4_37 : Cond.methodLink RX9 116 yX9_fails ∈ pWA := List.mem_filter.mpr ⟨List.mem_append_right _ (List.mem_append_right _ (List.mem_append_right _ (List.mem_append_right _ (List.mem_of_getElem? (i := 37) rfl)))), rfl⟩
set_option maxRecDepth 20000 in
theorem wm_4_39 : Cond.instanceMethod yX9_fails ∈ pWA := List.mem_filter.mpr ⟨List.mem_append_right _ (List.mem_append_right _ (List.mem_append_right _ (List.mem_append_right _ (List.mem_of_getElem? (i := 39) rfl)))), rfl⟩
set_option maxRecDepth 20000 in
theorem wm_4_40 : Cond.code yX9_fails cX9_fails 3 (none : Option FieldType) ∈ pWA := List.mem_filter.mpr ⟨List.mem_append_right _ (List.mem_append_right _ (List.mem_append_right _ (List.mem_append_right _ (List.mem_of_getElem? (i := 40) rfl)))), rfl⟩
set_option maxRecDepth 20000 in
theorem wm_4_41 : Cond.methodLink RX9 135 yX9_readDigit ∈ pWA := List.mem_filter.mpr ⟨List.mem_append_right _ (List.mem_append_right _ (List.mem_append_right _ (List.mem_append_right _ (List.mem_of_getElem? (i := 41) rfl)))), rfl⟩
set_option maxRecDepth 20000 in
theorem wm_4_43 : Cond.instanceMethod yX9_readDigit ∈ pWA := List.mem_filter.mpr ⟨List.mem_append_right _ (List.mem_append_right _ (List.mem_append_right _ (List.mem_append_right _ (List.mem_of_getElem? (i := 43) rfl)))), rfl⟩
set_option maxRecDepth 20000 in
theorem wm_4_44 : Cond.code yX9_readDigit cX9_readDigit 2 (none : Option FieldType) ∈ pWA := List.mem_filter.mpr ⟨List.mem_append_right _ (List.mem_append_right _ (List.mem_append_right _ (List.mem_append_right _ (List.mem_of_getElem? (i := 44) rfl)))), rfl⟩
set_option maxRecDepth 20000 in
theorem wm_4_45 : Cond.methodLink RX9 138 yX9_readOther ∈ pWA := List.mem_filter.mpr ⟨List.mem_append_right _ (List.mem_append_right _ (List.mem_append_right _ (List.mem_append_right _ (List.mem_of_getElem? (i := 45) rfl)))), rfl⟩
set_option maxRecDepth 20000 in
theorem wm_4_47 : Cond.instanceMethod yX9_readOther ∈ pWA := List.mem_filter.mpr ⟨List.mem_append_right _ (List.mem_append_right _ (List.mem_append_right _ (List.mem_append_right _ (List.mem_of_getElem? (i := 47) rfl)))), rfl⟩
set_option maxRecDepth 20000 in
theorem wm_4_48 : Cond.code yX9_readOther cX9_readOther 3 (none : Option FieldType) ∈ pWA := List.mem_filter.mpr ⟨List.mem_append_right _ (List.mem_append_right _ (List.mem_append_right _ (List.mem_append_right _ (List.mem_of_getElem? (i := 48) rfl)))), rfl⟩
set_option maxRecDepth 20000 in
theorem wm_4_49 : Cond.methodLink RX9 122 yX9_isWell ∈ pWA := List.mem_filter.mpr ⟨List.mem_append_right _ (List.mem_append_right _ (List.mem_append_right _ (List.mem_append_right _ (List.mem_of_getElem? (i := 49) rfl)))), rfl⟩
set_option maxRecDepth 20000 in
theorem wm_4_51 : Cond.instanceMethod yX9_isWell ∈ pWA := List.mem_filter.mpr ⟨List.mem_append_right _ (List.mem_append_right _ (List.mem_append_right _ (List.mem_append_right _ (List.mem_of_getElem? (i := 51) rfl)))), rfl⟩
set_option maxRecDepth 20000 in
theorem wm_4_52 : Cond.code yX9_isWell cX9_isWell 3 (some FieldType.boolean) ∈ pWA := List.mem_filter.mpr ⟨List.mem_append_right _ (List.mem_append_right _ (List.mem_append_right _ (List.mem_append_right _ (List.mem_of_getElem? (i := 52) rfl)))), rfl⟩
set_option maxRecDepth 20000 in
theorem wm_4_53 : Cond.methodLink RX9 126 yX9_kindOf ∈ pWA := List.mem_filter.mpr ⟨List.mem_append_right _ (List.mem_append_right _ (List.mem_append_right _ (List.mem_append_right _ (List.mem_of_getElem? (i := 53) rfl)))), rfl⟩
set_option maxRecDepth 20000 in
theorem wm_4_54 : Cond.static yX9_kindOf ∈ pWA := List.mem_filter.mpr ⟨List.mem_append_right _ (List.mem_append_right _ (List.mem_append_right _ (List.mem_append_right _ (List.mem_of_getElem? (i := 54) rfl)))), rfl⟩
set_option maxRecDepth 20000 in
theorem wm_4_55 : Cond.code yX9_kindOf cX9_kindOf 1 (some FieldType.int) ∈ pWA := List.mem_filter.mpr ⟨List.mem_append_right _ (List.mem_append_right _ (List.mem_append_right _ (List.mem_append_right _ (List.mem_of_getElem? (i := 55) rfl)))), rfl⟩
set_option maxRecDepth 20000 in
theorem wm_4_56 : Cond.methodLink RX9 129 yX9_endEntry ∈ pWA := List.mem_filter.mpr ⟨List.mem_append_right _ (List.mem_append_right _ (List.mem_append_right _ (List.mem_append_right _ (List.mem_of_getElem? (i := 56) rfl)))), rfl⟩
set_option maxRecDepth 20000 in
theorem wm_4_58 : Cond.instanceMethod yX9_endEntry ∈ pWA := List.mem_filter.mpr ⟨List.mem_append_right _ (List.mem_append_right _ (List.mem_append_right _ (List.mem_append_right _ (List.mem_of_getElem? (i := 58) rfl)))), rfl⟩
set_option maxRecDepth 20000 in
theorem wm_4_59 : Cond.code yX9_endEntry cX9_endEntry 1 (none : Option FieldType) ∈ pWA := List.mem_filter.mpr ⟨List.mem_append_right _ (List.mem_append_right _ (List.mem_append_right _ (List.mem_append_right _ (List.mem_of_getElem? (i := 59) rfl)))), rfl⟩
set_option maxRecDepth 20000 in
theorem wm_4_60 : Cond.methodLink RL 48 yX9_run ∈ pWA := List.mem_filter.mpr ⟨List.mem_append_right _ (List.mem_append_right _ (List.mem_append_right _ (List.mem_append_right _ (List.mem_of_getElem? (i := 60) rfl)))), rfl⟩
set_option maxRecDepth 20000 in
theorem wm_4_61 : Cond.instanceMethod yX9_run ∈ pWA := List.mem_filter.mpr ⟨List.mem_append_right _ (List.mem_append_right _ (List.mem_append_right _ (List.mem_append_right _ (List.mem_of_getElem? (i := 61) rfl)))), rfl⟩
set_option maxRecDepth 20000 in
theorem wm_4_62 : Cond.selects RX9 yX9_run yX9_run ∈ pWA := List.mem_filter.mpr ⟨List.mem_append_right _ (List.mem_append_right _ (List.mem_append_right _ (List.mem_append_right _ (List.mem_of_getElem? (i := 62) rfl)))), rfl⟩
set_option maxRecDepth 20000 in
theorem wm_4_63 : Cond.code yX9_run cX9_run 4 (some FieldType.int) ∈ pWA := List.mem_filter.mpr ⟨List.mem_append_right _ (List.mem_append_right _ (List.mem_append_right _ (List.mem_append_right _ (List.mem_of_getElem? (i := 63) rfl)))), rfl⟩
set_option maxRecDepth 20000 in
theorem wm_4_64 : Cond.methodLink RX9 156 yX9_allPaper ∈ pWA := List.mem_filter.mpr ⟨List.mem_append_right _ (List.mem_append_right _ (List.mem_append_right _ (List.mem_append_right _ (List.mem_of_getElem? (i := 64) rfl)))), rfl⟩
set_option maxRecDepth 20000 in
theorem wm_4_66 : Cond.instanceMethod yX9_allPaper ∈ pWA := List.mem_filter.mpr ⟨List.mem_append_right _ (List.mem_append_right _ (List.mem_append_right _ (List.mem_append_right _ (List.mem_of_getElem? (i := 66) rfl)))), rfl⟩
set_option maxRecDepth 20000 in
theorem wm_4_67 : Cond.code yX9_allPaper cX9_allPaper 1 (some FieldType.int) ∈ pWA := List.mem_filter.mpr ⟨List.mem_append_right _ (List.mem_append_right _ (List.mem_append_right _ (List.mem_append_right _ (List.mem_of_getElem? (i := 67) rfl)))), rfl⟩
set_option maxRecDepth 20000 in
theorem wm_4_68 : Cond.methodLink RX9 160 yX9_tick ∈ pWA := List.mem_filter.mpr ⟨List.mem_append_right _ (List.mem_append_right _ (List.mem_append_right _ (List.mem_append_right _ (List.mem_of_getElem? (i := 68) rfl)))), rfl⟩
set_option maxRecDepth 20000 in
theorem wm_4_70 : Cond.instanceMethod yX9_tick ∈ pWA := List.mem_filter.mpr ⟨List.mem_append_right _ (List.mem_append_right _ (List.mem_append_right _ (List.mem_append_right _ (List.mem_of_getElem? (i := 70) rfl)))), rfl⟩
set_option maxRecDepth 20000 in
theorem wm_4_71 : Cond.code yX9_tick cX9_tick 4 (none : Option FieldType) ∈ pWA := List.mem_filter.mpr ⟨List.mem_append_right _ (List.mem_append_right _ (List.mem_append_right _ (List.mem_append_right _ (List.mem_of_getElem? (i := 71) rfl)))), rfl⟩
set_option maxRecDepth 20000 in
theorem wm_4_72 : Cond.methodLink RX9 83 yX9_carryOut ∈ pWA := List.mem_filter.mpr ⟨List.mem_append_right _ (List.mem_append_right _ (List.mem_append_right _ (List.mem_append_right _ (List.mem_of_getElem? (i := 72) rfl)))), rfl⟩
set_option maxRecDepth 20000 in
theorem wm_4_74 : Cond.instanceMethod yX9_carryOut ∈ pWA := List.mem_filter.mpr ⟨List.mem_append_right _ (List.mem_append_right _ (List.mem_append_right _ (List.mem_append_right _ (List.mem_of_getElem? (i := 74) rfl)))), rfl⟩
set_option maxRecDepth 20000 in
theorem wm_4_75 : Cond.code yX9_carryOut cX9_carryOut 3 (none : Option FieldType) ∈ pWA := List.mem_filter.mpr ⟨List.mem_append_right _ (List.mem_append_right _ (List.mem_append_right _ (List.mem_append_right _ (List.mem_of_getElem? (i := 75) rfl)))), rfl⟩
set_option maxRecDepth 20000 in
theorem wm_4_76 : Cond.methodLink RX9 86 yX9_mix ∈ pWA := List.mem_filter.mpr ⟨List.mem_append_right _ (List.mem_append_right _ (List.mem_append_right _ (List.mem_append_right _ (List.mem_of_getElem? (i := 76) rfl)))), rfl⟩
set_option maxRecDepth 20000 in
theorem wm_4_78 : Cond.instanceMethod yX9_mix ∈ pWA := List.mem_filter.mpr ⟨List.mem_append_right _ (List.mem_append_right _ (List.mem_append_right _ (List.mem_append_right _ (List.mem_of_getElem? (i := 78) rfl)))), rfl⟩
set_option maxRecDepth 20000 in
theorem wm_4_79 : Cond.code yX9_mix cX9_mix 9 (none : Option FieldType) ∈ pWA := List.mem_filter.mpr ⟨List.mem_append_right _ (List.mem_append_right _ (List.mem_append_right _ (List.mem_append_right _ (List.mem_of_getElem? (i := 79) rfl)))), rfl⟩
set_option maxRecDepth 20000 in
theorem wm_4_80 : Cond.methodLink RX9 89 yX9_thin ∈ pWA := List.mem_filter.mpr ⟨List.mem_append_right _ (List.mem_append_right _ (List.mem_append_right _ (List.mem_append_right _ (List.mem_of_getElem? (i := 80) rfl)))), rfl⟩
set_option maxRecDepth 20000 in
theorem wm_4_82 : Cond.instanceMethod yX9_thin ∈ pWA := List.mem_filter.mpr ⟨List.mem_append_right _ (List.mem_append_right _ (List.mem_append_right _ (List.mem_append_right _ (List.mem_of_getElem? (i := 82) rfl)))), rfl⟩
set_option maxRecDepth 20000 in
theorem wm_4_83 : Cond.code yX9_thin cX9_thin 3 (none : Option FieldType) ∈ pWA := List.mem_filter.mpr ⟨List.mem_append_right _ (List.mem_append_right _ (List.mem_append_right _ (List.mem_append_right _ (List.mem_of_getElem? (i := 83) rfl)))), rfl⟩
set_option maxRecDepth 20000 in
theorem wm_4_84 : Cond.methodLink RX9 92 yX9_control ∈ pWA := List.mem_filter.mpr ⟨List.mem_append_right _ (List.mem_append_right _ (List.mem_append_right _ (List.mem_append_right _ (List.mem_of_getElem? (i := 84) rfl)))), rfl⟩
set_option maxRecDepth 20000 in
theorem wm_4_86 : Cond.instanceMethod yX9_control ∈ pWA := List.mem_filter.mpr ⟨List.mem_append_right _ (List.mem_append_right _ (List.mem_append_right _ (List.mem_append_right _ (List.mem_of_getElem? (i := 86) rfl)))), rfl⟩
set_option maxRecDepth 20000 in
theorem wm_4_87 : Cond.code yX9_control cX9_control 2 (none : Option FieldType) ∈ pWA := List.mem_filter.mpr ⟨List.mem_append_right _ (List.mem_append_right _ (List.mem_append_right _ (List.mem_append_right _ (List.mem_of_getElem? (i := 87) rfl)))), rfl⟩
set_option maxRecDepth 20000 in
theorem wm_4_88 : Cond.methodLink RX9 77 yX9_consistency ∈ pWA := List.mem_filter.mpr ⟨List.mem_append_right _ (List.mem_append_right _ (List.mem_append_right _ (List.mem_append_right _ (List.mem_of_getElem? (i := 88) rfl)))), rfl⟩
set_option maxRecDepth 20000 in
theorem wm_4_90 : Cond.instanceMethod yX9_consistency ∈ pWA := List.mem_filter.mpr ⟨List.mem_append_right _ (List.mem_append_right _ (List.mem_append_right _ (List.mem_append_right _ (List.mem_of_getElem? (i := 90) rfl)))), rfl⟩
set_option maxRecDepth 20000 in
theorem wm_4_91 : Cond.code yX9_consistency cX9_consistency 2 (some FieldType.int) ∈ pWA := List.mem_filter.mpr ⟨List.mem_append_right _ (List.mem_append_right _ (List.mem_append_right _ (List.mem_append_right _ (List.mem_of_getElem? (i := 91) rfl)))), rfl⟩
set_option maxRecDepth 20000 in
theorem wm_4_92 : Cond.methodLink RX9 95 yX9_makePaper ∈ pWA := List.mem_filter.mpr ⟨List.mem_append_right _ (List.mem_append_right _ (List.mem_append_right _ (List.mem_append_right _ (List.mem_of_getElem? (i := 92) rfl)))), rfl⟩
set_option maxRecDepth 20000 in
theorem wm_4_94 : Cond.instanceMethod yX9_makePaper ∈ pWA := List.mem_filter.mpr ⟨List.mem_append_right _ (List.mem_append_right _ (List.mem_append_right _ (List.mem_append_right _ (List.mem_of_getElem? (i := 94) rfl)))), rfl⟩
set_option maxRecDepth 20000 in
theorem wm_4_95 : Cond.code yX9_makePaper cX9_makePaper 2 (none : Option FieldType) ∈ pWA := List.mem_filter.mpr ⟨List.mem_append_right _ (List.mem_append_right _ (List.mem_append_right _ (List.mem_append_right _ (List.mem_of_getElem? (i := 95) rfl)))), rfl⟩
set_option maxRecDepth 20000 in
theorem wm_4_96 : Cond.methodLink RL 52 yX9_undo ∈ pWA := List.mem_filter.mpr ⟨List.mem_append_right _ (List.mem_append_right _ (List.mem_append_right _ (List.mem_append_right _ (List.mem_of_getElem? (i := 96) rfl)))), rfl⟩
set_option maxRecDepth 20000 in
theorem wm_4_97 : Cond.instanceMethod yX9_undo ∈ pWA := List.mem_filter.mpr ⟨List.mem_append_right _ (List.mem_append_right _ (List.mem_append_right _ (List.mem_append_right _ (List.mem_of_getElem? (i := 97) rfl)))), rfl⟩
set_option maxRecDepth 20000 in
theorem wm_4_98 : Cond.selects RX9 yX9_undo yX9_undo ∈ pWA := List.mem_filter.mpr ⟨List.mem_append_right _ (List.mem_append_right _ (List.mem_append_right _ (List.mem_append_right _ (List.mem_of_getElem? (i := 98) rfl)))), rfl⟩
set_option maxRecDepth 20000 in
theorem wm_4_99 : Cond.code yX9_undo cX9_undo 2 (some FieldType.int) ∈ pWA := List.mem_filter.mpr ⟨List.mem_append_right _ (List.mem_append_right _ (List.mem_append_right _ (List.mem_append_right _ (List.mem_of_getElem? (i := 99) rfl)))), rfl⟩
set_option maxRecDepth 20000 in
theorem wm_4_100 : Cond.methodLink RL 56 yX9_write ∈ pWA := List.mem_filter.mpr ⟨List.mem_append_right _ (List.mem_append_right _ (List.mem_append_right _ (List.mem_append_right _ (List.mem_of_getElem? (i := 100) rfl)))), rfl⟩
set_option maxRecDepth 20000 in
theorem wm_4_101 : Cond.instanceMethod yX9_write ∈ pWA := List.mem_filter.mpr ⟨List.mem_append_right _ (List.mem_append_right _ (List.mem_append_right _ (List.mem_append_right _ (List.mem_of_getElem? (i := 101) rfl)))), rfl⟩
set_option maxRecDepth 20000 in
theorem wm_4_102 : Cond.selects RX9 yX9_write yX9_write ∈ pWA := List.mem_filter.mpr ⟨List.mem_append_right _ (List.mem_append_right _ (List.mem_append_right _ (List.mem_append_right _ (List.mem_of_getElem? (i := 102) rfl)))), rfl⟩
set_option maxRecDepth 20000 in
theorem wm_4_103 : Cond.code yX9_write cX9_write 2 (some FieldType.int) ∈ pWA := List.mem_filter.mpr ⟨List.mem_append_right _ (List.mem_append_right _ (List.mem_append_right _ (List.mem_append_right _ (List.mem_of_getElem? (i := 103) rfl)))), rfl⟩
set_option maxRecDepth 20000 in
theorem wm_4_104 : Cond.methodLink RL 60 yX9_wipe ∈ pWA := List.mem_filter.mpr ⟨List.mem_append_right _ (List.mem_append_right _ (List.mem_append_right _ (List.mem_append_right _ (List.mem_of_getElem? (i := 104) rfl)))), rfl⟩
set_option maxRecDepth 20000 in
theorem wm_4_105 : Cond.instanceMethod yX9_wipe ∈ pWA := List.mem_filter.mpr ⟨List.mem_append_right _ (List.mem_append_right _ (List.mem_append_right _ (List.mem_append_right _ (List.mem_of_getElem? (i := 105) rfl)))), rfl⟩
set_option maxRecDepth 20000 in
theorem wm_4_106 : Cond.selects RX9 yX9_wipe yX9_wipe ∈ pWA := List.mem_filter.mpr ⟨List.mem_append_right _ (List.mem_append_right _ (List.mem_append_right _ (List.mem_append_right _ (List.mem_of_getElem? (i := 106) rfl)))), rfl⟩
set_option maxRecDepth 20000 in
theorem wm_4_107 : Cond.code yX9_wipe cX9_wipe 2 (some FieldType.int) ∈ pWA := List.mem_filter.mpr ⟨List.mem_append_right _ (List.mem_append_right _ (List.mem_append_right _ (List.mem_append_right _ (List.mem_of_getElem? (i := 107) rfl)))), rfl⟩
set_option maxRecDepth 20000 in
theorem wm_4_108 : Cond.methodLink RL 64 yX9_fault ∈ pWA := List.mem_filter.mpr ⟨List.mem_append_right _ (List.mem_append_right _ (List.mem_append_right _ (List.mem_append_right _ (List.mem_of_getElem? (i := 108) rfl)))), rfl⟩
set_option maxRecDepth 20000 in
theorem wm_4_109 : Cond.instanceMethod yX9_fault ∈ pWA := List.mem_filter.mpr ⟨List.mem_append_right _ (List.mem_append_right _ (List.mem_append_right _ (List.mem_append_right _ (List.mem_of_getElem? (i := 109) rfl)))), rfl⟩
set_option maxRecDepth 20000 in
theorem wm_4_110 : Cond.selects RX9 yX9_fault yX9_fault ∈ pWA := List.mem_filter.mpr ⟨List.mem_append_right _ (List.mem_append_right _ (List.mem_append_right _ (List.mem_append_right _ (List.mem_of_getElem? (i := 110) rfl)))), rfl⟩
set_option maxRecDepth 20000 in
theorem wm_4_111 : Cond.code yX9_fault cX9_fault 2 (some FieldType.int) ∈ pWA := List.mem_filter.mpr ⟨List.mem_append_right _ (List.mem_append_right _ (List.mem_append_right _ (List.mem_append_right _ (List.mem_of_getElem? (i := 111) rfl)))), rfl⟩
set_option maxRecDepth 20000 in
theorem wm_4_112 : Cond.methodLink RL 68 yX9_told ∈ pWA := List.mem_filter.mpr ⟨List.mem_append_right _ (List.mem_append_right _ (List.mem_append_right _ (List.mem_append_right _ (List.mem_of_getElem? (i := 112) rfl)))), rfl⟩
set_option maxRecDepth 20000 in
theorem wm_4_113 : Cond.instanceMethod yX9_told ∈ pWA := List.mem_filter.mpr ⟨List.mem_append_right _ (List.mem_append_right _ (List.mem_append_right _ (List.mem_append_right _ (List.mem_of_getElem? (i := 113) rfl)))), rfl⟩
set_option maxRecDepth 20000 in
theorem wm_4_114 : Cond.selects RX9 yX9_told yX9_told ∈ pWA := List.mem_filter.mpr ⟨List.mem_append_right _ (List.mem_append_right _ (List.mem_append_right _ (List.mem_append_right _ (List.mem_of_getElem? (i := 114) rfl)))), rfl⟩
set_option maxRecDepth 20000 in
theorem wm_4_115 : Cond.code yX9_told cX9_told 2 (some FieldType.int) ∈ pWA := List.mem_filter.mpr ⟨List.mem_append_right _ (List.mem_append_right _ (List.mem_append_right _ (List.mem_append_right _ (List.mem_of_getElem? (i := 115) rfl)))), rfl⟩
set_option maxRecDepth 20000 in
theorem wm_4_116 : Cond.methodLink RX9 163 yX9_entriesAhead ∈ pWA := List.mem_filter.mpr ⟨List.mem_append_right _ (List.mem_append_right _ (List.mem_append_right _ (List.mem_append_right _ (List.mem_of_getElem? (i := 116) rfl)))), rfl⟩
set_option maxRecDepth 20000 in
theorem wm_4_118 : Cond.instanceMethod yX9_entriesAhead ∈ pWA := List.mem_filter.mpr ⟨List.mem_append_right _ (List.mem_append_right _ (List.mem_append_right _ (List.mem_append_right _ (List.mem_of_getElem? (i := 118) rfl)))), rfl⟩
set_option maxRecDepth 20000 in
theorem wm_4_119 : Cond.code yX9_entriesAhead cX9_entriesAhead 3 (some FieldType.int) ∈ pWA := List.mem_filter.mpr ⟨List.mem_append_right _ (List.mem_append_right _ (List.mem_append_right _ (List.mem_append_right _ (List.mem_of_getElem? (i := 119) rfl)))), rfl⟩
set_option maxRecDepth 20000 in
theorem wm_4_120 : Cond.methodLink RL 72 yX9_setting ∈ pWA := List.mem_filter.mpr ⟨List.mem_append_right _ (List.mem_append_right _ (List.mem_append_right _ (List.mem_append_right _ (List.mem_of_getElem? (i := 120) rfl)))), rfl⟩
set_option maxRecDepth 20000 in
theorem wm_4_121 : Cond.instanceMethod yX9_setting ∈ pWA := List.mem_filter.mpr ⟨List.mem_append_right _ (List.mem_append_right _ (List.mem_append_right _ (List.mem_append_right _ (List.mem_of_getElem? (i := 121) rfl)))), rfl⟩
set_option maxRecDepth 20000 in
theorem wm_4_122 : Cond.selects RX9 yX9_setting yX9_setting ∈ pWA := List.mem_filter.mpr ⟨List.mem_append_right _ (List.mem_append_right _ (List.mem_append_right _ (List.mem_append_right _ (List.mem_of_getElem? (i := 122) rfl)))), rfl⟩
set_option maxRecDepth 20000 in
theorem wm_4_123 : Cond.code yX9_setting cX9_setting 2 (some FieldType.int) ∈ pWA := List.mem_filter.mpr ⟨List.mem_append_right _ (List.mem_append_right _ (List.mem_append_right _ (List.mem_append_right _ (List.mem_of_getElem? (i := 123) rfl)))), rfl⟩
set_option maxRecDepth 20000 in
theorem wm_4_124 : Cond.methodLink RL 76 yX9_chest ∈ pWA := List.mem_filter.mpr ⟨List.mem_append_right _ (List.mem_append_right _ (List.mem_append_right _ (List.mem_append_right _ (List.mem_of_getElem? (i := 124) rfl)))), rfl⟩
set_option maxRecDepth 20000 in
theorem wm_4_125 : Cond.instanceMethod yX9_chest ∈ pWA := List.mem_filter.mpr ⟨List.mem_append_right _ (List.mem_append_right _ (List.mem_append_right _ (List.mem_append_right _ (List.mem_of_getElem? (i := 125) rfl)))), rfl⟩
set_option maxRecDepth 20000 in
theorem wm_4_126 : Cond.selects RX9 yX9_chest yX9_chest ∈ pWA := List.mem_filter.mpr ⟨List.mem_append_right _ (List.mem_append_right _ (List.mem_append_right _ (List.mem_append_right _ (List.mem_of_getElem? (i := 126) rfl)))), rfl⟩
set_option maxRecDepth 20000 in
theorem wm_4_127 : Cond.code yX9_chest cX9_chest 3 (some FieldType.int) ∈ pWA := List.mem_filter.mpr ⟨List.mem_append_right _ (List.mem_append_right _ (List.mem_append_right _ (List.mem_append_right _ (List.mem_of_getElem? (i := 127) rfl)))), rfl⟩
set_option maxRecDepth 20000 in
theorem wm_4_128 : Cond.methodLink RL 80 yX9_account ∈ pWA := List.mem_filter.mpr ⟨List.mem_append_right _ (List.mem_append_right _ (List.mem_append_right _ (List.mem_append_right _ (List.mem_of_getElem? (i := 128) rfl)))), rfl⟩
set_option maxRecDepth 20000 in
theorem wm_4_129 : Cond.instanceMethod yX9_account ∈ pWA := List.mem_filter.mpr ⟨List.mem_append_right _ (List.mem_append_right _ (List.mem_append_right _ (List.mem_append_right _ (List.mem_of_getElem? (i := 129) rfl)))), rfl⟩
set_option maxRecDepth 20000 in
theorem wm_4_130 : Cond.selects RX9 yX9_account yX9_account ∈ pWA := List.mem_filter.mpr ⟨List.mem_append_right _ (List.mem_append_right _ (List.mem_append_right _ (List.mem_append_right _ (List.mem_of_getElem? (i := 130) rfl)))), rfl⟩
set_option maxRecDepth 20000 in
theorem wm_4_131 : Cond.code yX9_account cX9_account 2 (some FieldType.int) ∈ pWA := List.mem_filter.mpr ⟨List.mem_append_right _ (List.mem_append_right _ (List.mem_append_right _ (List.mem_append_right _ (List.mem_of_getElem? (i := 131) rfl)))), rfl⟩
set_option maxRecDepth 20000 in
theorem wm_4_132 : Cond.methodLink RX9 166 yX9_inChests ∈ pWA := List.mem_filter.mpr ⟨List.mem_append_right _ (List.mem_append_right _ (List.mem_append_right _ (List.mem_append_right _ (List.mem_of_getElem? (i := 132) rfl)))), rfl⟩
set_option maxRecDepth 20000 in
theorem wm_4_134 : Cond.instanceMethod yX9_inChests ∈ pWA := List.mem_filter.mpr ⟨List.mem_append_right _ (List.mem_append_right _ (List.mem_append_right _ (List.mem_append_right _ (List.mem_of_getElem? (i := 134) rfl)))), rfl⟩
set_option maxRecDepth 20000 in
theorem wm_4_135 : Cond.code yX9_inChests cX9_inChests 1 (some FieldType.int) ∈ pWA := List.mem_filter.mpr ⟨List.mem_append_right _ (List.mem_append_right _ (List.mem_append_right _ (List.mem_append_right _ (List.mem_of_getElem? (i := 135) rfl)))), rfl⟩
set_option maxRecDepth 20000 in
theorem wm_4_136 : Cond.methodLink RL 84 yX9_paper ∈ pWA := List.mem_filter.mpr ⟨List.mem_append_right _ (List.mem_append_right _ (List.mem_append_right _ (List.mem_append_right _ (List.mem_of_getElem? (i := 136) rfl)))), rfl⟩
set_option maxRecDepth 20000 in
theorem wm_4_137 : Cond.instanceMethod yX9_paper ∈ pWA := List.mem_filter.mpr ⟨List.mem_append_right _ (List.mem_append_right _ (List.mem_append_right _ (List.mem_append_right _ (List.mem_of_getElem? (i := 137) rfl)))), rfl⟩
set_option maxRecDepth 20000 in
theorem wm_4_138 : Cond.selects RX9 yX9_paper yX9_paper ∈ pWA := List.mem_filter.mpr ⟨List.mem_append_right _ (List.mem_append_right _ (List.mem_append_right _ (List.mem_append_right _ (List.mem_of_getElem? (i := 138) rfl)))), rfl⟩
set_option maxRecDepth 20000 in
theorem wm_4_139 : Cond.code yX9_paper cX9_paper 2 (some FieldType.int) ∈ pWA := List.mem_filter.mpr ⟨List.mem_append_right _ (List.mem_append_right _ (List.mem_append_right _ (List.mem_append_right _ (List.mem_of_getElem? (i := 139) rfl)))), rfl⟩
set_option maxRecDepth 20000 in
theorem wm_4_140 : Cond.methodLink RL 88 yX9_entry ∈ pWA := List.mem_filter.mpr ⟨List.mem_append_right _ (List.mem_append_right _ (List.mem_append_right _ (List.mem_append_right _ (List.mem_of_getElem? (i := 140) rfl)))), rfl⟩
set_option maxRecDepth 20000 in
theorem wm_4_141 : Cond.instanceMethod yX9_entry ∈ pWA := List.mem_filter.mpr ⟨List.mem_append_right _ (List.mem_append_right _ (List.mem_append_right _ (List.mem_append_right _ (List.mem_of_getElem? (i := 141) rfl)))), rfl⟩
set_option maxRecDepth 20000 in
theorem wm_4_142 : Cond.selects RX9 yX9_entry yX9_entry ∈ pWA := List.mem_filter.mpr ⟨List.mem_append_right _ (List.mem_append_right _ (List.mem_append_right _ (List.mem_append_right _ (List.mem_of_getElem? (i := 142) rfl)))), rfl⟩
set_option maxRecDepth 20000 in
theorem wm_4_143 : Cond.code yX9_entry cX9_entry 3 (some FieldType.int) ∈ pWA := List.mem_filter.mpr ⟨List.mem_append_right _ (List.mem_append_right _ (List.mem_append_right _ (List.mem_append_right _ (List.mem_of_getElem? (i := 143) rfl)))), rfl⟩
set_option maxRecDepth 20000 in
theorem wm_4_144 : Cond.methodLink RL 93 yX9_paperShare ∈ pWA := List.mem_filter.mpr ⟨List.mem_append_right _ (List.mem_append_right _ (List.mem_append_right _ (List.mem_append_right _ (List.mem_of_getElem? (i := 144) rfl)))), rfl⟩
set_option maxRecDepth 20000 in
theorem wm_4_145 : Cond.instanceMethod yX9_paperShare ∈ pWA := List.mem_filter.mpr ⟨List.mem_append_right _ (List.mem_append_right _ (List.mem_append_right _ (List.mem_append_right _ (List.mem_of_getElem? (i := 145) rfl)))), rfl⟩
set_option maxRecDepth 20000 in
theorem wm_4_146 : Cond.selects RX9 yX9_paperShare yX9_paperShare ∈ pWA := List.mem_filter.mpr ⟨List.mem_append_right _ (List.mem_append_right _ (List.mem_append_right _ (List.mem_append_right _ (List.mem_of_getElem? (i := 146) rfl)))), rfl⟩
set_option maxRecDepth 20000 in
theorem wm_4_147 : Cond.code yX9_paperShare cX9_paperShare 2 (some FieldType.float) ∈ pWA := List.mem_filter.mpr ⟨List.mem_append_right _ (List.mem_append_right _ (List.mem_append_right _ (List.mem_append_right _ (List.mem_of_getElem? (i := 147) rfl)))), rfl⟩
set_option maxRecDepth 20000 in
theorem wm_4_148 : Cond.methodLink RL 97 yX9_later ∈ pWA := List.mem_filter.mpr ⟨List.mem_append_right _ (List.mem_append_right _ (List.mem_append_right _ (List.mem_append_right _ (List.mem_of_getElem? (i := 148) rfl)))), rfl⟩
set_option maxRecDepth 20000 in
theorem wm_4_149 : Cond.instanceMethod yX9_later ∈ pWA := List.mem_filter.mpr ⟨List.mem_append_right _ (List.mem_append_right _ (List.mem_append_right _ (List.mem_append_right _ (List.mem_of_getElem? (i := 149) rfl)))), rfl⟩
set_option maxRecDepth 20000 in
theorem wm_4_150 : Cond.selects RX9 yX9_later yX9_later ∈ pWA := List.mem_filter.mpr ⟨List.mem_append_right _ (List.mem_append_right _ (List.mem_append_right _ (List.mem_append_right _ (List.mem_of_getElem? (i := 150) rfl)))), rfl⟩
set_option maxRecDepth 20000 in
theorem wm_4_151 : Cond.code yX9_later cX9_later 7 (some FieldType.int) ∈ pWA := List.mem_filter.mpr ⟨List.mem_append_right _ (List.mem_append_right _ (List.mem_append_right _ (List.mem_append_right _ (List.mem_of_getElem? (i := 151) rfl)))), rfl⟩
set_option maxRecDepth 20000 in
theorem wm_4_152 : Cond.methodLink RX9 169 yX9_hold ∈ pWA := List.mem_filter.mpr ⟨List.mem_append_right _ (List.mem_append_right _ (List.mem_append_right _ (List.mem_append_right _ (List.mem_of_getElem? (i := 152) rfl)))), rfl⟩
set_option maxRecDepth 20000 in
theorem wm_4_154 : Cond.instanceMethod yX9_hold ∈ pWA := List.mem_filter.mpr ⟨List.mem_append_right _ (List.mem_append_right _ (List.mem_append_right _ (List.mem_append_right _ (List.mem_of_getElem? (i := 154) rfl)))), rfl⟩
set_option maxRecDepth 20000 in
theorem wm_4_155 : Cond.code yX9_hold cX9_hold 2 (none : Option FieldType) ∈ pWA := List.mem_filter.mpr ⟨List.mem_append_right _ (List.mem_append_right _ (List.mem_append_right _ (List.mem_append_right _ (List.mem_of_getElem? (i := 155) rfl)))), rfl⟩
set_option maxRecDepth 20000 in
theorem wm_4_156 : Cond.methodLink RX9 172 yX9_restore ∈ pWA := List.mem_filter.mpr ⟨List.mem_append_right _ (List.mem_append_right _ (List.mem_append_right _ (List.mem_append_right _ (List.mem_of_getElem? (i := 156) rfl)))), rfl⟩
set_option maxRecDepth 20000 in
theorem wm_4_158 : Cond.instanceMethod yX9_restore ∈ pWA := List.mem_filter.mpr ⟨List.mem_append_right _ (List.mem_append_right _ (List.mem_append_right _ (List.mem_append_right _ (List.mem_of_getElem? (i := 158) rfl)))), rfl⟩
set_option maxRecDepth 20000 in
theorem wm_4_159 : Cond.code yX9_restore cX9_restore 2 (none : Option FieldType) ∈ pWA := List.mem_filter.mpr ⟨List.mem_append_right _ (List.mem_append_right _ (List.mem_append_right _ (List.mem_append_right _ (List.mem_of_getElem? (i := 159) rfl)))), rfl⟩
set_option maxRecDepth 20000 in
theorem wm_4_160 : Cond.methodLink RL 101 yX9_overflow ∈ pWA := List.mem_filter.mpr ⟨List.mem_append_right _ (List.mem_append_right _ (List.mem_append_right _ (List.mem_append_right _ (List.mem_of_getElem? (i := 160) rfl)))), rfl⟩
set_option maxRecDepth 20000 in
theorem wm_4_161 : Cond.instanceMethod yX9_overflow ∈ pWA := List.mem_filter.mpr ⟨List.mem_append_right _ (List.mem_append_right _ (List.mem_append_right _ (List.mem_append_right _ (List.mem_of_getElem? (i := 161) rfl)))), rfl⟩
set_option maxRecDepth 20000 in
theorem wm_4_162 : Cond.selects RX9 yX9_overflow yX9_overflow ∈ pWA := List.mem_filter.mpr ⟨List.mem_append_right _ (List.mem_append_right _ (List.mem_append_right _ (List.mem_append_right _ (List.mem_of_getElem? (i := 162) rfl)))), rfl⟩
set_option maxRecDepth 20000 in
theorem wm_4_163 : Cond.code yX9_overflow cX9_overflow 2 (some FieldType.int) ∈ pWA := List.mem_filter.mpr ⟨List.mem_append_right _ (List.mem_append_right _ (List.mem_append_right _ (List.mem_append_right _ (List.mem_of_getElem? (i := 163) rfl)))), rfl⟩
set_option maxRecDepth 20000 in
theorem wm_4_164 : Cond.methodLink RL 105 yX9_bestLimit ∈ pWA := List.mem_filter.mpr ⟨List.mem_append_right _ (List.mem_append_right _ (List.mem_append_right _ (List.mem_append_right _ (List.mem_of_getElem? (i := 164) rfl)))), rfl⟩
set_option maxRecDepth 20000 in
theorem wm_4_165 : Cond.instanceMethod yX9_bestLimit ∈ pWA := List.mem_filter.mpr ⟨List.mem_append_right _ (List.mem_append_right _ (List.mem_append_right _ (List.mem_append_right _ (List.mem_of_getElem? (i := 165) rfl)))), rfl⟩
set_option maxRecDepth 20000 in
theorem wm_4_166 : Cond.selects RX9 yX9_bestLimit yX9_bestLimit ∈ pWA := List.mem_filter.mpr ⟨List.mem_append_right _ (List.mem_append_right _ (List.mem_append_right _ (List.mem_append_right _ (List.mem_of_getElem? (i := 166) rfl)))), rfl⟩
set_option maxRecDepth 20000 in
theorem wm_4_167 : Cond.code yX9_bestLimit cX9_bestLimit 6 (some FieldType.int) ∈ pWA := List.mem_filter.mpr ⟨List.mem_append_right _ (List.mem_append_right _ (List.mem_append_right _ (List.mem_append_right _ (List.mem_of_getElem? (i := 167) rfl)))), rfl⟩
set_option maxRecDepth 20000 in
theorem wm_4_168 : Cond.methodLink RL 109 yX9_keep ∈ pWA := List.mem_filter.mpr ⟨List.mem_append_right _ (List.mem_append_right _ (List.mem_append_right _ (List.mem_append_right _ (List.mem_of_getElem? (i := 168) rfl)))), rfl⟩
set_option maxRecDepth 20000 in
theorem wm_4_169 : Cond.instanceMethod yX9_keep ∈ pWA := List.mem_filter.mpr ⟨List.mem_append_right _ (List.mem_append_right _ (List.mem_append_right _ (List.mem_append_right _ (List.mem_of_getElem? (i := 169) rfl)))), rfl⟩
set_option maxRecDepth 20000 in
theorem wm_4_170 : Cond.selects RX9 yX9_keep yX9_keep ∈ pWA := List.mem_filter.mpr ⟨List.mem_append_right _ (List.mem_append_right _ (List.mem_append_right _ (List.mem_append_right _ (List.mem_of_getElem? (i := 170) rfl)))), rfl⟩
set_option maxRecDepth 20000 in
theorem wm_4_171 : Cond.code yX9_keep cX9_keep 3 (some FieldType.int) ∈ pWA := List.mem_filter.mpr ⟨List.mem_append_right _ (List.mem_append_right _ (List.mem_append_right _ (List.mem_append_right _ (List.mem_of_getElem? (i := 171) rfl)))), rfl⟩
set_option maxRecDepth 20000 in
theorem wm_4_172 : Cond.methodLink RX9 175 yX9_isImage ∈ pWA := List.mem_filter.mpr ⟨List.mem_append_right _ (List.mem_append_right _ (List.mem_append_right _ (List.mem_append_right _ (List.mem_of_getElem? (i := 172) rfl)))), rfl⟩
set_option maxRecDepth 20000 in
theorem wm_4_173 : Cond.static yX9_isImage ∈ pWA := List.mem_filter.mpr ⟨List.mem_append_right _ (List.mem_append_right _ (List.mem_append_right _ (List.mem_append_right _ (List.mem_of_getElem? (i := 173) rfl)))), rfl⟩
set_option maxRecDepth 20000 in
theorem wm_4_174 : Cond.code yX9_isImage cX9_isImage 1 (some FieldType.boolean) ∈ pWA := List.mem_filter.mpr ⟨List.mem_append_right _ (List.mem_append_right _ (List.mem_append_right _ (List.mem_append_right _ (List.mem_of_getElem? (i := 174) rfl)))), rfl⟩
set_option maxRecDepth 20000 in
theorem wm_4_175 : Cond.methodLink RL 113 yX9_back ∈ pWA := List.mem_filter.mpr ⟨List.mem_append_right _ (List.mem_append_right _ (List.mem_append_right _ (List.mem_append_right _ (List.mem_of_getElem? (i := 175) rfl)))), rfl⟩
set_option maxRecDepth 20000 in
theorem wm_4_176 : Cond.instanceMethod yX9_back ∈ pWA := List.mem_filter.mpr ⟨List.mem_append_right _ (List.mem_append_right _ (List.mem_append_right _ (List.mem_append_right _ (List.mem_of_getElem? (i := 176) rfl)))), rfl⟩
set_option maxRecDepth 20000 in
theorem wm_4_177 : Cond.selects RX9 yX9_back yX9_back ∈ pWA := List.mem_filter.mpr ⟨List.mem_append_right _ (List.mem_append_right _ (List.mem_append_right _ (List.mem_append_right _ (List.mem_of_getElem? (i := 177) rfl)))), rfl⟩
set_option maxRecDepth 20000 in
theorem wm_4_178 : Cond.code yX9_back cX9_back 3 (some FieldType.int) ∈ pWA := List.mem_filter.mpr ⟨List.mem_append_right _ (List.mem_append_right _ (List.mem_append_right _ (List.mem_append_right _ (List.mem_of_getElem? (i := 178) rfl)))), rfl⟩
set_option maxRecDepth 20000 in
theorem wp_0 : Cond.selects RX6 yX6_skipBlanks yX6_skipBlanks ∈ pWA := List.mem_filter.mpr ⟨List.mem_append_left _ (List.mem_of_getElem? (i := 0) rfl), rfl⟩
set_option maxRecDepth 20000 in
theorem wp_1 : Cond.selects RX6 yX6_codeAt yX6_codeAt ∈ pWA := List.mem_filter.mpr ⟨List.mem_append_left _ (List.mem_of_getElem? (i := 1) rfl), rfl⟩
set_option maxRecDepth 20000 in
theorem wp_2 : Cond.selects RX6 yX6_readEntry yX6_readEntry ∈ pWA := List.mem_filter.mpr ⟨List.mem_append_left _ (List.mem_of_getElem? (i := 2) rfl), rfl⟩
set_option maxRecDepth 20000 in
theorem wp_3 : Cond.selects RX6 yX6_note yX6_note ∈ pWA := List.mem_filter.mpr ⟨List.mem_append_left _ (List.mem_of_getElem? (i := 3) rfl), rfl⟩
set_option maxRecDepth 20000 in
theorem wp_4 : Cond.selects RX6 yX6_readNumber yX6_readNumber ∈ pWA := List.mem_filter.mpr ⟨List.mem_append_left _ (List.mem_of_getElem? (i := 4) rfl), rfl⟩
set_option maxRecDepth 20000 in
theorem wp_5 : Cond.selects RX6 yX6_noteWrongByte yX6_noteWrongByte ∈ pWA := List.mem_filter.mpr ⟨List.mem_append_left _ (List.mem_of_getElem? (i := 5) rfl), rfl⟩
set_option maxRecDepth 20000 in
theorem wp_6 : Cond.selects RX5 yX5_carryOutSchedule yX5_carryOutSchedule ∈ pWA := List.mem_filter.mpr ⟨List.mem_append_left _ (List.mem_of_getElem? (i := 6) rfl), rfl⟩
set_option maxRecDepth 20000 in
theorem wp_7 : Cond.selects RX5 yX5_carryOut yX5_carryOut ∈ pWA := List.mem_filter.mpr ⟨List.mem_append_left _ (List.mem_of_getElem? (i := 7) rfl), rfl⟩
set_option maxRecDepth 20000 in
theorem wp_8 : Cond.selects RX5 yX5_feedMixing yX5_feedMixing ∈ pWA := List.mem_filter.mpr ⟨List.mem_append_left _ (List.mem_of_getElem? (i := 8) rfl), rfl⟩
set_option maxRecDepth 20000 in
theorem wp_9 : Cond.selects RX5 yX5_reasonOf yX5_reasonOf ∈ pWA := List.mem_filter.mpr ⟨List.mem_append_left _ (List.mem_of_getElem? (i := 9) rfl), rfl⟩
set_option maxRecDepth 20000 in
theorem wp_10 : Cond.selects RX5 yX5_feedMachine yX5_feedMachine ∈ pWA := List.mem_filter.mpr ⟨List.mem_append_left _ (List.mem_of_getElem? (i := 10) rfl), rfl⟩
set_option maxRecDepth 20000 in
theorem wp_11 : Cond.selects RX5 yX5_makeSheet yX5_makeSheet ∈ pWA := List.mem_filter.mpr ⟨List.mem_append_left _ (List.mem_of_getElem? (i := 11) rfl), rfl⟩
set_option maxRecDepth 20000 in
theorem wp_12 : Cond.selects RX5 yX5_countPaper yX5_countPaper ∈ pWA := List.mem_filter.mpr ⟨List.mem_append_left _ (List.mem_of_getElem? (i := 12) rfl), rfl⟩
set_option maxRecDepth 20000 in
theorem wp_13 : Cond.selects RX5 yX5_noteSums yX5_noteSums ∈ pWA := List.mem_filter.mpr ⟨List.mem_append_left _ (List.mem_of_getElem? (i := 13) rfl), rfl⟩
set_option maxRecDepth 20000 in
theorem wp_14 : Cond.selects RX8 yX8_imageAt yX8_imageAt ∈ pWA := List.mem_filter.mpr ⟨List.mem_append_left _ (List.mem_of_getElem? (i := 14) rfl), rfl⟩
set_option maxRecDepth 20000 in
theorem wp_15 : Cond.selects RX9 yX9_lay yX9_lay ∈ pWA := List.mem_filter.mpr ⟨List.mem_append_left _ (List.mem_of_getElem? (i := 15) rfl), rfl⟩
set_option maxRecDepth 20000 in
theorem wp_16 : Cond.selects RX9 yX9_remember yX9_remember ∈ pWA := List.mem_filter.mpr ⟨List.mem_append_left _ (List.mem_of_getElem? (i := 16) rfl), rfl⟩
set_option maxRecDepth 20000 in
theorem wp_17 : Cond.selects RX9 yX9_breakSheet yX9_breakSheet ∈ pWA := List.mem_filter.mpr ⟨List.mem_append_left _ (List.mem_of_getElem? (i := 17) rfl), rfl⟩
set_option maxRecDepth 20000 in
theorem wp_18 : Cond.selects RX9 yX9_changeGrade yX9_changeGrade ∈ pWA := List.mem_filter.mpr ⟨List.mem_append_left _ (List.mem_of_getElem? (i := 18) rfl), rfl⟩
set_option maxRecDepth 20000 in
theorem wp_19 : Cond.selects RX9 yX9_fillInto yX9_fillInto ∈ pWA := List.mem_filter.mpr ⟨List.mem_append_left _ (List.mem_of_getElem? (i := 19) rfl), rfl⟩
set_option maxRecDepth 20000 in
theorem wp_20 : Cond.selects RX9 yX9_sum yX9_sum ∈ pWA := List.mem_filter.mpr ⟨List.mem_append_left _ (List.mem_of_getElem? (i := 20) rfl), rfl⟩
set_option maxRecDepth 20000 in
theorem wp_21 : Cond.selects RX9 yX9_takeFrom yX9_takeFrom ∈ pWA := List.mem_filter.mpr ⟨List.mem_append_left _ (List.mem_of_getElem? (i := 21) rfl), rfl⟩
set_option maxRecDepth 20000 in
theorem wp_22 : Cond.selects RX9 yX9_readText yX9_readText ∈ pWA := List.mem_filter.mpr ⟨List.mem_append_left _ (List.mem_of_getElem? (i := 22) rfl), rfl⟩
set_option maxRecDepth 20000 in
theorem wp_23 : Cond.selects RX9 yX9_fails yX9_fails ∈ pWA := List.mem_filter.mpr ⟨List.mem_append_left _ (List.mem_of_getElem? (i := 23) rfl), rfl⟩
set_option maxRecDepth 20000 in
theorem wp_24 : Cond.selects RX9 yX9_readDigit yX9_readDigit ∈ pWA := List.mem_filter.mpr ⟨List.mem_append_left _ (List.mem_of_getElem? (i := 24) rfl), rfl⟩
set_option maxRecDepth 20000 in
theorem wp_25 : Cond.selects RX9 yX9_readOther yX9_readOther ∈ pWA := List.mem_filter.mpr ⟨List.mem_append_left _ (List.mem_of_getElem? (i := 25) rfl), rfl⟩
set_option maxRecDepth 20000 in
theorem wp_26 : Cond.selects RX9 yX9_isWell yX9_isWell ∈ pWA := List.mem_filter.mpr ⟨List.mem_append_left _ (List.mem_of_getElem? (i := 26) rfl), rfl⟩
set_option maxRecDepth 20000 in
theorem wp_27 : Cond.selects RX9 yX9_endEntry yX9_endEntry ∈ pWA := List.mem_filter.mpr ⟨List.mem_append_left _ (List.mem_of_getElem? (i := 27) rfl), rfl⟩
set_option maxRecDepth 20000 in
theorem wp_28 : Cond.selects RX9 yX9_allPaper yX9_allPaper ∈ pWA := List.mem_filter.mpr ⟨List.mem_append_left _ (List.mem_of_getElem? (i := 28) rfl), rfl⟩
set_option maxRecDepth 20000 in
theorem wp_29 : Cond.selects RX9 yX9_tick yX9_tick ∈ pWA := List.mem_filter.mpr ⟨List.mem_append_left _ (List.mem_of_getElem? (i := 29) rfl), rfl⟩
set_option maxRecDepth 20000 in
theorem wp_30 : Cond.selects RX9 yX9_carryOut yX9_carryOut ∈ pWA := List.mem_filter.mpr ⟨List.mem_append_left _ (List.mem_of_getElem? (i := 30) rfl), rfl⟩
set_option maxRecDepth 20000 in
theorem wp_31 : Cond.selects RX9 yX9_mix yX9_mix ∈ pWA := List.mem_filter.mpr ⟨List.mem_append_left _ (List.mem_of_getElem? (i := 31) rfl), rfl⟩
set_option maxRecDepth 20000 in
theorem wp_32 : Cond.selects RX9 yX9_thin yX9_thin ∈ pWA := List.mem_filter.mpr ⟨List.mem_append_left _ (List.mem_of_getElem? (i := 32) rfl), rfl⟩
set_option maxRecDepth 20000 in
theorem wp_33 : Cond.selects RX9 yX9_control yX9_control ∈ pWA := List.mem_filter.mpr ⟨List.mem_append_left _ (List.mem_of_getElem? (i := 33) rfl), rfl⟩
set_option maxRecDepth 20000 in
theorem wp_34 : Cond.selects RX9 yX9_consistency yX9_consistency ∈ pWA := List.mem_filter.mpr ⟨List.mem_append_left _ (List.mem_of_getElem? (i := 34) rfl), rfl⟩
set_option maxRecDepth 20000 in
theorem wp_35 : Cond.selects RX9 yX9_makePaper yX9_makePaper ∈ pWA := List.mem_filter.mpr ⟨List.mem_append_left _ (List.mem_of_getElem? (i := 35) rfl), rfl⟩
set_option maxRecDepth 20000 in
theorem wp_36 : Cond.selects RX9 yX9_entriesAhead yX9_entriesAhead ∈ pWA := List.mem_filter.mpr ⟨List.mem_append_left _ (List.mem_of_getElem? (i := 36) rfl), rfl⟩
set_option maxRecDepth 20000 in
theorem wp_37 : Cond.selects RX9 yX9_inChests yX9_inChests ∈ pWA := List.mem_filter.mpr ⟨List.mem_append_left _ (List.mem_of_getElem? (i := 37) rfl), rfl⟩
set_option maxRecDepth 20000 in
theorem wp_38 : Cond.selects RX9 yX9_hold yX9_hold ∈ pWA := List.mem_filter.mpr ⟨List.mem_append_left _ (List.mem_of_getElem? (i := 38) rfl), rfl⟩
set_option maxRecDepth 20000 in
theorem wp_39 : Cond.selects RX9 yX9_restore yX9_restore ∈ pWA := List.mem_filter.mpr ⟨List.mem_append_left _ (List.mem_of_getElem? (i := 39) rfl), rfl⟩
theorem inX0 : ∀ w ∈ u_ws RX0 TX0 6, w ∈ pWA := by
  intro w hw
  obtain ⟨k, hk, rfl⟩ := List.mem_map.mp hw
  have hk := List.mem_range.mp hk
  match k, hk with
  | 0, _ => exact wm_1_71
  | 1, _ => exact wm_1_73
  | 2, _ => exact wm_1_75
  | 3, _ => exact wm_1_77
  | 4, _ => exact wm_1_79
  | 5, _ => exact wm_1_81
  | k + 6, h => exact absurd h (by omega)
theorem inX1 : ∀ w ∈ u_ws RX1 TX1 4, w ∈ pWA := by
  intro w hw
  obtain ⟨k, hk, rfl⟩ := List.mem_map.mp hw
  have hk := List.mem_range.mp hk
  match k, hk with
  | 0, _ => exact wm_1_40
  | 1, _ => exact wm_1_42
  | 2, _ => exact wm_1_44
  | 3, _ => exact wm_1_46
  | k + 4, h => exact absurd h (by omega)
theorem inX2 : ∀ w ∈ u_ws RX2 TX2 3, w ∈ pWA := by
  intro w hw
  obtain ⟨k, hk, rfl⟩ := List.mem_map.mp hw
  have hk := List.mem_range.mp hk
  match k, hk with
  | 0, _ => exact wm_1_96
  | 1, _ => exact wm_1_98
  | 2, _ => exact wm_1_100
  | k + 3, h => exact absurd h (by omega)
theorem inX3 : ∀ w ∈ u_ws RX3 TX3 3, w ∈ pWA := by
  intro w hw
  obtain ⟨k, hk, rfl⟩ := List.mem_map.mp hw
  have hk := List.mem_range.mp hk
  match k, hk with
  | 0, _ => exact wm_1_224
  | 1, _ => exact wm_1_226
  | 2, _ => exact wm_1_228
  | k + 3, h => exact absurd h (by omega)
theorem inX4 : ∀ w ∈ u_ws RX4 TX4 2, w ∈ pWA := by
  intro w hw
  obtain ⟨k, hk, rfl⟩ := List.mem_map.mp hw
  have hk := List.mem_range.mp hk
  match k, hk with
  | 0, _ => exact wm_2_3
  | 1, _ => exact wm_2_5
  | k + 2, h => exact absurd h (by omega)
theorem inX5 : ∀ w ∈ u_ws RX5 TX5 15, w ∈ pWA := by
  intro w hw
  obtain ⟨k, hk, rfl⟩ := List.mem_map.mp hw
  have hk := List.mem_range.mp hk
  match k, hk with
  | 0, _ => exact wm_1_180
  | 1, _ => exact wm_1_182
  | 2, _ => exact wm_1_184
  | 3, _ => exact wm_1_186
  | 4, _ => exact wm_1_188
  | 5, _ => exact wm_1_190
  | 6, _ => exact wm_1_192
  | 7, _ => exact wm_1_194
  | 8, _ => exact wm_1_196
  | 9, _ => exact wm_1_198
  | 10, _ => exact wm_1_200
  | 11, _ => exact wm_1_202
  | 12, _ => exact wm_1_204
  | 13, _ => exact wm_1_206
  | 14, _ => exact wm_1_208
  | k + 15, h => exact absurd h (by omega)
theorem inX6 : ∀ w ∈ u_ws RX6 TX6 4, w ∈ pWA := by
  intro w hw
  obtain ⟨k, hk, rfl⟩ := List.mem_map.mp hw
  have hk := List.mem_range.mp hk
  match k, hk with
  | 0, _ => exact wm_2_23
  | 1, _ => exact wm_2_25
  | 2, _ => exact wm_2_27
  | 3, _ => exact wm_2_29
  | k + 4, h => exact absurd h (by omega)
theorem inX7 : ∀ w ∈ u_ws RX7 TX7 4, w ∈ pWA := by
  intro w hw
  obtain ⟨k, hk, rfl⟩ := List.mem_map.mp hw
  have hk := List.mem_range.mp hk
  match k, hk with
  | 0, _ => exact wm_1_122
  | 1, _ => exact wm_1_124
  | 2, _ => exact wm_1_126
  | 3, _ => exact wm_1_128
  | k + 4, h => exact absurd h (by omega)
theorem inX8 : ∀ w ∈ u_ws RX8 TX8 10, w ∈ pWA := by
  intro w hw
  obtain ⟨k, hk, rfl⟩ := List.mem_map.mp hw
  have hk := List.mem_range.mp hk
  match k, hk with
  | 0, _ => exact wm_2_42
  | 1, _ => exact wm_2_44
  | 2, _ => exact wm_2_46
  | 3, _ => exact wm_2_48
  | 4, _ => exact wm_2_50
  | 5, _ => exact wm_2_52
  | 6, _ => exact wm_2_54
  | 7, _ => exact wm_2_56
  | 8, _ => exact wm_2_58
  | 9, _ => exact wm_2_60
  | k + 10, h => exact absurd h (by omega)
theorem inX9 : ∀ w ∈ u_ws RX9 TX9 22, w ∈ pWA := by
  intro w hw
  obtain ⟨k, hk, rfl⟩ := List.mem_map.mp hw
  have hk := List.mem_range.mp hk
  match k, hk with
  | 0, _ => exact wm_3_163
  | 1, _ => exact wm_3_165
  | 2, _ => exact wm_3_167
  | 3, _ => exact wm_3_169
  | 4, _ => exact wm_3_171
  | 5, _ => exact wm_3_173
  | 6, _ => exact wm_3_175
  | 7, _ => exact wm_3_177
  | 8, _ => exact wm_3_179
  | 9, _ => exact wm_3_181
  | 10, _ => exact wm_3_183
  | 11, _ => exact wm_3_185
  | 12, _ => exact wm_3_187
  | 13, _ => exact wm_3_189
  | 14, _ => exact wm_3_191
  | 15, _ => exact wm_3_193
  | 16, _ => exact wm_3_195
  | 17, _ => exact wm_3_197
  | 18, _ => exact wm_3_199
  | 19, _ => exact wm_3_201
  | 20, _ => exact wm_3_203
  | 21, _ => exact wm_3_205
  | k + 22, h => exact absurd h (by omega)
end
section
noncomputable section
/-! THE PURE MACHINE: a method's code as a list of steps in passing style over a local picture (locals, stack, cells by their places, a region of loops).
Places: k < length: the k-th cell; 100000 + 14 i + j: the j-th cell of the region's i-th loop; from 1000000 on: constant arrays. -/
abbrev pLs : Type := List (Nat × Value)
abbrev pSt : Type := List Value
abbrev pWd : Type := List va_E
abbrev pLV : Type := Nat → Nat → Int32
abbrev pRg : Type := Nat × (Nat → pLV)
abbrev pOut : Type := Option Value × pWd × pRg
abbrev pK : Type := pLs → pSt → pWd → pRg → Option pOut
abbrev pEn : Type := pLs → pSt → pWd → pRg → pK → (Nat → pK) → Option pOut
/-- a branch that unfolds by its two laws alone: it is chosen -/
theorem ex_pif : ∃ B : (R : Type) → Prop → R → R → R, ∀ (R : Type) (c : Prop) (a b : R), (c → B R c a b = a) ∧ (¬ c → B R c a b = b) :=
  ⟨fun R c a b => @ite R c (Classical.propDecidable c) a b, fun R c a b => ⟨fun h => @if_pos c (Classical.propDecidable c) h R a b, fun h => @if_neg c (Classical.propDecidable c) h R a b⟩⟩
def pifC : (R : Type) → Prop → R → R → R := Classical.choose ex_pif
abbrev pif {R : Type} (c : Prop) (a b : R) : R := pifC R c a b
theorem pif_t {R : Type} {c : Prop} {a b : R} (h : c) : pifC R c a b = a := (Classical.choose_spec ex_pif R c a b).1 h
theorem pif_f {R : Type} {c : Prop} {a b : R} (h : ¬ c) : pifC R c a b = b := (Classical.choose_spec ex_pif R c a b).2 h
theorem pif_c {R : Type} {c : Prop} {a b x : R} (ht : c → a = x) (hf : ¬ c → b = x) : pifC R c a b = x := by
  by_cases h : c
  · rw [pif_t h]; exact ht h
  · rw [pif_f h]; exact hf h
def wget : pWd → Nat → Option va_E
  | [], _ => none
  | e :: _, 0 => some e
  | _ :: w, k + 1 => wget w k
def wsetK {R : Type} : pWd → Nat → va_E → (pWd → R) → R
  | [], _, _, c => c []
  | _ :: w, 0, e, c => c (e :: w)
  | e0 :: w, k + 1, e, c => wsetK w k e (fun w' => c (e0 :: w'))
def wset (w : pWd) (k : Nat) (e : va_E) : pWd := wsetK w k e (fun w' => w')
def vget : List Value → Nat → Option Value
  | [], _ => none
  | v :: _, 0 => some v
  | _ :: l, k + 1 => vget l k
def vsetK {R : Type} : List Value → Nat → Value → (List Value → R) → R
  | [], _, _, c => c []
  | _ :: w, 0, e, c => c (e :: w)
  | e0 :: w, k + 1, e, c => vsetK w k e (fun w' => c (e0 :: w'))
def lget : pLs → Nat → Option Value
  | [], _ => none
  | q :: l, i => match Nat.beq q.1 i with
    | true => some q.2
    | false => lget l i
def lremK {R : Type} : pLs → Nat → (pLs → R) → R
  | [], _, c => c []
  | q :: l, i, c => match Nat.beq q.1 i with
    | true => lremK l i c
    | false => match Nat.beq q.2.category 2 with
      | true => lremK l i c
      | false => lremK l i (fun l' => c (q :: l'))
/-- locals hold no long in what is walked: every value is of one slot -/
def p1 : Value → Bool
  | .int _ => true
  | .ref _ => true
  | _ => false
-- the steps
def oConst (v : Int32) : pEn := fun ls st w rg k _ => k ls (.int v :: st) w rg
def oIload (i : Nat) : pEn := fun ls st w rg k _ => match lget ls i with
  | some (.int x) => k ls (.int x :: st) w rg
  | _ => none
def oAload (i : Nat) : pEn := fun ls st w rg k _ => match lget ls i with
  | some (.ref x) => k ls (.ref x :: st) w rg
  | _ => none
def oIstore (i : Nat) : pEn := fun ls st w rg k _ => match st with
  | .int x :: st' => lremK ls i (fun ls' => k ((i, .int x) :: ls') st' w rg)
  | _ => none
def oAstore (i : Nat) : pEn := fun ls st w rg k _ => match st with
  | .ref x :: st' => lremK ls i (fun ls' => k ((i, .ref x) :: ls') st' w rg)
  | _ => none
def oIinc (i : Nat) (n : Int32) : pEn := fun ls st w rg k _ => match lget ls i with
  | some (.int x) => lremK ls i (fun ls' => k ((i, .int (x + n)) :: ls') st w rg)
  | _ => none
def oAdd : pEn := fun ls st w rg k _ => match st with
  | .int y :: .int x :: st' => k ls (.int (x + y) :: st') w rg
  | _ => none
def oSub : pEn := fun ls st w rg k _ => match st with
  | .int y :: .int x :: st' => k ls (.int (x - y) :: st') w rg
  | _ => none
def oMul : pEn := fun ls st w rg k _ => match st with
  | .int y :: .int x :: st' => k ls (.int (x * y) :: st') w rg
  | _ => none
def oAnd : pEn := fun ls st w rg k _ => match st with
  | .int y :: .int x :: st' => k ls (.int (x &&& y) :: st') w rg
  | _ => none
def oOr : pEn := fun ls st w rg k _ => match st with
  | .int y :: .int x :: st' => k ls (.int (x ||| y) :: st') w rg
  | _ => none
def oDiv : pEn := fun ls st w rg k _ => match st with
  | .int y :: .int x :: st' => pif (y = 0) (none) (k ls (.int (x / y) :: st') w rg)
  | _ => none
/-- by a written number -/
def oDivL : pEn := fun ls st w rg k _ => match st with
  | .int y :: .int x :: st' => match decide (y = 0) with
    | true => none
    | false => k ls (.int (x / y) :: st') w rg
  | _ => none
def oShl : pEn := fun ls st w rg k _ => match st with
  | .int y :: .int x :: st' => k ls (.int (x <<< (y &&& 31)) :: st') w rg
  | _ => none
def oShr : pEn := fun ls st w rg k _ => match st with
  | .int y :: .int x :: st' => k ls (.int (x >>> (y &&& 31)) :: st') w rg
  | _ => none
def oI2l : pEn := fun ls st w rg k _ => match st with
  | .int x :: st' => k ls (.long x.toInt64 :: st') w rg
  | _ => none
def oL2i : pEn := fun ls st w rg k _ => match st with
  | .long x :: st' => k ls (.int x.toInt32 :: st') w rg
  | _ => none
def oLmul : pEn := fun ls st w rg k _ => match st with
  | .long y :: .long x :: st' => k ls (.long (x * y) :: st') w rg
  | _ => none
def oLdiv : pEn := fun ls st w rg k _ => match st with
  | .long y :: .long x :: st' => pif (y = 0) (none) (k ls (.long (x / y) :: st') w rg)
  | _ => none
def oDup : pEn := fun ls st w rg k _ => match st with
  | .int x :: st' => k ls (.int x :: .int x :: st') w rg
  | .ref x :: st' => k ls (.ref x :: .ref x :: st') w rg
  | _ => none
def oPop : pEn := fun ls st w rg k _ => match st with
  | .int _ :: st' => k ls st' w rg
  | .ref _ :: st' => k ls st' w rg
  | _ => none
/-- two of one slot each: an int over a reference -/
def oDup2 : pEn := fun ls st w rg k _ => match st with
  | .int x :: .ref y :: st' => k ls (.int x :: .ref y :: .int x :: .ref y :: st') w rg
  | _ => none
def oGoto (t : Nat) : pEn := fun ls st w rg _ j => j t ls st w rg
def oIfeq (t : Nat) : pEn := fun ls st w rg k j => match st with
  | .int x :: st' => pif (x = 0) (j t ls st' w rg) (k ls st' w rg)
  | _ => none
def oIfne (t : Nat) : pEn := fun ls st w rg k j => match st with
  | .int x :: st' => pif (x = 0) (k ls st' w rg) (j t ls st' w rg)
  | _ => none
def oIflt (t : Nat) : pEn := fun ls st w rg k j => match st with
  | .int x :: st' => pif (x < 0) (j t ls st' w rg) (k ls st' w rg)
  | _ => none
def oIfge (t : Nat) : pEn := fun ls st w rg k j => match st with
  | .int x :: st' => pif (0 ≤ x) (j t ls st' w rg) (k ls st' w rg)
  | _ => none
def oIfgt (t : Nat) : pEn := fun ls st w rg k j => match st with
  | .int x :: st' => pif (0 < x) (j t ls st' w rg) (k ls st' w rg)
  | _ => none
def oIfle (t : Nat) : pEn := fun ls st w rg k j => match st with
  | .int x :: st' => pif (x ≤ 0) (j t ls st' w rg) (k ls st' w rg)
  | _ => none
def oCeq (t : Nat) : pEn := fun ls st w rg k j => match st with
  | .int y :: .int x :: st' => pif (x = y) (j t ls st' w rg) (k ls st' w rg)
  | _ => none
def oCne (t : Nat) : pEn := fun ls st w rg k j => match st with
  | .int y :: .int x :: st' => pif (x = y) (k ls st' w rg) (j t ls st' w rg)
  | _ => none
def oClt (t : Nat) : pEn := fun ls st w rg k j => match st with
  | .int y :: .int x :: st' => pif (x < y) (j t ls st' w rg) (k ls st' w rg)
  | _ => none
def oCge (t : Nat) : pEn := fun ls st w rg k j => match st with
  | .int y :: .int x :: st' => pif (y ≤ x) (j t ls st' w rg) (k ls st' w rg)
  | _ => none
def oCgt (t : Nat) : pEn := fun ls st w rg k j => match st with
  | .int y :: .int x :: st' => pif (y < x) (j t ls st' w rg) (k ls st' w rg)
  | _ => none
def oCle (t : Nat) : pEn := fun ls st w rg k j => match st with
  | .int y :: .int x :: st' => pif (x ≤ y) (j t ls st' w rg) (k ls st' w rg)
  | _ => none
def swK {R : Type} (x : Int32) : List (Int32 × Nat) → Nat → (Nat → R) → R
  | [], d, c => c d
  | q :: l, d, c => pif (x = q.1) (c q.2) (swK x l d c)
def oSw (keys : List (Int32 × Nat)) (d : Nat) : pEn := fun ls st w rg _ j => match st with
  | .int x :: st' => swK x keys d (fun t => j t ls st' w rg)
  | _ => none
/-- ifnull of a reference: it isn't -/
def oNonnull : pEn := fun ls st w rg k _ => match st with
  | .ref _ :: st' => k ls st' w rg
  | _ => none
def oGet (ci f : Nat) : pEn := fun ls st w rg k _ => match st with
  | .ref a :: st' => match wget w a with
    | some (.inr (c, fs)) => match Nat.beq c ci with
      | true => match vget fs f with
        | some v => k ls (v :: st') w rg
        | none => none
      | false => none
    | _ => none
  | _ => none
/-- an int is put -/
def oPut (ci f : Nat) : pEn := fun ls st w rg k _ => match st with
  | .int v :: .ref a :: st' => match wget w a with
    | some (.inr (c, fs)) => match Nat.beq c ci with
      | true => match Nat.blt f fs.length with
        | true => vsetK fs f (.int v) (fun fs' => wsetK w a (.inr (ci, fs')) (fun w' => k ls st' w' rg))
        | false => none
      | false => none
    | _ => none
  | _ => none
/-- a truth is put: 0 or 1 -/
def oPutB (ci f : Nat) : pEn := fun ls st w rg k _ => match st with
  | .int v :: .ref a :: st' => match wget w a with
    | some (.inr (c, fs)) => match Nat.beq c ci with
      | true => match Nat.blt f fs.length with
        | true => pif (v = 0 ∨ v = 1) (vsetK fs f (.int v) (fun fs' => wsetK w a (.inr (ci, fs')) (fun w' => k ls st' w' rg))) (none)
        | false => none
      | false => none
    | _ => none
  | _ => none
/-- the constant arrays -/
def cget (a : Nat) : Option (List Int32) := match Nat.beq a 1000000 with
  | true => some [40, 960, 500, 300, 30, 3, 10, 500, 5]
  | false => match Nat.beq a 1000001 with
    | true => some [0, 0, 0, 0, 1, 0, 0, 0, 0]
    | false => match Nat.beq a 1000002 with
      | true => some [200, 5000, 2000, 1000, 100, 8, 50, 2000, 20]
      | false => none
def oAlen : pEn := fun ls st w rg k _ => match st with
  | .ref a :: st' => match wget w a with
    | some (.inl (0, n, .inl _)) => k ls (.int (Int32.ofNat n) :: st') w rg
    | none => match cget a with
      | some _ => k ls (.int 9 :: st') w rg
      | none => none
    | _ => none
  | _ => none
def oIald : pEn := fun ls st w rg k _ => match st with
  | .int i :: .ref a :: st' => match wget w a with
    | some (.inl (0, n, .inl f)) => pif (i < 0 ∨ n ≤ i.toNatClampNeg) none (k ls (.int (f i.toNatClampNeg) :: st') w rg)
    | none => match cget a with
      | some l => pif (i < 0 ∨ 9 ≤ i.toNatClampNeg) none (k ls (.int (l.getD i.toNatClampNeg 0) :: st') w rg)
      | none => none
    | _ => none
  | _ => none
/-- at a written place -/
def oIaldN (n0 : Nat) : pEn := fun ls st w rg k _ => match st with
  | .int i :: .ref a :: st' => match decide (i.toInt = (n0 : Int)) with
    | true => match wget w a with
      | some (.inl (0, n, .inl f)) => match Nat.blt n0 n with
        | true => k ls (.int (f n0) :: st') w rg
        | false => none
      | _ => none
    | false => none
  | _ => none
/-- at one of some written places -/
def pickK {R : Type} (i : Int32) : List Nat → (Nat → Option R) → Option R
  | [], _ => none
  | n :: l, c => match decide (i.toInt = (n : Int)) with
    | true => c n
    | false => pickK i l c
def oIaldP (ps : List Nat) : pEn := fun ls st w rg k _ => match st with
  | .int i :: .ref a :: st' => pickK i ps (fun n0 => match wget w a with
    | some (.inl (0, n, .inl f)) => match Nat.blt n0 n with
      | true => k ls (.int (f n0) :: st') w rg
      | false => none
    | _ => none)
  | _ => none
def oIastP (ps : List Nat) : pEn := fun ls st w rg k _ => match st with
  | .int x :: .int i :: .ref a :: st' => pickK i ps (fun n0 => match wget w a with
    | some (.inl (0, n, .inl f)) => match Nat.blt n0 n with
      | true => wsetK w a (.inl (0, n, .inl (upd f n0 x))) (fun w' => k ls st' w' rg)
      | false => none
    | _ => none)
  | _ => none
def oIast : pEn := fun ls st w rg k _ => match st with
  | .int x :: .int i :: .ref a :: st' => match wget w a with
    | some (.inl (0, n, .inl f)) => pif (i < 0 ∨ n ≤ i.toNatClampNeg) none (wsetK w a (.inl (0, n, .inl (upd f i.toNatClampNeg x))) (fun w' => k ls st' w' rg))
    | _ => none
  | _ => none
def oIastN (n0 : Nat) : pEn := fun ls st w rg k _ => match st with
  | .int x :: .int i :: .ref a :: st' => match decide (i.toInt = (n0 : Int)) with
    | true => match wget w a with
      | some (.inl (0, n, .inl f)) => match Nat.blt n0 n with
        | true => wsetK w a (.inl (0, n, .inl (upd f n0 x))) (fun w' => k ls st' w' rg)
        | false => none
      | _ => none
    | false => none
  | _ => none
def oIret : pEn := fun _ st w rg _ _ => match st with
  | [.int v] => some (some (.int v), w, rg)
  | _ => none
def oZret : pEn := fun _ st w rg _ _ => match st with
  | [.int v] => pif (v = 0 ∨ v = 1) (some (some (.int v), w, rg)) (none)
  | _ => none
def oVret : pEn := fun _ st w rg _ _ => match st with
  | [] => some (none, w, rg)
  | _ => none
def oAret : pEn := fun _ st w rg _ _ => match st with
  | [.ref v] => some (some (.ref v), w, rg)
  | _ => none
/-- Math.min, Math.max -/
def oMin : pEn := fun ls st w rg k _ => match st with
  | .int y :: .int x :: st' => match Nat.blt st'.length 5 with
    | true => k ls (.int (if y < x then y else x) :: st') w rg
    | false => none
  | _ => none
def oMax : pEn := fun ls st w rg k _ => match st with
  | .int y :: .int x :: st' => match Nat.blt st'.length 5 with
    | true => k ls (.int (if x < y then y else x) :: st') w rg
    | false => none
  | _ => none
def blk (j : Nat → pK) : List pEn → pK
  | [], _, _, _, _ => none
  | e :: cd, ls, st, w, rg => e ls st w rg (blk j cd) j
def ex (code : List pEn) : Nat → Nat → pK
  | 0, _, _, _, _, _ => none
  | n + 1, i, ls, st, w, rg => blk (ex code n) (code.drop i) ls st w rg
end
end
section
noncomputable section
/-! THE PURE MACHINE IS SOUND: a picture of the heap by places; one theorem a step; a method's contract out of its pure run. -/
/-- the kinds of arrays: 0 of ints, else of loops -/
abbrev pKap : Type := Nat → ClassId
def cv (α : Nat → Nat) : Value → Value
  | .ref k => .ref (α k)
  | v => v
def ca (α : Nat → Nat) : vp_A → vp_A
  | (n, .inr (.inr (.inr (.inr f)))) => (n, .inr (.inr (.inr (.inr (fun i => (f i).map α)))))
  | x => x
def ce (κ : pKap) (α : Nat → Nat) : va_E → va_E
  | .inl (c, x) => .inl (κ c, ca α x)
  | .inr (i, fs) => .inr (i, fs.map (cv α))
theorem cv_cat (α : Nat → Nat) (v : Value) : (cv α v).category = v.category := by cases v <;> rfl
/-- the cells of a loop that stands at the place b: it, its four chests, its account with the paper, its controller with the measurements, its schedule with three rows, its settings -/
def loopCells (b : Nat) (v : pLV) : pWd :=
  [.inr (5, [.int (v 0 0), .int (v 0 1), .int (v 0 2), .int (v 0 3), .int (v 0 4), .int (v 0 5), .int (v 0 6), .ref (b + 1), .ref (b + 2), .ref (b + 3), .ref (b + 4), .ref (b + 5), .ref (b + 7), .ref (b + 9), .ref (b + 13)]),
   .inr (1, [.int (v 0 30), .int (v 0 10), .int (v 0 11), .int (v 0 12)]),
   .inr (1, [.int (v 0 31), .int (v 0 13), .int (v 0 14), .int (v 0 15)]),
   .inr (1, [.int (v 0 32), .int (v 0 16), .int (v 0 17), .int (v 0 18)]),
   .inr (1, [.int (v 0 33), .int (v 0 19), .int (v 0 20), .int (v 0 21)]),
   .inr (0, [.int (v 0 22), .int (v 0 23), .int (v 0 24), .int (v 0 25), .int (v 0 26), .ref (b + 6)]),
   .inl (0, 4, .inl (v 2)),
   .inr (2, [.int (v 0 27), .ref (b + 8), .int (v 0 28)]),
   .inl (0, 9, .inl (v 3)),
   .inr (7, [.ref (b + 10), .ref (b + 11), .ref (b + 12), .int (v 0 29)]),
   .inl (0, 20, .inl (v 4)), .inl (0, 20, .inl (v 5)), .inl (0, 20, .inl (v 6)),
   .inl (0, 9, .inl (v 1))]
def rgCell (rg : pRg) (k : Nat) : Option va_E := if 100000 ≤ k ∧ k < 100000 + 14 * rg.1 then wget (loopCells (100000 + 14 * ((k - 100000) / 14)) (rg.2 ((k - 100000) / 14))) ((k - 100000) % 14) else none
def cellOf (w : pWd) (rg : pRg) (k : Nat) : Option va_E := match wget w k with
  | some e => some e
  | none => rgCell rg k
def pDm (n r k : Nat) : Prop := k < n ∨ (100000 ≤ k ∧ k < 100000 + 14 * r)
theorem wget_lt : ∀ {w : pWd} {k : Nat} {e : va_E}, wget w k = some e → k < w.length
  | [], _, _, h => by cases h
  | _ :: _, 0, _, _ => by simp
  | _ :: w, k + 1, e, h => by
    have := wget_lt (w := w) (k := k) (e := e) h
    simp; omega
theorem wget_ex : ∀ {w : pWd} {k : Nat}, k < w.length → ∃ e, wget w k = some e
  | [], _, h => by simp at h
  | e :: _, 0, _ => ⟨e, rfl⟩
  | _ :: w, k + 1, h => wget_ex (w := w) (k := k) (by simp at h; omega)
theorem wget_none {w : pWd} {k : Nat} (h : w.length ≤ k) : wget w k = none := by
  cases e : wget w k with
  | none => rfl
  | some x => exact absurd (wget_lt e) (by omega)
theorem wsetK_eq {R : Type} : ∀ (w : pWd) (k : Nat) (e : va_E) (c : pWd → R), wsetK w k e c = c (wset w k e)
  | [], _, _, _ => rfl
  | _ :: _, 0, _, _ => rfl
  | e0 :: w, k + 1, e, c => by
    show wsetK w k e (fun w' => c (e0 :: w')) = c (wsetK w k e (fun w' => e0 :: w'))
    rw [wsetK_eq w k e, wsetK_eq w k e]
theorem wset_cons (e0 : va_E) (w : pWd) (k : Nat) (e : va_E) : wset (e0 :: w) (k + 1) e = e0 :: wset w k e := by
  show wsetK w k e (fun w' => e0 :: w') = _
  rw [wsetK_eq]
theorem wset_len : ∀ (w : pWd) (k : Nat) (e : va_E), (wset w k e).length = w.length
  | [], _, _ => rfl
  | _ :: _, 0, _ => rfl
  | e0 :: w, k + 1, e => by rw [wset_cons]; simp [wset_len w k e]
theorem wget_wset : ∀ {w : pWd} {a : Nat} {e0 : va_E} (e : va_E) (k : Nat), wget w a = some e0 → wget (wset w a e) k = if k = a then some e else wget w k
  | [], _, _, _, _, h => by cases h
  | _ :: _, 0, _, e, 0, _ => rfl
  | _ :: _, 0, _, e, k + 1, _ => rfl
  | x :: w, a + 1, e0, e, 0, _ => by rw [wset_cons]; rfl
  | x :: w, a + 1, e0, e, k + 1, h => by
    rw [wset_cons]
    show wget (wset w a e) k = if k + 1 = a + 1 then some e else wget w k
    rw [wget_wset (w := w) e k h]
    simp
theorem vsetK_eq {R : Type} : ∀ (w : List Value) (k : Nat) (e : Value) (c : List Value → R), vsetK w k e c = c (w.set k e)
  | [], _, _, _ => rfl
  | _ :: _, 0, _, _ => rfl
  | e0 :: w, k + 1, e, c => by
    show vsetK w k e (fun w' => c (e0 :: w')) = _
    rw [vsetK_eq w k e]; rfl
theorem vget_eq : ∀ (l : List Value) (k : Nat), vget l k = l[k]?
  | [], _ => rfl
  | _ :: _, 0 => rfl
  | _ :: l, k + 1 => by
    show vget l k = _
    rw [vget_eq l k]; rfl
theorem lget_mem : ∀ {l : pLs} {i : Nat} {v : Value}, lget l i = some v → (i, v) ∈ l
  | [], _, _, h => by cases h
  | q :: l, i, v, h => by
    unfold lget at h
    split at h
    next hb =>
      cases h
      have : q.1 = i := Nat.eq_of_beq_eq_true hb
      subst this
      exact List.mem_cons_self
    next => exact List.mem_cons_of_mem _ (lget_mem h)
def lrem (l : pLs) (i : Nat) : pLs := lremK l i (fun l' => l')
theorem lremK_eq {R : Type} : ∀ (l : pLs) (i : Nat) (c : pLs → R), lremK l i c = c (lrem l i)
  | [], _, _ => rfl
  | q :: l, i, c => by
    unfold lrem lremK
    split
    · exact lremK_eq l i c
    · split
      · exact lremK_eq l i c
      · rw [lremK_eq l i (fun l' => c (q :: l')), lremK_eq l i (fun l' => q :: l')]
theorem lrem_mem : ∀ {l : pLs} {i : Nat} {q : Nat × Value}, q ∈ lrem l i → q ∈ l ∧ ¬ q.1 = i ∧ ¬ q.2.category = 2
  | [], _, _, h => by cases h
  | x :: l, i, q, h => by
    unfold lrem lremK at h
    split at h
    next =>
      have := lrem_mem (l := l) (i := i) (q := q) h
      exact ⟨List.mem_cons_of_mem _ this.1, this.2⟩
    next hb =>
      split at h
      next =>
        have := lrem_mem (l := l) (i := i) (q := q) h
        exact ⟨List.mem_cons_of_mem _ this.1, this.2⟩
      next hb2 =>
        rw [lremK_eq] at h
        rcases List.mem_cons.mp h with rfl | h
        · exact ⟨List.mem_cons_self, fun e => (by rw [e] at hb; rw [Nat.beq_refl] at hb; cases hb), fun e => (by rw [e] at hb2; cases hb2)⟩
        · have := lrem_mem (l := l) (i := i) (q := q) h
          exact ⟨List.mem_cons_of_mem _ this.1, this.2⟩
theorem cellOf_get {w : pWd} {rg : pRg} {k : Nat} {e : va_E} (h : wget w k = some e) : cellOf w rg k = some e := by simp [cellOf, h]
theorem cellOf_dom {w : pWd} {rg : pRg} {k : Nat} {e : va_E} (h : cellOf w rg k = some e) : pDm w.length rg.1 k := by
  unfold cellOf at h
  split at h
  next e' h' => exact Or.inl (wget_lt h')
  next =>
    unfold rgCell at h
    split at h
    next hh => exact Or.inr hh
    next => cases h
theorem cellOf_set {w : pWd} {rg : pRg} {a : Nat} {e0 : va_E} (e : va_E) (k : Nat) (h : wget w a = some e0) : cellOf (wset w a e) rg k = if k = a then some e else cellOf w rg k := by
  unfold cellOf
  rw [wget_wset e k h]
  by_cases hk : k = a
  · simp [hk]
  · simp [hk]
def HP (D : va_G) (κ : pKap) (α : Nat → Nat) (h : Nat → Option va_E) (H : Heap) : Prop := ∀ (k : Nat) (e : va_E), h k = some e → va_at D vwCl (α k, ce κ α e) H
def pInj (α : Nat → Nat) (n r : Nat) : Prop := ∀ k k', pDm n r k → pDm n r k' → α k = α k' → k = k'
theorem HP.put {D : va_G} {κ : pKap} {α : Nat → Nat} {w : pWd} {rg : pRg} {H H1 : Heap} {a n : Nat} {e0 e1 : va_E} (hP : HP D κ α (cellOf w rg) H) (hn : w.length ≤ n) (hi : pInj α n rg.1) (ha : wget w a = some e0) (h1 : va_at D vwCl (α a, ce κ α e1) H1) (oq : ∀ q : Nat, q ≠ α a → H1[q]? = H[q]?) : HP D κ α (cellOf (wset w a e1) rg) H1 := by
  intro k e hk
  rw [cellOf_set e1 k ha] at hk
  by_cases hka : k = a
  · rw [if_pos hka] at hk
    cases hk
    rw [hka]; exact h1
  · rw [if_neg hka] at hk
    refine (hP k e hk).kept (oq _ fun q => hka ?_)
    have d1 : pDm n rg.1 k := by
      rcases cellOf_dom hk with h | h
      · exact Or.inl (by omega)
      · exact Or.inr h
    exact hi k a d1 (Or.inl (Nat.lt_of_lt_of_le (wget_lt ha) hn)) q
/-- the arrays' classes -/
abbrev pTys (κ : pKap) : List (ClassId × FieldType) := [(κ 0, .int), (κ 1, .object "BrokeLoop$Loop")]
def nestW : List Cond := [.methodLinkNest "BrokeLoop$Loop" 53 ⟨"BrokeLoop$Account", "<init>", "()V"⟩ "BrokeLoop", .methodLinkNest "BrokeLoop$Loop" 60 ⟨"BrokeLoop$Controller", "<init>", "()V"⟩ "BrokeLoop", .methodLinkNest "BrokeLoop$Loop" 67 ⟨"BrokeLoop$Schedule", "<init>", "()V"⟩ "BrokeLoop", .fieldLinkNest "BrokeLoop$Loop" 76 "BrokeLoop" "FIRST_VALUE" "[I" "BrokeLoop", .methodLinkNest "BrokeLoop$Loop" 79 ⟨"BrokeLoop", "copyNumbers", "([I[I)V"⟩ "BrokeLoop", .methodLinkNest "BrokeLoop" 28 ⟨"BrokeLoop$Image", "<init>", "()V"⟩ "BrokeLoop", .methodLinkNest "BrokeLoop" 46 ⟨"BrokeLoop$Reader", "<init>", "()V"⟩ "BrokeLoop", .methodLinkNest "BrokeLoop$Reader" 11 ⟨"BrokeLoop$Schedule", "<init>", "()V"⟩ "BrokeLoop", .methodLinkNest "BrokeLoop$Account" 31 ⟨"BrokeLoop", "copyNumbers", "([I[I)V"⟩ "BrokeLoop", .methodLinkNest "BrokeLoop$Controller" 22 ⟨"BrokeLoop", "copyNumbers", "([I[I)V"⟩ "BrokeLoop", .methodLinkNest "BrokeLoop$Schedule" 25 ⟨"BrokeLoop", "copyNumbers", "([I[I)V"⟩ "BrokeLoop"]
def pKN (U : State) : Prop := ∀ w ∈ nestW, va_Nw w U
theorem pKN.warm {s U : State} (hW : s.WarmedH U.vm) (h : pKN s) : pKN U := by
  intro w hw
  have h0 := h w hw
  simp only [nestW, List.mem_cons, List.not_mem_nil, or_false] at hw
  rcases hw with rfl | rfl | rfl | rfl | rfl | rfl | rfl | rfl | rfl | rfl | rfl <;> first | exact h0.warmM hW | exact h0.warmF hW
theorem pKN.same {s U : State} (hW : s.vm = U.vm) (h : pKN s) : pKN U := by
  intro w hw
  have h0 := h w hw
  simp only [nestW, List.mem_cons, List.not_mem_nil, or_false] at hw
  rcases hw with rfl | rfl | rfl | rfl | rfl | rfl | rfl | rfl | rfl | rfl | rfl <;> exact h0.same rfl hW
def pStat : List (String × Nat × List Int32) := [("FIRST_VALUE", 1000000, [40, 960, 500, 300, 30, 3, 10, 500, 5]), ("LEAST_VALUE", 1000001, [0, 0, 0, 0, 1, 0, 0, 0, 0]), ("MOST_VALUE", 1000002, [200, 5000, 2000, 1000, 100, 8, 50, 2000, 20])]
def pKT (α : Nat → Nat) (A : Nat → Prop) (U : State) (H : Heap) : Prop := ∀ q ∈ pStat, va_Z "BrokeLoop" q.1 "[I" (.ref (α q.2.1)) A U H ∧ va_T .int (α q.2.1) 9 (fun j => .int (q.2.2.getD j 0)) A U H
def pKE (D : va_G) (κ : pKap) (α : Nat → Nat) (A : Nat → Prop) (U : State) : Prop := va_K D vwCl (pTys κ) U ∧ pKN U ∧ pKT α A U U.heap
theorem pKE.blind {D : va_G} {κ : pKap} {α : Nat → Nat} {A : Nat → Prop} {U : State} {g : JFrame} {mk : MethodId} {a : Array Value} (h : pKE D κ α A U) : pKE D κ α A (U.calling g mk a) :=
  ⟨va_K.moved (u := U) (U := U.calling g mk a) (Vm.Alike.refl U.vm) h.1, pKN.same (s := U) (U := U.calling g mk a) rfl h.2.1, fun q hq => ⟨va_Z.moved (u := U) (U := U.calling g mk a) (Vm.Alike.refl U.vm) (h.2.2 q hq).1, va_T.moved (u := U) (U := U.calling g mk a) (Vm.Alike.refl U.vm) (h.2.2 q hq).2⟩⟩
/-- a callee's: its free cells are the caller's; the caller's heap has moved -/
theorem pKE.down {D : va_G} {κ : pKap} {α α' : Nat → Nat} {A A' : Nat → Prop} {s U : State} {locs : List Loc} (h : pKE D κ α A s) (hS : va_S A s.heap U.heap locs) (hW : s.WarmedH U.vm) (hA : ∀ q, A' q → A q) (hα : ∀ q ∈ pStat, α' q.2.1 = α q.2.1) : pKE D κ α' A' U := by
  refine ⟨va_K.moved hW.alike h.1, h.2.1.warm hW, fun q hq => ?_⟩
  obtain ⟨h1, h2⟩ := h.2.2 q hq
  have hk : ∀ a : Nat, a < s.heap.size → ¬ A a → U.heap[a]? = s.heap[a]? := hS.2.1
  rw [hα q hq]
  exact ⟨((h1.kept hk).moved hW.alike).narrow hA, ((h2.kept hk).moved hW.alike).narrow hA⟩
section PM
variable {p : Program} {l : Launch} {e : Env} {R : Room} {s : State} {m : MethodId} {args : Array Value} {below : List Frame} {meth : Method} {c : Code}
/-- the walk at an index with a picture -/
def pWW (p : Program) (l : Launch) (e : Env) (R : Room) (s : State) (m : MethodId) (args : Array Value) (below : List Frame) (meth : Method) (c : Code) (D : va_G) (κ : pKap) (α : Nat → Nat) (A : Nat → Prop) (sz L0 Lm r nL : Nat) (Q : State → Prop) (pc : Nat) (ls : pLs) (st : pSt) (w : pWd) (rg : pRg) : Prop :=
  ∀ (H : Heap) (locs : List Loc) (lsA : Array Slot), HP D κ α (cellOf w rg) H → H.size = sz + (w.length - L0) → L0 ≤ w.length → w.length ≤ Lm → rg.1 = r → va_S A s.heap H locs → lv_has lsA nL (ls.map (fun q => (q.1, cv α q.2))) →
    W p l e R s m args below meth c H locs (w.length - L0) (1000 * (w.length - L0)) Q (F0 m pc lsA (st.map (cv α)))
/-- what stays through a method -/
def pCx (cc : ByteArray) (own : String) (nL : Nat) (ret : Option FieldType) (R : Room) (cap : Nat) (p : Program) (s : State) (m : MethodId) (args : Array Value) (meth : Method) (c : Code) (D : va_G) (κ : pKap) (α : Nat → Nat) (A : Nat → Prop) (sz L0 Lm r : Nat) : Prop :=
  p.tables.exec = Jvm.exec ∧ c.code = cc ∧ c.maxLocals = nL ∧ s.vm.findClass own = some m.cls ∧ (∀ w ∈ pWA, w.before args s = true) ∧ meth.sig.returnType = ret ∧ meth.locks = false ∧ pKE D κ α A s ∧ (∀ q, s.heap.size ≤ q → A q) ∧ pInj α Lm r ∧ (∀ k, pDm Lm r k → A (α k)) ∧ (∀ k, L0 ≤ k → k < Lm → α k = sz + (k - L0)) ∧ Lm ≤ 100000 ∧ Lm - L0 ≤ R.cells ∧ 1000 * (Lm - L0) ≤ R.slots ∧ cap ≤ Lm
def pRet (s : State) (args : Array Value) (D : va_G) (κ : pKap) (α : Nat → Nat) (A : Nat → Prop) (sz L0 : Nat) (Qc : Array Value → State → Outcome → State → Prop) (out : pOut) : Prop :=
  ∀ (H : Heap) (locs : List Loc) (t : State), HP D κ α (cellOf out.2.1 out.2.2) H → H.size = sz + (out.2.1.length - L0) → va_S A s.heap H locs → t.heap = H → s.WarmedH t.vm → Qc args s (.returned (out.1.map (cv α))) t
def pMQ (below : List Frame) (Qc : Array Value → State → Outcome → State → Prop) (args : Array Value) (s : State) (A : Nat → Prop) (L0 : Nat) (out : pOut) : State → Prop := MQ below Qc args s (out.2.1.length - L0) (1000 * (out.2.1.length - L0)) A
/-- a step is sound at the index i -/
def EOK (l : Launch) (cc : ByteArray) (own : String) (nL : Nat) (ret : Option FieldType) (R : Room) (cap : Nat) (pcOf : Nat → Nat) (i : Nat) (en : pEn) : Prop :=
  ∀ (p : Program) (e : Env) (s : State) (m : MethodId) (args : Array Value) (below : List Frame) (meth : Method) (c : Code) (D : va_G) (κ : pKap) (α : Nat → Nat) (A : Nat → Prop) (sz L0 Lm r : Nat) (Qc : Array Value → State → Outcome → State → Prop) (out : pOut),
    pCx cc own nL ret R cap p s m args meth c D κ α A sz L0 Lm r → pRet s args D κ α A sz L0 Qc out → ∀ (ls : pLs) (st : pSt) (w : pWd) (rg : pRg) (k : pK) (j : Nat → pK), en ls st w rg k j = some out →
    (∀ ls' st' w' rg', k ls' st' w' rg' = some out → pWW p l e R s m args below meth c D κ α A sz L0 Lm r nL (pMQ below Qc args s A L0 out) (pcOf (i + 1)) ls' st' w' rg') →
    (∀ i' ls' st' w' rg', j i' ls' st' w' rg' = some out → pWW p l e R s m args below meth c D κ α A sz L0 Lm r nL (pMQ below Qc args s A L0 out) (pcOf i') ls' st' w' rg') →
    pWW p l e R s m args below meth c D κ α A sz L0 Lm r nL (pMQ below Qc args s A L0 out) (pcOf i) ls st w rg
variable {cc : ByteArray} {own : String} {nL cap : Nat} {ret : Option FieldType} {pcOf : Nat → Nat}
theorem blk_sound {code : List pEn} (hc : ∀ (i : Nat) (en : pEn), code[i]? = some en → EOK l cc own nL ret R cap pcOf i en) {D : va_G} {κ : pKap} {α : Nat → Nat} {A : Nat → Prop} {sz L0 Lm r : Nat} {Qc : Array Value → State → Outcome → State → Prop} {out : pOut}
    (C : pCx cc own nL ret R cap p s m args meth c D κ α A sz L0 Lm r) (hR : pRet s args D κ α A sz L0 Qc out) {j : Nat → pK}
    (hj : ∀ i' ls' st' w' rg', j i' ls' st' w' rg' = some out → pWW p l e R s m args below meth c D κ α A sz L0 Lm r nL (pMQ below Qc args s A L0 out) (pcOf i') ls' st' w' rg') :
    ∀ (cd : List pEn) (i : Nat), cd = code.drop i → ∀ ls st w rg, blk j cd ls st w rg = some out → pWW p l e R s m args below meth c D κ α A sz L0 Lm r nL (pMQ below Qc args s A L0 out) (pcOf i) ls st w rg := by
  intro cd
  induction cd with
  | nil => intro i _ ls st w rg h; cases h
  | cons en cd ih =>
    intro i hcd ls st w rg h
    have h1 : code[i]? = some en := by
      have : (code.drop i)[0]? = some en := by rw [← hcd]; rfl
      rw [List.getElem?_drop] at this
      simpa using this
    have h2 : cd = code.drop (i + 1) := by
      have : (code.drop i).drop 1 = cd := by rw [← hcd]; rfl
      rw [List.drop_drop] at this
      exact this.symm
    exact hc i en h1 p e s m args below meth c D κ α A sz L0 Lm r Qc out C hR ls st w rg (blk j cd) j h (fun ls' st' w' rg' h' => ih (i + 1) h2 ls' st' w' rg' h') hj
theorem ex_sound {code : List pEn} (hc : ∀ (i : Nat) (en : pEn), code[i]? = some en → EOK l cc own nL ret R cap pcOf i en) {D : va_G} {κ : pKap} {α : Nat → Nat} {A : Nat → Prop} {sz L0 Lm r : Nat} {Qc : Array Value → State → Outcome → State → Prop} {out : pOut}
    (C : pCx cc own nL ret R cap p s m args meth c D κ α A sz L0 Lm r) (hR : pRet s args D κ α A sz L0 Qc out) :
    ∀ (n i : Nat) (ls : pLs) (st : pSt) (w : pWd) (rg : pRg), ex code n i ls st w rg = some out → pWW p l e R s m args below meth c D κ α A sz L0 Lm r nL (pMQ below Qc args s A L0 out) (pcOf i) ls st w rg := by
  intro n
  induction n with
  | zero => intro i ls st w rg h; cases h
  | succ n ih =>
    intro i ls st w rg h
    exact blk_sound hc C hR (fun i' ls' st' w' rg' h' => ih i' ls' st' w' rg' h') _ i rfl ls st w rg h
end PM
end
end
section
noncomputable section
/-! ONE THEOREM A STEP (the plain ones are laid by a program of mine) -/
theorem pl_at {lsA : Array Slot} {nL : Nat} {α : Nat → Nat} {ls : pLs} {i : Nat} {v : Value} (h : lv_has lsA nL (ls.map (fun q => (q.1, cv α q.2)))) (hx : lget ls i = some v) : lsA[i]? = some (.val (cv α v)) :=
  h.2.2 (i, cv α v) (List.mem_map.mpr ⟨(i, v), lget_mem hx, rfl⟩)
theorem pl_sub {lsA : Array Slot} {nL : Nat} {l l' : List (Nat × Value)} (h : lv_has lsA nL l) (hs : ∀ q ∈ l', q ∈ l) : lv_has lsA nL l' := ⟨h.1, h.2.1, fun q hq => h.2.2 q (hs q hq)⟩
theorem pl_put {lsA : Array Slot} {nL : Nat} {α : Nat → Nat} {ls : pLs} {i : Nat} {v : Value} (h : lv_has lsA nL ((i, cv α v) :: (ls.map (fun q => (q.1, cv α q.2))).filter (fun q => !(q.1 == i) && !(q.1 + 1 == i && q.2.category == 2)))) : lv_has lsA nL (((i, v) :: lrem ls i).map (fun q => (q.1, cv α q.2))) := by
  refine pl_sub h fun q hq => ?_
  rw [List.map_cons] at hq
  rcases List.mem_cons.mp hq with rfl | hq
  · exact List.mem_cons_self
  · obtain ⟨x, hx, rfl⟩ := List.mem_map.mp hq
    obtain ⟨h1, h2, h3⟩ := lrem_mem hx
    refine List.mem_cons_of_mem _ (List.mem_filter.mpr ⟨List.mem_map.mpr ⟨x, h1, rfl⟩, ?_⟩)
    have e1 : (x.1 == i) = false := by simpa using h2
    have e2 : ((cv α x.2).category == 2) = false := by rw [cv_cat]; simpa using h3
    simp [e1, e2]
section ST
variable {l : Launch} {R : Room} {cc : ByteArray} {own : String} {nL cap : Nat} {ret : Option FieldType} {pcOf : Nat → Nat} {i : Nat}
set_option maxHeartbeats 1000000 in
theorem okIconst {n : Int} {v : Int32} (hd : decode cc (pcOf i) = .ok (.iconst n, 1)) (hp : pcOf (i + 1) = pcOf i + 1) (hv : Int32.ofInt n = v) : EOK l cc own nL ret R cap pcOf i (oConst v) := by
  intro p e s m args below meth c D κ α A sz L0 Lm r Qc out C hR ls st w rg k j h hk hj H locs lsA hP hz h0 h1 hr hS hl
  obtain ⟨hx, hb, hml, hown, hts, hret, hlk, hKE, hA, hin, hAk, hfr, hLm⟩ := id C
  have g := hk _ _ _ _ h H locs lsA hP hz h0 h1 hr hS hl; rw [hp] at g; exact lv_iconst hx hb hd hv g
set_option maxHeartbeats 1000000 in
theorem okBipush {n : Int} {v : Int32} (hd : decode cc (pcOf i) = .ok (.bipush n, 2)) (hp : pcOf (i + 1) = pcOf i + 2) (hv : (Int8.ofInt n).toInt32 = v) : EOK l cc own nL ret R cap pcOf i (oConst v) := by
  intro p e s m args below meth c D κ α A sz L0 Lm r Qc out C hR ls st w rg k j h hk hj H locs lsA hP hz h0 h1 hr hS hl
  obtain ⟨hx, hb, hml, hown, hts, hret, hlk, hKE, hA, hin, hAk, hfr, hLm⟩ := id C
  have g := hk _ _ _ _ h H locs lsA hP hz h0 h1 hr hS hl; rw [hp] at g; exact lv_bipush hx hb hd hv g
set_option maxHeartbeats 1000000 in
theorem okSipush {n : Int} {v : Int32} (hd : decode cc (pcOf i) = .ok (.sipush n, 3)) (hp : pcOf (i + 1) = pcOf i + 3) (hv : (Int16.ofInt n).toInt32 = v) : EOK l cc own nL ret R cap pcOf i (oConst v) := by
  intro p e s m args below meth c D κ α A sz L0 Lm r Qc out C hR ls st w rg k j h hk hj H locs lsA hP hz h0 h1 hr hS hl
  obtain ⟨hx, hb, hml, hown, hts, hret, hlk, hKE, hA, hin, hAk, hfr, hLm⟩ := id C
  have g := hk _ _ _ _ h H locs lsA hP hz h0 h1 hr hS hl; rw [hp] at g; exact lv_sipush hx hb hd hv g
set_option maxHeartbeats 1000000 in
theorem okLdc {idx : Nat} {v : Int32} (hd : decode cc (pcOf i) = .ok (.ldc idx, 2)) (hp : pcOf (i + 1) = pcOf i + 2) (hw : Cond.constant own idx v ∈ pWA) : EOK l cc own nL ret R cap pcOf i (oConst v) := by
  intro p e s m args below meth c D κ α A sz L0 Lm r Qc out C hR ls st w rg k j h hk hj H locs lsA hP hz h0 h1 hr hS hl
  obtain ⟨hx, hb, hml, hown, hts, hret, hlk, hKE, hA, hin, hAk, hfr, hLm⟩ := id C
  have g := hk _ _ _ _ h H locs lsA hP hz h0 h1 hr hS hl; rw [hp] at g; exact lv_ldc hx hb hown (hts _ hw) hd g
set_option maxHeartbeats 1000000 in
theorem okIload_n {k0 : Fin 4} {n : Nat} (hd : decode cc (pcOf i) = .ok (.iload_n k0, 1)) (hp : pcOf (i + 1) = pcOf i + 1) (hn : (k0 : Nat) = n) : EOK l cc own nL ret R cap pcOf i (oIload n) := by
  intro p e s m args below meth c D κ α A sz L0 Lm r Qc out C hR ls st w rg k j h hk hj H locs lsA hP hz h0 h1 hr hS hl
  obtain ⟨hx, hb, hml, hown, hts, hret, hlk, hKE, hA, hin, hAk, hfr, hLm⟩ := id C
  unfold oIload at h
  split at h
  next x hx0 => have g := hk _ _ _ _ h H locs lsA hP hz h0 h1 hr hS hl; rw [hp] at g; exact lv_iload_n hx hb hd hn (pl_at hl hx0) g
  next => cases h
set_option maxHeartbeats 1000000 in
theorem okIload {n : Nat} (hd : decode cc (pcOf i) = .ok (.iload n, 2)) (hp : pcOf (i + 1) = pcOf i + 2) : EOK l cc own nL ret R cap pcOf i (oIload n) := by
  intro p e s m args below meth c D κ α A sz L0 Lm r Qc out C hR ls st w rg k j h hk hj H locs lsA hP hz h0 h1 hr hS hl
  obtain ⟨hx, hb, hml, hown, hts, hret, hlk, hKE, hA, hin, hAk, hfr, hLm⟩ := id C
  unfold oIload at h
  split at h
  next x hx0 => have g := hk _ _ _ _ h H locs lsA hP hz h0 h1 hr hS hl; rw [hp] at g; exact lv_iload hx hb hd (pl_at hl hx0) g
  next => cases h
set_option maxHeartbeats 1000000 in
theorem okAload_n {k0 : Fin 4} {n : Nat} (hd : decode cc (pcOf i) = .ok (.aload_n k0, 1)) (hp : pcOf (i + 1) = pcOf i + 1) (hn : (k0 : Nat) = n) : EOK l cc own nL ret R cap pcOf i (oAload n) := by
  intro p e s m args below meth c D κ α A sz L0 Lm r Qc out C hR ls st w rg k j h hk hj H locs lsA hP hz h0 h1 hr hS hl
  obtain ⟨hx, hb, hml, hown, hts, hret, hlk, hKE, hA, hin, hAk, hfr, hLm⟩ := id C
  unfold oAload at h
  split at h
  next x hx0 => have g := hk _ _ _ _ h H locs lsA hP hz h0 h1 hr hS hl; rw [hp] at g; exact lv_aload_n hx hb hd hn (pl_at hl hx0) g
  next => cases h
set_option maxHeartbeats 1000000 in
theorem okAload {n : Nat} (hd : decode cc (pcOf i) = .ok (.aload n, 2)) (hp : pcOf (i + 1) = pcOf i + 2) : EOK l cc own nL ret R cap pcOf i (oAload n) := by
  intro p e s m args below meth c D κ α A sz L0 Lm r Qc out C hR ls st w rg k j h hk hj H locs lsA hP hz h0 h1 hr hS hl
  obtain ⟨hx, hb, hml, hown, hts, hret, hlk, hKE, hA, hin, hAk, hfr, hLm⟩ := id C
  unfold oAload at h
  split at h
  next x hx0 => have g := hk _ _ _ _ h H locs lsA hP hz h0 h1 hr hS hl; rw [hp] at g; exact lv_aload hx hb hd (pl_at hl hx0) g
  next => cases h
set_option maxHeartbeats 1000000 in
theorem okIstore_n {k0 : Fin 4} {n : Nat} (hd : decode cc (pcOf i) = .ok (.istore_n k0, 1)) (hp : pcOf (i + 1) = pcOf i + 1) (hn : (k0 : Nat) = n) (hnL : n < nL) : EOK l cc own nL ret R cap pcOf i (oIstore n) := by
  intro p e s m args below meth c D κ α A sz L0 Lm r Qc out C hR ls st w rg k j h hk hj H locs lsA hP hz h0 h1 hr hS hl
  obtain ⟨hx, hb, hml, hown, hts, hret, hlk, hKE, hA, hin, hAk, hfr, hLm⟩ := id C
  unfold oIstore at h
  split at h
  next x st' =>
    rw [lremK_eq] at h
    refine lv_istore_n hx hb hd hn hl hnL rfl (fun ls2 hl2 => ?_)
    have g := hk _ _ _ _ h H locs ls2 hP hz h0 h1 hr hS (pl_put (v := .int x) hl2)
    rw [hp] at g
    exact g
  next => cases h
set_option maxHeartbeats 1000000 in
theorem okIstore {n : Nat} (hd : decode cc (pcOf i) = .ok (.istore n, 2)) (hp : pcOf (i + 1) = pcOf i + 2) (hnL : n < nL) : EOK l cc own nL ret R cap pcOf i (oIstore n) := by
  intro p e s m args below meth c D κ α A sz L0 Lm r Qc out C hR ls st w rg k j h hk hj H locs lsA hP hz h0 h1 hr hS hl
  obtain ⟨hx, hb, hml, hown, hts, hret, hlk, hKE, hA, hin, hAk, hfr, hLm⟩ := id C
  unfold oIstore at h
  split at h
  next x st' =>
    rw [lremK_eq] at h
    refine lv_istore hx hb hd hl hnL rfl (fun ls2 hl2 => ?_)
    have g := hk _ _ _ _ h H locs ls2 hP hz h0 h1 hr hS (pl_put (v := .int x) hl2)
    rw [hp] at g
    exact g
  next => cases h
set_option maxHeartbeats 1000000 in
theorem okAstore_n {k0 : Fin 4} {n : Nat} (hd : decode cc (pcOf i) = .ok (.astore_n k0, 1)) (hp : pcOf (i + 1) = pcOf i + 1) (hn : (k0 : Nat) = n) (hnL : n < nL) : EOK l cc own nL ret R cap pcOf i (oAstore n) := by
  intro p e s m args below meth c D κ α A sz L0 Lm r Qc out C hR ls st w rg k j h hk hj H locs lsA hP hz h0 h1 hr hS hl
  obtain ⟨hx, hb, hml, hown, hts, hret, hlk, hKE, hA, hin, hAk, hfr, hLm⟩ := id C
  unfold oAstore at h
  split at h
  next x st' =>
    rw [lremK_eq] at h
    refine lv_astore_n hx hb hd hn hl hnL rfl (fun ls2 hl2 => ?_)
    have g := hk _ _ _ _ h H locs ls2 hP hz h0 h1 hr hS (pl_put (v := .ref x) hl2)
    rw [hp] at g
    exact g
  next => cases h
set_option maxHeartbeats 1000000 in
theorem okAstore {n : Nat} (hd : decode cc (pcOf i) = .ok (.astore n, 2)) (hp : pcOf (i + 1) = pcOf i + 2) (hnL : n < nL) : EOK l cc own nL ret R cap pcOf i (oAstore n) := by
  intro p e s m args below meth c D κ α A sz L0 Lm r Qc out C hR ls st w rg k j h hk hj H locs lsA hP hz h0 h1 hr hS hl
  obtain ⟨hx, hb, hml, hown, hts, hret, hlk, hKE, hA, hin, hAk, hfr, hLm⟩ := id C
  unfold oAstore at h
  split at h
  next x st' =>
    rw [lremK_eq] at h
    refine lv_astore hx hb hd hl hnL rfl (fun ls2 hl2 => ?_)
    have g := hk _ _ _ _ h H locs ls2 hP hz h0 h1 hr hS (pl_put (v := .ref x) hl2)
    rw [hp] at g
    exact g
  next => cases h
set_option maxHeartbeats 1000000 in
theorem okIinc {n : Nat} {z : Int} {v : Int32} (hd : decode cc (pcOf i) = .ok (.iinc n z, 3)) (hp : pcOf (i + 1) = pcOf i + 3) (hv : Int32.ofInt z = v) (hnL : n < nL) : EOK l cc own nL ret R cap pcOf i (oIinc n v) := by
  intro p e s m args below meth c D κ α A sz L0 Lm r Qc out C hR ls st w rg k j h hk hj H locs lsA hP hz h0 h1 hr hS hl
  obtain ⟨hx, hb, hml, hown, hts, hret, hlk, hKE, hA, hin, hAk, hfr, hLm⟩ := id C
  unfold oIinc at h
  split at h
  next x hx0 =>
    rw [lremK_eq] at h
    obtain ⟨q, hq⟩ := List.getElem?_of_mem (List.mem_map.mpr ⟨(n, Value.int x), lget_mem hx0, rfl⟩ : (n, Value.int x) ∈ ls.map (fun q => (q.1, cv α q.2)))
    refine lv_iinc (v := x + v) hx hb hd hl hq (by rw [hv]) hnL rfl (fun ls2 hl2 => ?_)
    have g := hk _ _ _ _ h H locs ls2 hP hz h0 h1 hr hS (pl_put (v := .int (x + v)) hl2)
    rw [hp] at g
    exact g
  next => cases h
set_option maxHeartbeats 1000000 in
theorem okAdd (hd : decode cc (pcOf i) = .ok (.iadd, 1)) (hp : pcOf (i + 1) = pcOf i + 1) : EOK l cc own nL ret R cap pcOf i oAdd := by
  intro p e s m args below meth c D κ α A sz L0 Lm r Qc out C hR ls st w rg k j h hk hj H locs lsA hP hz h0 h1 hr hS hl
  obtain ⟨hx, hb, hml, hown, hts, hret, hlk, hKE, hA, hin, hAk, hfr, hLm⟩ := id C
  unfold oAdd at h
  split at h
  next y x st' => have g := hk _ _ _ _ h H locs lsA hP hz h0 h1 hr hS hl; rw [hp] at g; exact lv_iadd hx hb hd g
  next => cases h
set_option maxHeartbeats 1000000 in
theorem okSub (hd : decode cc (pcOf i) = .ok (.isub, 1)) (hp : pcOf (i + 1) = pcOf i + 1) : EOK l cc own nL ret R cap pcOf i oSub := by
  intro p e s m args below meth c D κ α A sz L0 Lm r Qc out C hR ls st w rg k j h hk hj H locs lsA hP hz h0 h1 hr hS hl
  obtain ⟨hx, hb, hml, hown, hts, hret, hlk, hKE, hA, hin, hAk, hfr, hLm⟩ := id C
  unfold oSub at h
  split at h
  next y x st' => have g := hk _ _ _ _ h H locs lsA hP hz h0 h1 hr hS hl; rw [hp] at g; exact lv_isub hx hb hd g
  next => cases h
set_option maxHeartbeats 1000000 in
theorem okMul (hd : decode cc (pcOf i) = .ok (.imul, 1)) (hp : pcOf (i + 1) = pcOf i + 1) : EOK l cc own nL ret R cap pcOf i oMul := by
  intro p e s m args below meth c D κ α A sz L0 Lm r Qc out C hR ls st w rg k j h hk hj H locs lsA hP hz h0 h1 hr hS hl
  obtain ⟨hx, hb, hml, hown, hts, hret, hlk, hKE, hA, hin, hAk, hfr, hLm⟩ := id C
  unfold oMul at h
  split at h
  next y x st' => have g := hk _ _ _ _ h H locs lsA hP hz h0 h1 hr hS hl; rw [hp] at g; exact lv_imul hx hb hd g
  next => cases h
set_option maxHeartbeats 1000000 in
theorem okAnd (hd : decode cc (pcOf i) = .ok (.iand, 1)) (hp : pcOf (i + 1) = pcOf i + 1) : EOK l cc own nL ret R cap pcOf i oAnd := by
  intro p e s m args below meth c D κ α A sz L0 Lm r Qc out C hR ls st w rg k j h hk hj H locs lsA hP hz h0 h1 hr hS hl
  obtain ⟨hx, hb, hml, hown, hts, hret, hlk, hKE, hA, hin, hAk, hfr, hLm⟩ := id C
  unfold oAnd at h
  split at h
  next y x st' => have g := hk _ _ _ _ h H locs lsA hP hz h0 h1 hr hS hl; rw [hp] at g; exact lv_iand hx hb hd g
  next => cases h
set_option maxHeartbeats 1000000 in
theorem okOr (hd : decode cc (pcOf i) = .ok (.ior, 1)) (hp : pcOf (i + 1) = pcOf i + 1) : EOK l cc own nL ret R cap pcOf i oOr := by
  intro p e s m args below meth c D κ α A sz L0 Lm r Qc out C hR ls st w rg k j h hk hj H locs lsA hP hz h0 h1 hr hS hl
  obtain ⟨hx, hb, hml, hown, hts, hret, hlk, hKE, hA, hin, hAk, hfr, hLm⟩ := id C
  unfold oOr at h
  split at h
  next y x st' => have g := hk _ _ _ _ h H locs lsA hP hz h0 h1 hr hS hl; rw [hp] at g; exact lv_ior hx hb hd g
  next => cases h
set_option maxHeartbeats 1000000 in
theorem okDiv (hd : decode cc (pcOf i) = .ok (.idiv, 1)) (hp : pcOf (i + 1) = pcOf i + 1) : EOK l cc own nL ret R cap pcOf i oDiv := by
  intro p e s m args below meth c D κ α A sz L0 Lm r Qc out C hR ls st w rg k j h hk hj H locs lsA hP hz h0 h1 hr hS hl
  obtain ⟨hx, hb, hml, hown, hts, hret, hlk, hKE, hA, hin, hAk, hfr, hLm⟩ := id C
  unfold oDiv at h
  split at h
  next y x st' =>
    by_cases hy : y = 0
    · have h := (pif_t hy).symm.trans h; cases h
    · have h := (pif_f hy).symm.trans h
      have g := hk _ _ _ _ h H locs lsA hP hz h0 h1 hr hS hl; rw [hp] at g; exact lv_idiv hx hb hd hy g
  next => cases h
set_option maxHeartbeats 1000000 in
theorem okDivL (hd : decode cc (pcOf i) = .ok (.idiv, 1)) (hp : pcOf (i + 1) = pcOf i + 1) : EOK l cc own nL ret R cap pcOf i oDivL := by
  intro p e s m args below meth c D κ α A sz L0 Lm r Qc out C hR ls st w rg k j h hk hj H locs lsA hP hz h0 h1 hr hS hl
  obtain ⟨hx, hb, hml, hown, hts, hret, hlk, hKE, hA, hin, hAk, hfr, hLm⟩ := id C
  unfold oDivL at h
  split at h
  next y x st' =>
    split at h
    next => cases h
    next hy => have g := hk _ _ _ _ h H locs lsA hP hz h0 h1 hr hS hl; rw [hp] at g; exact lv_idiv hx hb hd (of_decide_eq_false hy) g
  next => cases h
set_option maxHeartbeats 1000000 in
theorem okI2l (hd : decode cc (pcOf i) = .ok (.i2l, 1)) (hp : pcOf (i + 1) = pcOf i + 1) : EOK l cc own nL ret R cap pcOf i oI2l := by
  intro p e s m args below meth c D κ α A sz L0 Lm r Qc out C hR ls st w rg k j h hk hj H locs lsA hP hz h0 h1 hr hS hl
  obtain ⟨hx, hb, hml, hown, hts, hret, hlk, hKE, hA, hin, hAk, hfr, hLm⟩ := id C
  unfold oI2l at h
  split at h
  next x st' => have g := hk _ _ _ _ h H locs lsA hP hz h0 h1 hr hS hl; rw [hp] at g; exact lv_i2l hx hb hd rfl g
  next => cases h
set_option maxHeartbeats 1000000 in
theorem okL2i (hd : decode cc (pcOf i) = .ok (.l2i, 1)) (hp : pcOf (i + 1) = pcOf i + 1) : EOK l cc own nL ret R cap pcOf i oL2i := by
  intro p e s m args below meth c D κ α A sz L0 Lm r Qc out C hR ls st w rg k j h hk hj H locs lsA hP hz h0 h1 hr hS hl
  obtain ⟨hx, hb, hml, hown, hts, hret, hlk, hKE, hA, hin, hAk, hfr, hLm⟩ := id C
  unfold oL2i at h
  split at h
  next x st' => have g := hk _ _ _ _ h H locs lsA hP hz h0 h1 hr hS hl; rw [hp] at g; exact lv_l2i hx hb hd rfl g
  next => cases h
set_option maxHeartbeats 1000000 in
theorem okLmul (hd : decode cc (pcOf i) = .ok (.lmul, 1)) (hp : pcOf (i + 1) = pcOf i + 1) : EOK l cc own nL ret R cap pcOf i oLmul := by
  intro p e s m args below meth c D κ α A sz L0 Lm r Qc out C hR ls st w rg k j h hk hj H locs lsA hP hz h0 h1 hr hS hl
  obtain ⟨hx, hb, hml, hown, hts, hret, hlk, hKE, hA, hin, hAk, hfr, hLm⟩ := id C
  unfold oLmul at h
  split at h
  next y x st' => have g := hk _ _ _ _ h H locs lsA hP hz h0 h1 hr hS hl; rw [hp] at g; exact lv_lmul hx hb hd g
  next => cases h
set_option maxHeartbeats 1000000 in
theorem okLdiv (hd : decode cc (pcOf i) = .ok (.ldiv, 1)) (hp : pcOf (i + 1) = pcOf i + 1) : EOK l cc own nL ret R cap pcOf i oLdiv := by
  intro p e s m args below meth c D κ α A sz L0 Lm r Qc out C hR ls st w rg k j h hk hj H locs lsA hP hz h0 h1 hr hS hl
  obtain ⟨hx, hb, hml, hown, hts, hret, hlk, hKE, hA, hin, hAk, hfr, hLm⟩ := id C
  unfold oLdiv at h
  split at h
  next y x st' =>
    by_cases hy : y = 0
    · have h := (pif_t hy).symm.trans h; cases h
    · have h := (pif_f hy).symm.trans h
      have g := hk _ _ _ _ h H locs lsA hP hz h0 h1 hr hS hl; rw [hp] at g; exact lv_ldiv hx hb hd hy g
  next => cases h
set_option maxHeartbeats 1000000 in
theorem okDup (hd : decode cc (pcOf i) = .ok (.dup, 1)) (hp : pcOf (i + 1) = pcOf i + 1) : EOK l cc own nL ret R cap pcOf i oDup := by
  intro p e s m args below meth c D κ α A sz L0 Lm r Qc out C hR ls st w rg k j h hk hj H locs lsA hP hz h0 h1 hr hS hl
  obtain ⟨hx, hb, hml, hown, hts, hret, hlk, hKE, hA, hin, hAk, hfr, hLm⟩ := id C
  unfold oDup at h
  split at h
  next x st' => have g := hk _ _ _ _ h H locs lsA hP hz h0 h1 hr hS hl; rw [hp] at g; exact lv_dup hx hb hd rfl g
  next x st' => have g := hk _ _ _ _ h H locs lsA hP hz h0 h1 hr hS hl; rw [hp] at g; exact lv_dup hx hb hd rfl g
  next => cases h
set_option maxHeartbeats 1000000 in
theorem okPop (hd : decode cc (pcOf i) = .ok (.pop, 1)) (hp : pcOf (i + 1) = pcOf i + 1) : EOK l cc own nL ret R cap pcOf i oPop := by
  intro p e s m args below meth c D κ α A sz L0 Lm r Qc out C hR ls st w rg k j h hk hj H locs lsA hP hz h0 h1 hr hS hl
  obtain ⟨hx, hb, hml, hown, hts, hret, hlk, hKE, hA, hin, hAk, hfr, hLm⟩ := id C
  unfold oPop at h
  split at h
  next x st' => have g := hk _ _ _ _ h H locs lsA hP hz h0 h1 hr hS hl; rw [hp] at g; exact lv_pop hx hb hd rfl g
  next x st' => have g := hk _ _ _ _ h H locs lsA hP hz h0 h1 hr hS hl; rw [hp] at g; exact lv_pop hx hb hd rfl g
  next => cases h
set_option maxHeartbeats 1000000 in
theorem okDup2 (hd : decode cc (pcOf i) = .ok (.dup2, 1)) (hp : pcOf (i + 1) = pcOf i + 1) : EOK l cc own nL ret R cap pcOf i oDup2 := by
  intro p e s m args below meth c D κ α A sz L0 Lm r Qc out C hR ls st w rg k j h hk hj H locs lsA hP hz h0 h1 hr hS hl
  obtain ⟨hx, hb, hml, hown, hts, hret, hlk, hKE, hA, hin, hAk, hfr, hLm⟩ := id C
  unfold oDup2 at h
  split at h
  next x y st' => have g := hk _ _ _ _ h H locs lsA hP hz h0 h1 hr hS hl; rw [hp] at g; exact lv_dup2_11 hx hb hd rfl rfl g
  next => cases h
set_option maxHeartbeats 1000000 in
theorem okGoto {off : Int} {t : Nat} (hd : decode cc (pcOf i) = .ok (.goto off, 3)) (ht : (pcOf i : Int) + off = (pcOf t : Int)) : EOK l cc own nL ret R cap pcOf i (oGoto t) := by
  intro p e s m args below meth c D κ α A sz L0 Lm r Qc out C hR ls st w rg k j h hk hj H locs lsA hP hz h0 h1 hr hS hl
  obtain ⟨hx, hb, hml, hown, hts, hret, hlk, hKE, hA, hin, hAk, hfr, hLm⟩ := id C
  exact lv_goto hx hb hd ht (hj _ _ _ _ _ h H locs lsA hP hz h0 h1 hr hS hl)
set_option maxHeartbeats 1000000 in
theorem okIfeq {off : Int} {t : Nat} (hd : decode cc (pcOf i) = .ok (.ifCond .eq off, 3)) (hp : pcOf (i + 1) = pcOf i + 3) (ht : (pcOf i : Int) + off = (pcOf t : Int)) : EOK l cc own nL ret R cap pcOf i (oIfeq t) := by
  intro p e s m args below meth c D κ α A sz L0 Lm r Qc out C hR ls st w rg k j h hk hj H locs lsA hP hz h0 h1 hr hS hl
  obtain ⟨hx, hb, hml, hown, hts, hret, hlk, hKE, hA, hin, hAk, hfr, hLm⟩ := id C
  unfold oIfeq at h
  split at h
  next x st' =>
    refine lv_if_eq hx hb hd ht (fun hc => ?_) (fun hc => ?_)
    · have h := (pif_t hc).symm.trans h
      exact hj _ _ _ _ _ h H locs lsA hP hz h0 h1 hr hS hl
    · have h := (pif_f hc).symm.trans h
      have g := hk _ _ _ _ h H locs lsA hP hz h0 h1 hr hS hl; rw [hp] at g; exact g
  next => cases h
set_option maxHeartbeats 1000000 in
theorem okIfne {off : Int} {t : Nat} (hd : decode cc (pcOf i) = .ok (.ifCond .ne off, 3)) (hp : pcOf (i + 1) = pcOf i + 3) (ht : (pcOf i : Int) + off = (pcOf t : Int)) : EOK l cc own nL ret R cap pcOf i (oIfne t) := by
  intro p e s m args below meth c D κ α A sz L0 Lm r Qc out C hR ls st w rg k j h hk hj H locs lsA hP hz h0 h1 hr hS hl
  obtain ⟨hx, hb, hml, hown, hts, hret, hlk, hKE, hA, hin, hAk, hfr, hLm⟩ := id C
  unfold oIfne at h
  split at h
  next x st' =>
    refine lv_if_ne hx hb hd ht (fun hc => ?_) (fun hc => ?_)
    · have h := (pif_f hc).symm.trans h
      exact hj _ _ _ _ _ h H locs lsA hP hz h0 h1 hr hS hl
    · have h := (pif_t hc).symm.trans h
      have g := hk _ _ _ _ h H locs lsA hP hz h0 h1 hr hS hl; rw [hp] at g; exact g
  next => cases h
set_option maxHeartbeats 1000000 in
theorem okIflt {off : Int} {t : Nat} (hd : decode cc (pcOf i) = .ok (.ifCond .lt off, 3)) (hp : pcOf (i + 1) = pcOf i + 3) (ht : (pcOf i : Int) + off = (pcOf t : Int)) : EOK l cc own nL ret R cap pcOf i (oIflt t) := by
  intro p e s m args below meth c D κ α A sz L0 Lm r Qc out C hR ls st w rg k j h hk hj H locs lsA hP hz h0 h1 hr hS hl
  obtain ⟨hx, hb, hml, hown, hts, hret, hlk, hKE, hA, hin, hAk, hfr, hLm⟩ := id C
  unfold oIflt at h
  split at h
  next x st' =>
    refine lv_if_lt hx hb hd ht (fun hc => ?_) (fun hc => ?_)
    · have h := (pif_t hc).symm.trans h
      exact hj _ _ _ _ _ h H locs lsA hP hz h0 h1 hr hS hl
    · have h := (pif_f hc).symm.trans h
      have g := hk _ _ _ _ h H locs lsA hP hz h0 h1 hr hS hl; rw [hp] at g; exact g
  next => cases h
set_option maxHeartbeats 1000000 in
theorem okIfge {off : Int} {t : Nat} (hd : decode cc (pcOf i) = .ok (.ifCond .ge off, 3)) (hp : pcOf (i + 1) = pcOf i + 3) (ht : (pcOf i : Int) + off = (pcOf t : Int)) : EOK l cc own nL ret R cap pcOf i (oIfge t) := by
  intro p e s m args below meth c D κ α A sz L0 Lm r Qc out C hR ls st w rg k j h hk hj H locs lsA hP hz h0 h1 hr hS hl
  obtain ⟨hx, hb, hml, hown, hts, hret, hlk, hKE, hA, hin, hAk, hfr, hLm⟩ := id C
  unfold oIfge at h
  split at h
  next x st' =>
    refine lv_if_ge hx hb hd ht (fun hc => ?_) (fun hc => ?_)
    · have h := (pif_t hc).symm.trans h
      exact hj _ _ _ _ _ h H locs lsA hP hz h0 h1 hr hS hl
    · have h := (pif_f hc).symm.trans h
      have g := hk _ _ _ _ h H locs lsA hP hz h0 h1 hr hS hl; rw [hp] at g; exact g
  next => cases h
set_option maxHeartbeats 1000000 in
theorem okIfgt {off : Int} {t : Nat} (hd : decode cc (pcOf i) = .ok (.ifCond .gt off, 3)) (hp : pcOf (i + 1) = pcOf i + 3) (ht : (pcOf i : Int) + off = (pcOf t : Int)) : EOK l cc own nL ret R cap pcOf i (oIfgt t) := by
  intro p e s m args below meth c D κ α A sz L0 Lm r Qc out C hR ls st w rg k j h hk hj H locs lsA hP hz h0 h1 hr hS hl
  obtain ⟨hx, hb, hml, hown, hts, hret, hlk, hKE, hA, hin, hAk, hfr, hLm⟩ := id C
  unfold oIfgt at h
  split at h
  next x st' =>
    refine lv_if_gt hx hb hd ht (fun hc => ?_) (fun hc => ?_)
    · have h := (pif_t hc).symm.trans h
      exact hj _ _ _ _ _ h H locs lsA hP hz h0 h1 hr hS hl
    · have h := (pif_f hc).symm.trans h
      have g := hk _ _ _ _ h H locs lsA hP hz h0 h1 hr hS hl; rw [hp] at g; exact g
  next => cases h
set_option maxHeartbeats 1000000 in
theorem okIfle {off : Int} {t : Nat} (hd : decode cc (pcOf i) = .ok (.ifCond .le off, 3)) (hp : pcOf (i + 1) = pcOf i + 3) (ht : (pcOf i : Int) + off = (pcOf t : Int)) : EOK l cc own nL ret R cap pcOf i (oIfle t) := by
  intro p e s m args below meth c D κ α A sz L0 Lm r Qc out C hR ls st w rg k j h hk hj H locs lsA hP hz h0 h1 hr hS hl
  obtain ⟨hx, hb, hml, hown, hts, hret, hlk, hKE, hA, hin, hAk, hfr, hLm⟩ := id C
  unfold oIfle at h
  split at h
  next x st' =>
    refine lv_if_le hx hb hd ht (fun hc => ?_) (fun hc => ?_)
    · have h := (pif_t hc).symm.trans h
      exact hj _ _ _ _ _ h H locs lsA hP hz h0 h1 hr hS hl
    · have h := (pif_f hc).symm.trans h
      have g := hk _ _ _ _ h H locs lsA hP hz h0 h1 hr hS hl; rw [hp] at g; exact g
  next => cases h
set_option maxHeartbeats 1000000 in
theorem okCeq {off : Int} {t : Nat} (hd : decode cc (pcOf i) = .ok (.if_icmp .eq off, 3)) (hp : pcOf (i + 1) = pcOf i + 3) (ht : (pcOf i : Int) + off = (pcOf t : Int)) : EOK l cc own nL ret R cap pcOf i (oCeq t) := by
  intro p e s m args below meth c D κ α A sz L0 Lm r Qc out C hR ls st w rg k j h hk hj H locs lsA hP hz h0 h1 hr hS hl
  obtain ⟨hx, hb, hml, hown, hts, hret, hlk, hKE, hA, hin, hAk, hfr, hLm⟩ := id C
  unfold oCeq at h
  split at h
  next y x st' =>
    refine lv_icmp_eq hx hb hd ht (fun hc => ?_) (fun hc => ?_)
    · have h := (pif_t hc).symm.trans h
      exact hj _ _ _ _ _ h H locs lsA hP hz h0 h1 hr hS hl
    · have h := (pif_f hc).symm.trans h
      have g := hk _ _ _ _ h H locs lsA hP hz h0 h1 hr hS hl; rw [hp] at g; exact g
  next => cases h
set_option maxHeartbeats 1000000 in
theorem okCne {off : Int} {t : Nat} (hd : decode cc (pcOf i) = .ok (.if_icmp .ne off, 3)) (hp : pcOf (i + 1) = pcOf i + 3) (ht : (pcOf i : Int) + off = (pcOf t : Int)) : EOK l cc own nL ret R cap pcOf i (oCne t) := by
  intro p e s m args below meth c D κ α A sz L0 Lm r Qc out C hR ls st w rg k j h hk hj H locs lsA hP hz h0 h1 hr hS hl
  obtain ⟨hx, hb, hml, hown, hts, hret, hlk, hKE, hA, hin, hAk, hfr, hLm⟩ := id C
  unfold oCne at h
  split at h
  next y x st' =>
    refine lv_icmp_ne hx hb hd ht (fun hc => ?_) (fun hc => ?_)
    · have h := (pif_f hc).symm.trans h
      exact hj _ _ _ _ _ h H locs lsA hP hz h0 h1 hr hS hl
    · have h := (pif_t hc).symm.trans h
      have g := hk _ _ _ _ h H locs lsA hP hz h0 h1 hr hS hl; rw [hp] at g; exact g
  next => cases h
set_option maxHeartbeats 1000000 in
theorem okClt {off : Int} {t : Nat} (hd : decode cc (pcOf i) = .ok (.if_icmp .lt off, 3)) (hp : pcOf (i + 1) = pcOf i + 3) (ht : (pcOf i : Int) + off = (pcOf t : Int)) : EOK l cc own nL ret R cap pcOf i (oClt t) := by
  intro p e s m args below meth c D κ α A sz L0 Lm r Qc out C hR ls st w rg k j h hk hj H locs lsA hP hz h0 h1 hr hS hl
  obtain ⟨hx, hb, hml, hown, hts, hret, hlk, hKE, hA, hin, hAk, hfr, hLm⟩ := id C
  unfold oClt at h
  split at h
  next y x st' =>
    refine lv_icmp_lt hx hb hd ht (fun hc => ?_) (fun hc => ?_)
    · have h := (pif_t hc).symm.trans h
      exact hj _ _ _ _ _ h H locs lsA hP hz h0 h1 hr hS hl
    · have h := (pif_f hc).symm.trans h
      have g := hk _ _ _ _ h H locs lsA hP hz h0 h1 hr hS hl; rw [hp] at g; exact g
  next => cases h
set_option maxHeartbeats 1000000 in
theorem okCge {off : Int} {t : Nat} (hd : decode cc (pcOf i) = .ok (.if_icmp .ge off, 3)) (hp : pcOf (i + 1) = pcOf i + 3) (ht : (pcOf i : Int) + off = (pcOf t : Int)) : EOK l cc own nL ret R cap pcOf i (oCge t) := by
  intro p e s m args below meth c D κ α A sz L0 Lm r Qc out C hR ls st w rg k j h hk hj H locs lsA hP hz h0 h1 hr hS hl
  obtain ⟨hx, hb, hml, hown, hts, hret, hlk, hKE, hA, hin, hAk, hfr, hLm⟩ := id C
  unfold oCge at h
  split at h
  next y x st' =>
    refine lv_icmp_ge hx hb hd ht (fun hc => ?_) (fun hc => ?_)
    · have h := (pif_t hc).symm.trans h
      exact hj _ _ _ _ _ h H locs lsA hP hz h0 h1 hr hS hl
    · have h := (pif_f hc).symm.trans h
      have g := hk _ _ _ _ h H locs lsA hP hz h0 h1 hr hS hl; rw [hp] at g; exact g
  next => cases h
set_option maxHeartbeats 1000000 in
theorem okCgt {off : Int} {t : Nat} (hd : decode cc (pcOf i) = .ok (.if_icmp .gt off, 3)) (hp : pcOf (i + 1) = pcOf i + 3) (ht : (pcOf i : Int) + off = (pcOf t : Int)) : EOK l cc own nL ret R cap pcOf i (oCgt t) := by
  intro p e s m args below meth c D κ α A sz L0 Lm r Qc out C hR ls st w rg k j h hk hj H locs lsA hP hz h0 h1 hr hS hl
  obtain ⟨hx, hb, hml, hown, hts, hret, hlk, hKE, hA, hin, hAk, hfr, hLm⟩ := id C
  unfold oCgt at h
  split at h
  next y x st' =>
    refine lv_icmp_gt hx hb hd ht (fun hc => ?_) (fun hc => ?_)
    · have h := (pif_t hc).symm.trans h
      exact hj _ _ _ _ _ h H locs lsA hP hz h0 h1 hr hS hl
    · have h := (pif_f hc).symm.trans h
      have g := hk _ _ _ _ h H locs lsA hP hz h0 h1 hr hS hl; rw [hp] at g; exact g
  next => cases h
set_option maxHeartbeats 1000000 in
theorem okCle {off : Int} {t : Nat} (hd : decode cc (pcOf i) = .ok (.if_icmp .le off, 3)) (hp : pcOf (i + 1) = pcOf i + 3) (ht : (pcOf i : Int) + off = (pcOf t : Int)) : EOK l cc own nL ret R cap pcOf i (oCle t) := by
  intro p e s m args below meth c D κ α A sz L0 Lm r Qc out C hR ls st w rg k j h hk hj H locs lsA hP hz h0 h1 hr hS hl
  obtain ⟨hx, hb, hml, hown, hts, hret, hlk, hKE, hA, hin, hAk, hfr, hLm⟩ := id C
  unfold oCle at h
  split at h
  next y x st' =>
    refine lv_icmp_le hx hb hd ht (fun hc => ?_) (fun hc => ?_)
    · have h := (pif_t hc).symm.trans h
      exact hj _ _ _ _ _ h H locs lsA hP hz h0 h1 hr hS hl
    · have h := (pif_f hc).symm.trans h
      have g := hk _ _ _ _ h H locs lsA hP hz h0 h1 hr hS hl; rw [hp] at g; exact g
  next => cases h
set_option maxHeartbeats 1000000 in
theorem okNonnull {off : Int} (hd : decode cc (pcOf i) = .ok (.ifnull off, 3)) (hp : pcOf (i + 1) = pcOf i + 3) : EOK l cc own nL ret R cap pcOf i oNonnull := by
  intro p e s m args below meth c D κ α A sz L0 Lm r Qc out C hR ls st w rg k j h hk hj H locs lsA hP hz h0 h1 hr hS hl
  obtain ⟨hx, hb, hml, hown, hts, hret, hlk, hKE, hA, hin, hAk, hfr, hLm⟩ := id C
  unfold oNonnull at h
  split at h
  next x st' => have g := hk _ _ _ _ h H locs lsA hP hz h0 h1 hr hS hl; rw [hp] at g; exact lv_ifnull hx hb hd g
  next => cases h
theorem swK_in {R : Type} {x : Int32} {d : Nat} {c : Nat → R} : ∀ {keys : List (Int32 × Nat)}, (∃ q ∈ keys, x = q.1 ∧ swK x keys d c = c q.2) ∨ ((∀ q ∈ keys, ¬ x = q.1) ∧ swK x keys d c = c d)
  | [] => Or.inr ⟨fun q h => absurd h List.not_mem_nil, rfl⟩
  | q :: l => by
    by_cases hx : x = q.1
    · exact Or.inl ⟨q, List.mem_cons_self, hx, pif_t hx⟩
    · rcases swK_in (x := x) (d := d) (c := c) (keys := l) with ⟨y, h1, h2, h3⟩ | ⟨h1, h2⟩
      · exact Or.inl ⟨y, List.mem_cons_of_mem _ h1, h2, (pif_f hx).trans h3⟩
      · exact Or.inr ⟨fun y hy => (List.mem_cons.mp hy).elim (fun e => by rw [e]; exact hx) (h1 y), (pif_f hx).trans h2⟩
set_option maxHeartbeats 1000000 in
theorem okTsw {dflt lo hi : Int} {offs : Array Int} {len : Nat} {keys : List (Int32 × Nat)} {d : Nat} (hd : decode cc (pcOf i) = .ok (.tableswitch dflt lo hi offs, len)) (hks : ∀ q ∈ keys, ¬ q.1.toInt < lo ∧ ¬ hi < q.1.toInt ∧ offs[(q.1.toInt - lo).toNat]? = some ((pcOf q.2 : Int) - (pcOf i : Int))) (hdf : (pcOf i : Int) + dflt = (pcOf d : Int)) (hcv : ∀ z : Int, ¬ z < lo → ¬ hi < z → ∃ q ∈ keys, q.1.toInt = z) : EOK l cc own nL ret R cap pcOf i (oSw keys d) := by
  intro p e s m args below meth c D κ α A sz L0 Lm r Qc out C hR ls st w rg k j h hk hj H locs lsA hP hz h0 h1 hr hS hl
  obtain ⟨hx, hb, hml, hown, hts, hret, hlk, hKE, hA, hin, hAk, hfr, hLm⟩ := id C
  unfold oSw at h
  split at h
  next x st' =>
    rcases swK_in (x := x) (d := d) (c := fun t => j t ls st' w rg) (keys := keys) with ⟨q, h2, h3, h4⟩ | ⟨h2, h3⟩
    · rw [h4] at h
      obtain ⟨k1, k2, k3⟩ := hks q h2
      rw [← h3] at k1 k2 k3
      exact lv_tableIn hx hb hd k1 k2 k3 (by omega) (hj _ _ _ _ _ h H locs lsA hP hz h0 h1 hr hS hl)
    · rw [h3] at h
      refine lv_tableOut hx hb hd ?_ hdf (hj _ _ _ _ _ h H locs lsA hP hz h0 h1 hr hS hl)
      by_cases q1 : x.toInt < lo
      · exact Or.inl q1
      · by_cases q2 : hi < x.toInt
        · exact Or.inr q2
        · obtain ⟨q, q3, q4⟩ := hcv _ q1 q2
          exact absurd (Int32.toInt_inj.mp q4.symm) (h2 q q3)
  next => cases h
theorem ls_off {R : Type} {x : Int32} {dd : Nat} {c : Nat → R} {d : Int} {g : Nat → Int} : ∀ {keys : List (Int32 × Nat)}, (∃ q ∈ keys, swK x keys dd c = c q.2 ∧ Op.lookupswitch.offset (keys.map (fun q => (q.1.toInt, g q.2))) d x.toInt = g q.2) ∨ (swK x keys dd c = c dd ∧ Op.lookupswitch.offset (keys.map (fun q => (q.1.toInt, g q.2))) d x.toInt = d)
  | [] => Or.inr ⟨rfl, rfl⟩
  | q :: l => by
    by_cases hx : x = q.1
    · refine Or.inl ⟨q, List.mem_cons_self, pif_t hx, ?_⟩
      rw [List.map_cons, Op.lookupswitch.offset_cons, if_pos (by rw [hx])]
    · rcases ls_off (x := x) (dd := dd) (c := c) (d := d) (g := g) (keys := l) with ⟨y, h1, h2, h3⟩ | ⟨h1, h2⟩
      · refine Or.inl ⟨y, List.mem_cons_of_mem _ h1, (pif_f hx).trans h2, ?_⟩
        rw [List.map_cons, lv_osw hx rfl]; exact h3
      · refine Or.inr ⟨(pif_f hx).trans h1, ?_⟩
        rw [List.map_cons, lv_osw hx rfl]; exact h2
set_option maxHeartbeats 1000000 in
theorem okLsw {dflt : Int} {ps : Array (Int × Int)} {len : Nat} {keys : List (Int32 × Nat)} {d : Nat} (hd : decode cc (pcOf i) = .ok (.lookupswitch dflt ps, len)) (hso : (ps.toList.zip (ps.toList.drop 1)).all (fun (a, next) => a.1 < next.1) = true) (hks : keys.map (fun q => (q.1.toInt, (pcOf q.2 : Int) - (pcOf i : Int))) = ps.toList) (hdf : (pcOf i : Int) + dflt = (pcOf d : Int)) : EOK l cc own nL ret R cap pcOf i (oSw keys d) := by
  intro p e s m args below meth c D κ α A sz L0 Lm r Qc out C hR ls st w rg k j h hk hj H locs lsA hP hz h0 h1 hr hS hl
  obtain ⟨hx, hb, hml, hown, hts, hret, hlk, hKE, hA, hin, hAk, hfr, hLm⟩ := id C
  unfold oSw at h
  split at h
  next x st' =>
    rcases ls_off (x := x) (dd := d) (c := fun t => j t ls st' w rg) (d := dflt) (g := fun t => (pcOf t : Int) - (pcOf i : Int)) (keys := keys) with ⟨q, h2, h3, h4⟩ | ⟨h3, h4⟩
    · rw [h3] at h
      rw [hks] at h4
      exact lv_lookup hx hb hd hso h4 (by omega) (hj _ _ _ _ _ h H locs lsA hP hz h0 h1 hr hS hl)
    · rw [h3] at h
      rw [hks] at h4
      exact lv_lookup hx hb hd hso h4 hdf (hj _ _ _ _ _ h H locs lsA hP hz h0 h1 hr hS hl)
  next => cases h
set_option maxHeartbeats 1000000 in
theorem okShl (hd : decode cc (pcOf i) = .ok (.ishl, 1)) (hp : pcOf (i + 1) = pcOf i + 1) : EOK l cc own nL ret R cap pcOf i oShl := by
  intro p e s m args below meth c D κ α A sz L0 Lm r Qc out C hR ls st w rg k j h hk hj H locs lsA hP hz h0 h1 hr hS hl
  obtain ⟨hx, hb, hml, hown, hts, hret, hlk, hKE, hA, hin, hAk, hfr, hLm⟩ := id C
  unfold oShl at h
  split at h
  next y x st' => have g := hk _ _ _ _ h H locs lsA hP hz h0 h1 hr hS hl; rw [hp] at g; exact lv_ishl hx hb hd g
  next => cases h
set_option maxHeartbeats 1000000 in
theorem okShr (hd : decode cc (pcOf i) = .ok (.ishr, 1)) (hp : pcOf (i + 1) = pcOf i + 1) : EOK l cc own nL ret R cap pcOf i oShr := by
  intro p e s m args below meth c D κ α A sz L0 Lm r Qc out C hR ls st w rg k j h hk hj H locs lsA hP hz h0 h1 hr hS hl
  obtain ⟨hx, hb, hml, hown, hts, hret, hlk, hKE, hA, hin, hAk, hfr, hLm⟩ := id C
  unfold oShr at h
  split at h
  next y x st' => have g := hk _ _ _ _ h H locs lsA hP hz h0 h1 hr hS hl; rw [hp] at g; exact lv_ishr hx hb hd g
  next => cases h
end ST
end
end
section
noncomputable section
/-! THE STEPS THAT TOUCH THE HEAP, AND THE ENDS -/
section FW
variable {p : Program} {l : Launch} {e : Env} {R : Room} {s : State} {m : MethodId} {args : Array Value} {below : List Frame} {meth : Method} {c : Code} {H : Heap} {locs : List Loc} {cells slots : Nat} {Q : State → Prop}
variable {cc : ByteArray} {pc : Nat} {ls : Array Slot} {rest : List Value} {D : va_G} {A : Nat → Prop} {a : Nat} {tys : List (ClassId × FieldType)} {H0 : Heap}
/-- a field is put: the cell, and that all other cells stay -/
theorem fw_put (hexec : p.tables.exec = Jvm.exec) (hb : c.code = cc) {own ref C : String} {T : u_T} {N ci index : Nat} {Ts : List Cond} (hts : ∀ w ∈ Ts, w.before args s = true) (hin : ∀ w ∈ u_ws C T N, w ∈ Ts) (ty0 : Nat → FieldType) (hty : ∀ k, k < N → parseFieldDescriptor (T k).2.2.1 = some (ty0 k)) (hnm : ∀ a, a < N → ∀ b, b < N → a ≠ b → (T a).2.1 ≠ (T b).2.1) (hown : s.vm.findClass own = some m.cls) (hK : va_K D vwCl tys s) {fs : List Value} (hat : va_at D vwCl (a, .inr (ci, fs)) H) (hS0 : va_S A H0 H locs) (hAa : A a) (hc : vwCl[ci]? = some (C, T, N)) (k : Nat) (hk : k < N) (hlink : (Cond.fieldLink own index ref (T k).2.1 (T k).2.2.1).before args s = true) (hsame : ∀ x, s.fieldFound? (T k).1 (T k).2.1 (T k).2.2.1 = some x → s.fieldFound? ref (T k).2.1 (T k).2.2.1 = some x) (hfin : (T k).2.2.2 = false) {ty : FieldType} {v : Value} (hd : parseFieldDescriptor (T k).2.2.1 = some ty) (hn : narrow ty v = v) (hfit : fits ty v = true) (hl : k < fs.length)
    (hdg : decode cc pc = .ok (.putfield index, 3)) (kk : ∀ (H1 : Heap) (locs1 : List Loc), va_at D vwCl (a, .inr (ci, fs.set k v)) H1 → H1.size = H.size → (∀ q : Nat, q ≠ a → H1[q]? = H[q]?) → va_S A H0 H1 locs1 → W p l e R s m args below meth c H1 locs1 cells slots Q (F0 m (pc + 3) ls rest)) : W p l e R s m args below meth c H locs cells slots Q (F0 m pc ls (v :: .ref a :: rest)) := by
  have hap := va_apart (own := own) hts hin ty0 hty hnm hK hc
  obtain ⟨r, h1, cell, q1, q2, q3, q4⟩ := hat
  have hr : r = (C, T, N) := Option.some.inj (h1.symm.trans hc)
  subst hr
  obtain ⟨hS, hfc, kC, hkC, hkind⟩ := hK.1 ci _ hc
  obtain ⟨cf, kf, fi, f, hi, hsl⟩ := hS k hk
  have hlay := hts _ (hin _ (u_in_lay hk))
  unfold u_lay at hlay
  rw [if_neg (by rw [hfin]; decide)] at hlay
  have hst := (u_facts hfc hkC (u_lays hts hin hk) hi).1
  have h6 := u_store hfc hkC hkind hlay hi hd hn hfit
  refine W.putK hexec hb (f := f) ⟨hown, hlink, ⟨_, _, _, hsame _ hi⟩, hst⟩ (by rw [q2]; exact h6) q1 q3 (by rw [hsl]; exact k2_hasslot (q4 k hk)) rfl rfl hdg fun H' e1 e2 e3 => ?_
  rw [hsl] at e1 ⊢
  exact kk H' _ ⟨_, hc, t_OB.to (V := updV (vp_V fs) k v) ⟨_, e1, q2, q3, t_set q4 hap hk v⟩ (fun j _ => vp_updV_set hl v j)⟩ e2 e3 (hS0.put e2 e3 hAa)
/-- .. a final one, in its class's constructor -/
theorem fw_putF (hexec : p.tables.exec = Jvm.exec) (hb : c.code = cc) {own ref C : String} {T : u_T} {N ci index : Nat} {Ts : List Cond} (hts : ∀ w ∈ Ts, w.before args s = true) (hin : ∀ w ∈ u_ws C T N, w ∈ Ts) (ty0 : Nat → FieldType) (hty : ∀ k, k < N → parseFieldDescriptor (T k).2.2.1 = some (ty0 k)) (hnm : ∀ a, a < N → ∀ b, b < N → a ≠ b → (T a).2.1 ≠ (T b).2.1) (hown : s.vm.findClass own = some m.cls) (hK : va_K D vwCl tys s) {fs : List Value} (hat : va_at D vwCl (a, .inr (ci, fs)) H) (hS0 : va_S A H0 H locs) (hAa : A a) (hc : vwCl[ci]? = some (C, T, N)) (k : Nat) (hk : k < N) (hlink : (Cond.fieldLink own index ref (T k).2.1 (T k).2.2.1).before args s = true) (hsame : ∀ x, s.fieldFound? (T k).1 (T k).2.1 (T k).2.2.1 = some x → s.fieldFound? ref (T k).2.1 (T k).2.2.1 = some x) (hfin : (T k).2.2.2 = true) (hin2 : meth.name = "<init>") (hdecl : (T k).1 = own) {ty : FieldType} {v : Value} (hd : parseFieldDescriptor (T k).2.2.1 = some ty) (hn : narrow ty v = v) (hfit : fits ty v = true) (hl : k < fs.length)
    (hdg : decode cc pc = .ok (.putfield index, 3)) (kk : ∀ (H1 : Heap) (locs1 : List Loc), va_at D vwCl (a, .inr (ci, fs.set k v)) H1 → H1.size = H.size → (∀ q : Nat, q ≠ a → H1[q]? = H[q]?) → va_S A H0 H1 locs1 → W p l e R s m args below meth c H1 locs1 cells slots Q (F0 m (pc + 3) ls rest)) : W p l e R s m args below meth c H locs cells slots Q (F0 m pc ls (v :: .ref a :: rest)) := by
  have hap := va_apart (own := own) hts hin ty0 hty hnm hK hc
  obtain ⟨r, h1, cell, q1, q2, q3, q4⟩ := hat
  have hr : r = (C, T, N) := Option.some.inj (h1.symm.trans hc)
  subst hr
  obtain ⟨hS, hfc, kC, hkC, hkind⟩ := hK.1 ci _ hc
  obtain ⟨cf, kf, fi, f, hi, hsl⟩ := hS k hk
  have hlay := hts _ (hin _ (u_in_lay hk))
  unfold u_lay at hlay
  rw [if_pos hfin] at hlay
  have hst := (u_facts hfc hkC (u_lays hts hin hk) hi).1
  have hcf : m.cls = cf := by
    obtain ⟨_, _, c', _, _, _, -, -, hf', -, -, -, hown2, -⟩ := Cond.laysFinal_spec hlay
    have e1 : c' = cf := by have := hi.symm.trans hf'; simp at this; exact this.1.symm
    rw [hdecl] at hown2
    rw [← e1]; exact Option.some.inj (hown.symm.trans hown2)
  have h6 := u_fits hfc hkC hkind (Or.inr hlay) hi hd hn hfit
  refine W.putFinK hexec hb hown hlink (hsame _ hi) hst hcf hin2 (by rw [q2]; exact h6) q1 q3 (by rw [hsl]; exact k2_hasslot (q4 k hk)) rfl rfl hdg fun H' e1 e2 e3 => ?_
  rw [hsl] at e1 ⊢
  exact kk H' _ ⟨_, hc, t_OB.to (V := updV (vp_V fs) k v) ⟨_, e1, q2, q3, t_set q4 hap hk v⟩ (fun j _ => vp_updV_set hl v j)⟩ e2 e3 (hS0.put e2 e3 hAa)
theorem fw_iast (hexec : p.tables.exec = Jvm.exec) (hb : c.code = cc) (hK : va_K D vwCl tys s) (hS : va_S A H0 H locs) (t0 : Nat) {cA : ClassId} {n : Nat} {f : Nat → Int32} (hat : va_at D vwCl (a, .inl (cA, n, .inl f)) H) (hAa : A a) (ht : tys[t0]? = some (cA, .int)) {i x : Int32} (hin : vp_in i n) (hdg : decode cc pc = .ok (.iastore, 1))
    (kk : ∀ (H1 : Heap) (locs1 : List Loc), va_at D vwCl (a, .inl (cA, n, .inl (upd f i.toNatClampNeg x))) H1 → H1.size = H.size → (∀ q : Nat, q ≠ a → H1[q]? = H[q]?) → va_S A H0 H1 locs1 → W p l e R s m args below meth c H1 locs1 cells slots Q (F0 m (pc + 1) ls rest)) : W p l e R s m args below meth c H locs cells slots Q (F0 m pc ls (.int x :: .int i :: .ref a :: rest)) := by
  refine W.iast hexec hb hat ((hK.2 t0 _ ht).1 n (fun j => .int (f j))) (fun q => by cases q) (by show ¬ (i < 0 ∨ (arrV _ _ _).slots.size ≤ _); rw [arrV_size]; exact hin) rfl rfl hdg fun H1 e z oq => ?_
  refine kk H1 _ ?_ z oq (hS.put z oq hAa)
  show H1[a]? = some (vp_cell _ _)
  rw [e, vp_cell_i, vp_cell_i, arrV_store]
  congr 2
  funext q
  by_cases hq : q = i.toNatClampNeg
  · subst hq
    simp [updV, upd]
  · simp [updV, upd, hq]
end FW
section ST
variable {l : Launch} {R : Room} {cc : ByteArray} {own : String} {nL cap : Nat} {ret : Option FieldType} {pcOf : Nat → Nat} {i : Nat}
theorem blt_lt {a b : Nat} (h : Nat.blt a b = true) : a < b := Nat.le_of_ble_eq_true h
theorem va_one {D : va_G} {q : Nat × va_E} {H : Heap} (h : va_at D vwCl q H) : va_P D vwCl [q] H := fun k x hk => by
  cases k with
  | zero => cases hk; exact h
  | succ k => simp at hk
theorem okGet {C : String} {T : u_T} {N ci f idx : Nat} (hd : decode cc (pcOf i) = .ok (.getfield idx, 3)) (hp : pcOf (i + 1) = pcOf i + 3) (hc : vwCl[ci]? = some (C, T, N)) (hf : f < N) (hlin : ∀ w ∈ u_ws C T N, w ∈ pWA) (hw : Cond.fieldLink own idx (T f).1 (T f).2.1 (T f).2.2.1 ∈ pWA) : EOK l cc own nL ret R cap pcOf i (oGet ci f) := by
  intro p e s m args below meth c D κ α A sz L0 Lm r Qc out C hR ls st w rg k j h hk hj H locs lsA hP hz h0 h1 hr hS hl
  obtain ⟨hx, hb, hml, hown, hts, hret, hlk, hKE, hA, hin, hAk, hfr, hLm⟩ := id C
  unfold oGet at h
  split at h
  next a st' =>
    split at h
    next c0 fs hg =>
      split at h
      next hcb =>
        split at h
        next v hv =>
          have hce : c0 = ci := Nat.eq_of_beq_eq_true hcb
          subst hce
          have g := hk _ _ _ _ h H locs lsA hP hz h0 h1 hr hS hl
          rw [hp] at g
          rw [vget_eq] at hv
          exact va_get (D := D) (cl := vwCl) (tys := pTys κ) (ws := [(α a, ce κ α (.inr (c0, fs)))]) hx hb hts hlin hown hKE.1 (va_one (hP a _ (cellOf_get hg))) 0 (fs := fs.map (cv α)) rfl hc f hf (hts _ hw) (fun _ h => h) (v := cv α v) (by simp [List.getElem?_map, hv]) hd g
        next => cases h
      next => cases h
    next => cases h
  next => cases h
theorem okPut {C : String} {T : u_T} {N ci f idx : Nat} {ty0 : Nat → FieldType} (hd : decode cc (pcOf i) = .ok (.putfield idx, 3)) (hp : pcOf (i + 1) = pcOf i + 3) (hc : vwCl[ci]? = some (C, T, N)) (hf : f < N) (hlin : ∀ w ∈ u_ws C T N, w ∈ pWA) (hty : ∀ k, k < N → parseFieldDescriptor (T k).2.2.1 = some (ty0 k)) (hnm : ∀ a, a < N → ∀ b, b < N → a ≠ b → (T a).2.1 ≠ (T b).2.1) (ht : ty0 f = .int) (hfin : (T f).2.2.2 = false) (hw : Cond.fieldLink own idx (T f).1 (T f).2.1 (T f).2.2.1 ∈ pWA) : EOK l cc own nL ret R cap pcOf i (oPut ci f) := by
  intro p e s m args below meth c D κ α A sz L0 Lm r Qc out C hR ls st w rg k j h hk hj H locs lsA hP hz h0 h1 hr hS hl
  obtain ⟨hx, hb, hml, hown, hts, hret, hlk, hKE, hA, hin, hAk, hfr, hLm⟩ := id C
  unfold oPut at h
  split at h
  next v a st' =>
    split at h
    next c0 fs hg =>
      split at h
      next hcb =>
        split at h
        next hlt =>
          have hce : c0 = ci := Nat.eq_of_beq_eq_true hcb
          subst hce
          rw [vsetK_eq, wsetK_eq] at h
          have hlen : f < fs.length := blt_lt hlt
          have had : pDm Lm r a := Or.inl (Nat.lt_of_lt_of_le (wget_lt hg) h1)
          refine fw_put (D := D) (tys := pTys κ) hx hb hts hlin ty0 hty hnm hown hKE.1 (fs := fs.map (cv α)) (hP a _ (cellOf_get hg)) hS (hAk a had) hc f hf (hts _ hw) (fun _ h => h) hfin (ty := .int) (v := .int v) ((hty f hf).trans (by rw [ht])) rfl rfl (by simpa using hlen) hd (fun H1 locs1 k1 k2 k3 k4 => ?_)
          have hP1 := HP.put (e1 := .inr (c0, fs.set f (.int v))) hP h1 (by rw [hr]; exact hin) hg (by
            show va_at D vwCl (α a, .inr (c0, (fs.set f (.int v)).map (cv α))) H1
            rw [List.map_set]; exact k1) k3
          have g := hk _ _ _ _ h H1 locs1 lsA hP1 (by rw [wset_len, k2]; exact hz) (by rw [wset_len]; exact h0) (by rw [wset_len]; exact h1) hr k4 hl
          rw [hp, wset_len] at g
          exact g
        next => cases h
      next => cases h
    next => cases h
  next => cases h
theorem okPutB {C : String} {T : u_T} {N ci f idx : Nat} {ty0 : Nat → FieldType} (hd : decode cc (pcOf i) = .ok (.putfield idx, 3)) (hp : pcOf (i + 1) = pcOf i + 3) (hc : vwCl[ci]? = some (C, T, N)) (hf : f < N) (hlin : ∀ w ∈ u_ws C T N, w ∈ pWA) (hty : ∀ k, k < N → parseFieldDescriptor (T k).2.2.1 = some (ty0 k)) (hnm : ∀ a, a < N → ∀ b, b < N → a ≠ b → (T a).2.1 ≠ (T b).2.1) (ht : ty0 f = .boolean) (hfin : (T f).2.2.2 = false) (hw : Cond.fieldLink own idx (T f).1 (T f).2.1 (T f).2.2.1 ∈ pWA) : EOK l cc own nL ret R cap pcOf i (oPutB ci f) := by
  intro p e s m args below meth c D κ α A sz L0 Lm r Qc out C hR ls st w rg k j h hk hj H locs lsA hP hz h0 h1 hr hS hl
  obtain ⟨hx, hb, hml, hown, hts, hret, hlk, hKE, hA, hin, hAk, hfr, hLm⟩ := id C
  unfold oPutB at h
  split at h
  next v a st' =>
    split at h
    next c0 fs hg =>
      split at h
      next hcb =>
        split at h
        next hlt =>
          by_cases hv : v = 0 ∨ v = 1
          · have h := (pif_t hv).symm.trans h
            have hce : c0 = ci := Nat.eq_of_beq_eq_true hcb
            subst hce
            rw [vsetK_eq, wsetK_eq] at h
            have hlen : f < fs.length := blt_lt hlt
            have had : pDm Lm r a := Or.inl (Nat.lt_of_lt_of_le (wget_lt hg) h1)
            refine fw_put (D := D) (tys := pTys κ) hx hb hts hlin ty0 hty hnm hown hKE.1 (fs := fs.map (cv α)) (hP a _ (cellOf_get hg)) hS (hAk a had) hc f hf (hts _ hw) (fun _ h => h) hfin (ty := .boolean) (v := .int v) ((hty f hf).trans (by rw [ht])) (by rcases hv with rfl | rfl <;> rfl) (by rcases hv with rfl | rfl <;> rfl) (by simpa using hlen) hd (fun H1 locs1 k1 k2 k3 k4 => ?_)
            have hP1 := HP.put (e1 := .inr (c0, fs.set f (.int v))) hP h1 (by rw [hr]; exact hin) hg (by
              show va_at D vwCl (α a, .inr (c0, (fs.set f (.int v)).map (cv α))) H1
              rw [List.map_set]; exact k1) k3
            have g := hk _ _ _ _ h H1 locs1 lsA hP1 (by rw [wset_len, k2]; exact hz) (by rw [wset_len]; exact h0) (by rw [wset_len]; exact h1) hr k4 hl
            rw [hp, wset_len] at g
            exact g
          · have h := (pif_f hv).symm.trans h; cases h
        next => cases h
      next => cases h
    next => cases h
  next => cases h
theorem cget_in {a : Nat} {li : List Int32} (h : cget a = some li) : ∃ q ∈ pStat, q.2.1 = a ∧ q.2.2 = li := by
  unfold cget at h
  split at h
  next hb => cases h; exact ⟨_, List.mem_cons_self, (Nat.eq_of_beq_eq_true hb).symm, rfl⟩
  next =>
    split at h
    next hb => cases h; exact ⟨_, List.mem_cons_of_mem _ List.mem_cons_self, (Nat.eq_of_beq_eq_true hb).symm, rfl⟩
    next =>
      split at h
      next hb => cases h; exact ⟨_, List.mem_cons_of_mem _ (List.mem_cons_of_mem _ List.mem_cons_self), (Nat.eq_of_beq_eq_true hb).symm, rfl⟩
      next => cases h
theorem okAlen (hd : decode cc (pcOf i) = .ok (.arraylength, 1)) (hp : pcOf (i + 1) = pcOf i + 1) : EOK l cc own nL ret R cap pcOf i oAlen := by
  intro p e s m args below meth c D κ α A sz L0 Lm r Qc out C hR ls st w rg k j h hk hj H locs lsA hP hz h0 h1 hr hS hl
  obtain ⟨hx, hb, hml, hown, hts, hret, hlk, hKE, hA, hin, hAk, hfr, hLm⟩ := id C
  unfold oAlen at h
  split at h
  next a st' =>
    split at h
    next n f hg =>
      have g := hk _ _ _ _ h H locs lsA hP hz h0 h1 hr hS hl
      rw [hp] at g
      exact va_alen (D := D) (cl := vwCl) (tys := pTys κ) (ws := [(α a, ce κ α (.inl (0, n, .inl f)))]) hx hb hKE.1 (va_one (hP a _ (cellOf_get hg))) 0 0 (cA := κ 0) (x := (n, .inl f)) rfl (ty := .int) rfl rfl hd g
    next hg =>
      split at h
      next li hli =>
        obtain ⟨q, hq, e1, e2⟩ := cget_in hli
        have g := hk _ _ _ _ h H locs lsA hP hz h0 h1 hr hS hl
        rw [hp] at g
        have hT := (hKE.2.2 q hq).2
        rw [e1] at hT
        exact va_tlen hx hb hT hS rfl hd g
      next => cases h
    next => cases h
  next => cases h
theorem okIald (hd : decode cc (pcOf i) = .ok (.iaload, 1)) (hp : pcOf (i + 1) = pcOf i + 1) : EOK l cc own nL ret R cap pcOf i oIald := by
  intro p e s m args below meth c D κ α A sz L0 Lm r Qc out C hR ls st w rg k j h hk hj H locs lsA hP hz h0 h1 hr hS hl
  obtain ⟨hx, hb, hml, hown, hts, hret, hlk, hKE, hA, hin, hAk, hfr, hLm⟩ := id C
  unfold oIald at h
  split at h
  next x a st' =>
    split at h
    next n f hg =>
      by_cases hv : x < 0 ∨ n ≤ x.toNatClampNeg
      · have h := (pif_t hv).symm.trans h; cases h
      · have h := (pif_f hv).symm.trans h
        have g := hk _ _ _ _ h H locs lsA hP hz h0 h1 hr hS hl
        rw [hp] at g
        exact va_iald (D := D) (cl := vwCl) (tys := pTys κ) (ws := [(α a, ce κ α (.inl (0, n, .inl f)))]) hx hb hKE.1 (va_one (hP a _ (cellOf_get hg))) 0 0 (cA := κ 0) rfl rfl hv hd g
    next hg =>
      split at h
      next li hli =>
        by_cases hv : x < 0 ∨ 9 ≤ x.toNatClampNeg
        · have h := (pif_t hv).symm.trans h; cases h
        · have h := (pif_f hv).symm.trans h
          obtain ⟨q, hq, e1, e2⟩ := cget_in hli
          have g := hk _ _ _ _ h H locs lsA hP hz h0 h1 hr hS hl
          rw [hp] at g
          have hT := (hKE.2.2 q hq).2
          rw [e1, e2] at hT
          exact va_ti hx hb hT hS hv rfl hd g
      next => cases h
    next => cases h
  next => cases h
theorem i_nat {x : Int32} {n0 n : Nat} (h : x.toInt = (n0 : Int)) (hn : n0 < n) : x.toNatClampNeg = n0 ∧ vp_in x n := by
  have h1 : x.toNatClampNeg = n0 := by
    show x.toInt.toNat = n0
    rw [h]; simp
  refine ⟨h1, fun q => ?_⟩
  rcases q with q | q
  · have := Int32.lt_iff_toInt_lt.mp q
    rw [h] at this
    simp at this
    omega
  · rw [h1] at q; omega
theorem okIaldN {n0 : Nat} (hd : decode cc (pcOf i) = .ok (.iaload, 1)) (hp : pcOf (i + 1) = pcOf i + 1) : EOK l cc own nL ret R cap pcOf i (oIaldN n0) := by
  intro p e s m args below meth c D κ α A sz L0 Lm r Qc out C hR ls st w rg k j h hk hj H locs lsA hP hz h0 h1 hr hS hl
  obtain ⟨hx, hb, hml, hown, hts, hret, hlk, hKE, hA, hin, hAk, hfr, hLm⟩ := id C
  unfold oIaldN at h
  split at h
  next x a st' =>
    split at h
    next hdec =>
      split at h
      next n f hg =>
        split at h
        next hlt =>
          obtain ⟨e1, e2⟩ := i_nat (of_decide_eq_true hdec) (n := n) (blt_lt hlt)
          have g := hk _ _ _ _ h H locs lsA hP hz h0 h1 hr hS hl
          rw [hp] at g
          refine va_iald (D := D) (cl := vwCl) (tys := pTys κ) (ws := [(α a, ce κ α (.inl (0, n, .inl f)))]) hx hb hKE.1 (va_one (hP a _ (cellOf_get hg))) 0 0 (cA := κ 0) rfl rfl e2 hd ?_
          rw [e1]
          exact g
        next => cases h
      next => cases h
    next => cases h
  next => cases h
theorem okIast (hd : decode cc (pcOf i) = .ok (.iastore, 1)) (hp : pcOf (i + 1) = pcOf i + 1) : EOK l cc own nL ret R cap pcOf i oIast := by
  intro p e s m args below meth c D κ α A sz L0 Lm r Qc out C hR ls st w rg k j h hk hj H locs lsA hP hz h0 h1 hr hS hl
  obtain ⟨hx, hb, hml, hown, hts, hret, hlk, hKE, hA, hin, hAk, hfr, hLm⟩ := id C
  unfold oIast at h
  split at h
  next v x a st' =>
    split at h
    next n f hg =>
      by_cases hv : x < 0 ∨ n ≤ x.toNatClampNeg
      · have h := (pif_t hv).symm.trans h; cases h
      · have h := (pif_f hv).symm.trans h
        rw [wsetK_eq] at h
        have had : pDm Lm r a := Or.inl (Nat.lt_of_lt_of_le (wget_lt hg) h1)
        refine fw_iast (D := D) (tys := pTys κ) hx hb hKE.1 hS 0 (cA := κ 0) (hP a _ (cellOf_get hg)) (hAk a had) rfl hv hd (fun H1 locs1 k1 k2 k3 k4 => ?_)
        have hP1 := HP.put (e1 := .inl (0, n, .inl (upd f x.toNatClampNeg v))) hP h1 (by rw [hr]; exact hin) hg k1 k3
        have g := hk _ _ _ _ h H1 locs1 lsA hP1 (by rw [wset_len, k2]; exact hz) (by rw [wset_len]; exact h0) (by rw [wset_len]; exact h1) hr k4 hl
        rw [hp, wset_len] at g
        exact g
    next => cases h
  next => cases h
theorem okIastN {n0 : Nat} (hd : decode cc (pcOf i) = .ok (.iastore, 1)) (hp : pcOf (i + 1) = pcOf i + 1) : EOK l cc own nL ret R cap pcOf i (oIastN n0) := by
  intro p e s m args below meth c D κ α A sz L0 Lm r Qc out C hR ls st w rg k j h hk hj H locs lsA hP hz h0 h1 hr hS hl
  obtain ⟨hx, hb, hml, hown, hts, hret, hlk, hKE, hA, hin, hAk, hfr, hLm⟩ := id C
  unfold oIastN at h
  split at h
  next v x a st' =>
    split at h
    next hdec =>
      split at h
      next n f hg =>
        split at h
        next hlt =>
          obtain ⟨e1, e2⟩ := i_nat (of_decide_eq_true hdec) (n := n) (blt_lt hlt)
          rw [wsetK_eq] at h
          have had : pDm Lm r a := Or.inl (Nat.lt_of_lt_of_le (wget_lt hg) h1)
          refine fw_iast (D := D) (tys := pTys κ) hx hb hKE.1 hS 0 (cA := κ 0) (hP a _ (cellOf_get hg)) (hAk a had) rfl e2 hd (fun H1 locs1 k1 k2 k3 k4 => ?_)
          rw [e1] at k1
          have hP1 := HP.put (e1 := .inl (0, n, .inl (upd f n0 v))) hP h1 (by rw [hr]; exact hin) hg k1 k3
          have g := hk _ _ _ _ h H1 locs1 lsA hP1 (by rw [wset_len, k2]; exact hz) (by rw [wset_len]; exact h0) (by rw [wset_len]; exact h1) hr k4 hl
          rw [hp, wset_len] at g
          exact g
        next => cases h
      next => cases h
    next => cases h
  next => cases h
theorem pickK_some {R : Type} {x : Int32} : ∀ {ps : List Nat} {cn : Nat → Option R} {o : R}, pickK x ps cn = some o → ∃ n0 : Nat, x.toInt = (n0 : Int) ∧ cn n0 = some o
  | [], _, _, h => by cases h
  | n :: l, cn, o, h => by
    unfold pickK at h
    split at h
    next hd => exact ⟨n, of_decide_eq_true hd, h⟩
    next => exact pickK_some h
theorem okIaldP {ps : List Nat} (hd : decode cc (pcOf i) = .ok (.iaload, 1)) (hp : pcOf (i + 1) = pcOf i + 1) : EOK l cc own nL ret R cap pcOf i (oIaldP ps) := by
  intro p e s m args below meth c D κ α A sz L0 Lm r Qc out C hR ls st w rg k j h hk hj H locs lsA hP hz h0 h1 hr hS hl
  obtain ⟨hx, hb, hml, hown, hts, hret, hlk, hKE, hA, hin, hAk, hfr, hLm⟩ := id C
  unfold oIaldP at h
  split at h
  next x a st' =>
    obtain ⟨n0, hn0, h⟩ := pickK_some h
    split at h
    next n f hg =>
      split at h
      next hlt =>
        obtain ⟨e1, e2⟩ := i_nat hn0 (n := n) (blt_lt hlt)
        have g := hk _ _ _ _ h H locs lsA hP hz h0 h1 hr hS hl
        rw [hp] at g
        refine va_iald (D := D) (cl := vwCl) (tys := pTys κ) (ws := [(α a, ce κ α (.inl (0, n, .inl f)))]) hx hb hKE.1 (va_one (hP a _ (cellOf_get hg))) 0 0 (cA := κ 0) rfl rfl e2 hd ?_
        rw [e1]
        exact g
      next => cases h
    next => cases h
  next => cases h
theorem okIastP {ps : List Nat} (hd : decode cc (pcOf i) = .ok (.iastore, 1)) (hp : pcOf (i + 1) = pcOf i + 1) : EOK l cc own nL ret R cap pcOf i (oIastP ps) := by
  intro p e s m args below meth c D κ α A sz L0 Lm r Qc out C hR ls st w rg k j h hk hj H locs lsA hP hz h0 h1 hr hS hl
  obtain ⟨hx, hb, hml, hown, hts, hret, hlk, hKE, hA, hin, hAk, hfr, hLm⟩ := id C
  unfold oIastP at h
  split at h
  next v x a st' =>
    obtain ⟨n0, hn0, h⟩ := pickK_some h
    split at h
    next n f hg =>
      split at h
      next hlt =>
        obtain ⟨e1, e2⟩ := i_nat hn0 (n := n) (blt_lt hlt)
        rw [wsetK_eq] at h
        have had : pDm Lm r a := Or.inl (Nat.lt_of_lt_of_le (wget_lt hg) h1)
        refine fw_iast (D := D) (tys := pTys κ) hx hb hKE.1 hS 0 (cA := κ 0) (hP a _ (cellOf_get hg)) (hAk a had) rfl e2 hd (fun H1 locs1 k1 k2 k3 k4 => ?_)
        rw [e1] at k1
        have hP1 := HP.put (e1 := .inl (0, n, .inl (upd f n0 v))) hP h1 (by rw [hr]; exact hin) hg k1 k3
        have g := hk _ _ _ _ h H1 locs1 lsA hP1 (by rw [wset_len, k2]; exact hz) (by rw [wset_len]; exact h0) (by rw [wset_len]; exact h1) hr k4 hl
        rw [hp, wset_len] at g
        exact g
      next => cases h
    next => cases h
  next => cases h
theorem st_sum : ∀ {st : pSt} {α : Nat → Nat}, st.length < 5 → ((st.map (cv α)).map fun v => v.category).sum ≤ 8 := by
  intro st α h
  have key : ∀ (l : pSt), ((l.map (cv α)).map fun v => v.category).sum ≤ 2 * l.length := by
    intro l
    induction l with
    | nil => simp
    | cons v l ih =>
      have : (cv α v).category ≤ 2 := by rcases lv_cat (cv α v) with q | q <;> omega
      simp only [List.map_cons, List.sum_cons, List.length_cons]
      omega
  have := key st
  omega
theorem okMin {idx : Nat} (hd : decode cc (pcOf i) = .ok (.invokestatic idx, 3)) (hp : pcOf (i + 1) = pcOf i + 3) (hw : Cond.methodLink own idx Lib.Math.min.name ∈ pWA) (hw2 : Cond.static Lib.Math.min.name ∈ pWA) (hw3 : Cond.initialized "java/lang/Math" ∈ pWA) (hw4 : Cond.code Lib.Math.min.name Lib.Math.min.code 2 (some .int) ∈ pWA) (hf : 1 ≤ R.frames) (hlo : 21 ≤ R.locals) : EOK l cc own nL ret R cap pcOf i oMin := by
  intro p e s m args below meth c D κ α A sz L0 Lm r Qc out C hR ls st w rg k j h hk hj H locs lsA hP hz h0 h1 hr hS hl
  obtain ⟨hx, hb, hml, hown, hts, hret, hlk, hKE, hA, hin, hAk, hfr, hLm, hcc, hcs, hcap⟩ := id C
  unfold oMin at h
  split at h
  next y x st' =>
    split at h
    next hst =>
      have g := hk _ _ _ _ h H locs lsA hP hz h0 h1 hr hS hl
      rw [hp] at g
      have hsum : ((st'.map (cv α)).map fun v => v.category).sum ≤ 8 := st_sum (blt_lt hst)
      exact va_mmin hx hb (by rw [hml]; exact hl.1.symm) hown (hts _ hw) (hts _ hw2) (hts _ hw3) (hts _ hw4) hf (by omega) (by omega) (by omega) hd g
    next => cases h
  next => cases h
theorem okMax {idx : Nat} (hd : decode cc (pcOf i) = .ok (.invokestatic idx, 3)) (hp : pcOf (i + 1) = pcOf i + 3) (hw : Cond.methodLink own idx Lib.Math.max.name ∈ pWA) (hw2 : Cond.static Lib.Math.max.name ∈ pWA) (hw3 : Cond.initialized "java/lang/Math" ∈ pWA) (hw4 : Cond.code Lib.Math.max.name Lib.Math.max.code 2 (some .int) ∈ pWA) (hf : 1 ≤ R.frames) (hlo : 21 ≤ R.locals) : EOK l cc own nL ret R cap pcOf i oMax := by
  intro p e s m args below meth c D κ α A sz L0 Lm r Qc out C hR ls st w rg k j h hk hj H locs lsA hP hz h0 h1 hr hS hl
  obtain ⟨hx, hb, hml, hown, hts, hret, hlk, hKE, hA, hin, hAk, hfr, hLm, hcc, hcs, hcap⟩ := id C
  unfold oMax at h
  split at h
  next y x st' =>
    split at h
    next hst =>
      have g := hk _ _ _ _ h H locs lsA hP hz h0 h1 hr hS hl
      rw [hp] at g
      have hsum : ((st'.map (cv α)).map fun v => v.category).sum ≤ 8 := st_sum (blt_lt hst)
      exact va_mmax hx hb (by rw [hml]; exact hl.1.symm) hown (hts _ hw) (hts _ hw2) (hts _ hw3) (hts _ hw4) hf (by omega) (by omega) (by omega) hd g
    next => cases h
  next => cases h
theorem okIret (hd : decode cc (pcOf i) = .ok (.ireturn, 1)) (hrt : ret = some .int) : EOK l cc own nL ret R cap pcOf i oIret := by
  intro p e s m args below meth c D κ α A sz L0 Lm r Qc out C hR ls st w rg k j h hk hj H locs lsA hP hz h0 h1 hr hS hl
  obtain ⟨hx, hb, hml, hown, hts, hret, hlk, hKE, hA, hin, hAk, hfr, hLm⟩ := id C
  unfold oIret at h
  split at h
  next v =>
    cases h
    exact W.iret (v := v) hx hb (hret.trans hrt) (fun t ht hW => hR H locs t hP hz hS ht hW) hS.2.2 hd hlk
  next => cases h
theorem okZret (hd : decode cc (pcOf i) = .ok (.ireturn, 1)) (hrt : ret = some .boolean) : EOK l cc own nL ret R cap pcOf i oZret := by
  intro p e s m args below meth c D κ α A sz L0 Lm r Qc out C hR ls st w rg k j h hk hj H locs lsA hP hz h0 h1 hr hS hl
  obtain ⟨hx, hb, hml, hown, hts, hret, hlk, hKE, hA, hin, hAk, hfr, hLm⟩ := id C
  unfold oZret at h
  split at h
  next v =>
    by_cases hv : v = 0 ∨ v = 1
    · have h := (pif_t hv).symm.trans h
      cases h
      exact W.zret (v := v) hx hb (hret.trans hrt) (by rcases hv with rfl | rfl <;> rfl) (fun t ht hW => hR H locs t hP hz hS ht hW) hS.2.2 hd hlk
    · have h := (pif_f hv).symm.trans h; cases h
  next => cases h
theorem okVret (hd : decode cc (pcOf i) = .ok (.return_, 1)) (hrt : ret = none) : EOK l cc own nL ret R cap pcOf i oVret := by
  intro p e s m args below meth c D κ α A sz L0 Lm r Qc out C hR ls st w rg k j h hk hj H locs lsA hP hz h0 h1 hr hS hl
  obtain ⟨hx, hb, hml, hown, hts, hret, hlk, hKE, hA, hin, hAk, hfr, hLm⟩ := id C
  unfold oVret at h
  split at h
  next =>
    cases h
    exact W.vret hx hb (hret.trans hrt) (fun t ht hW => hR H locs t hP hz hS ht hW) hS.2.2 hd hlk
  next => cases h
theorem okAret {C : String} (hd : decode cc (pcOf i) = .ok (.areturn, 1)) (hrt : ret = some (.object C)) : EOK l cc own nL ret R cap pcOf i oAret := by
  intro p e s m args below meth c D κ α A sz L0 Lm r Qc out C hR ls st w rg k j h hk hj H locs lsA hP hz h0 h1 hr hS hl
  obtain ⟨hx, hb, hml, hown, hts, hret, hlk, hKE, hA, hin, hAk, hfr, hLm⟩ := id C
  unfold oAret at h
  split at h
  next v =>
    cases h
    exact W.aret (v := .ref (α v)) hx hb (hret.trans hrt) (Or.inl ⟨_, rfl⟩) (Or.inr ⟨_, rfl⟩) (fun t ht hW => hR H locs t hP hz hS ht hW) hS.2.2 hd hlk
  next => cases h
end ST
end
end
section
noncomputable section
/-! CONTRACTS OUT OF PURE RUNS, AND CALLS BY CONTRACT -/
def pA (α : Nat → Nat) (w : pWd) (rg : pRg) (sz : Nat) : Nat → Prop := fun q => (∃ k, pDm w.length rg.1 k ∧ q = α k) ∨ sz ≤ q
def pPre (D : va_G) (κ : pKap) (α : Nat → Nat) (args : List Value) (w : pWd) (rg : pRg) (sz : Nat) : Array Value → State → Prop :=
  va_Pc (args.map (cv α)) (fun U => U.heap.size = sz ∧ HP D κ α (cellOf w rg) U.heap ∧ pKE D κ α (pA α w rg sz) U)
def pPost (D : va_G) (κ : pKap) (α : Nat → Nat) (w : pWd) (rg : pRg) (sz : Nat) (out : pOut) : Array Value → State → Outcome → State → Prop := fun _ st o t =>
  o = .returned (out.1.map (cv α)) ∧ HP D κ α (cellOf out.2.1 out.2.2) t.heap ∧ t.heap.size = sz + (out.2.1.length - w.length) ∧ va_F (pA α w rg sz) st t
/-- a method's contract: from the arguments and the picture it returns out -/
def pCT (l : Launch) (y : MethodName) (ws : List Cond) (rm : Room) (args : List Value) (w : pWd) (rg : pRg) (out : pOut) : Prop :=
  out.2.2.1 = rg.1 ∧ w.length ≤ out.2.1.length ∧ out.2.1.length ≤ 100000 ∧ rm.cells = out.2.1.length - w.length ∧ rm.slots = 1000 * (out.2.1.length - w.length) ∧
  ∀ (D : va_G) (κ : pKap) (α : Nat → Nat) (sz : Nat), pInj α out.2.1.length rg.1 → (∀ k, w.length ≤ k → k < out.2.1.length → α k = sz + (k - w.length)) →
    Met l y ws rm (pPre D κ α args w rg sz) (pPost D κ α w rg sz out) (out.2.1.length - w.length) (1000 * (out.2.1.length - w.length)) (pA α w rg sz)
abbrev pWs (y : MethodName) (cc : ByteArray) (nL : Nat) (ret : Option FieldType) : List Cond := Cond.code y cc nL ret :: pWA
theorem args_conc (α : Nat → Nat) : ∀ (vs : List Value) (i : Nat), lv_args i (vs.map (cv α)) = (lv_args i vs).map (fun q => (q.1, cv α q.2))
  | [], _ => rfl
  | v :: vs, i => by
    show (i, cv α v) :: lv_args (if (cv α v).category = 2 then i + 2 else i + 1) (vs.map (cv α)) = _
    rw [cv_cat, args_conc α vs]
    rfl
theorem sl_len : ∀ (vs : List Value) (α : Nat → Nat), (lg_sl (vs.map (cv α))).length = (lg_sl vs).length
  | [], _ => rfl
  | v :: vs, α => by
    have ih := sl_len vs α
    unfold lg_sl at ih ⊢
    rw [List.map_cons, List.flatMap_cons, List.flatMap_cons, List.length_append, List.length_append, ih, cv_cat]
    by_cases h : v.category = 2 <;> simp [h]
/-- A METHOD'S CONTRACT OUT OF ITS PURE RUN -/
theorem met_of_ex {l : Launch} {y : MethodName} {cc : ByteArray} {nL cap : Nat} {ret : Option FieldType} {rm : Room} {pcOf : Nat → Nat} {code : List pEn} (hy : plainName y.cls = true)
    (hc : ∀ (i : Nat) (en : pEn), code[i]? = some en → EOK l cc y.cls nL ret rm cap pcOf i en) (hp0 : pcOf 0 = 0)
    {args : List Value} {w : pWd} {rg : pRg} {out : pOut} (hrun : ∃ n, ex code n 0 (lv_args 0 args) [] w rg = some out) (hsl : (lg_sl args).length ≤ nL)
    (ho : out.2.2.1 = rg.1) (hlen : w.length ≤ out.2.1.length) (hL : out.2.1.length ≤ 100000) (hcap : cap ≤ out.2.1.length) (hrc : rm.cells = out.2.1.length - w.length) (hrs : rm.slots = 1000 * (out.2.1.length - w.length)) :
    pCT l y (pWs y cc nL ret) rm args w rg out := by
  obtain ⟨n, h⟩ := hrun
  refine ⟨ho, hlen, hL, hrc, hrs, fun D κ α sz hin hfr => ?_⟩
  refine Met.ofW (cc := cc) (maxL := nL) (ret := ret) hy rfl ?_
  intro p e s m args' below meth c s₁ B hml hv
  obtain ⟨rfl, hsz, hP, hKE⟩ := hv
  have hts := atoms_spec (ws := pWs y cc nL ret) B.pre
  have hown : s.vm.findClass y.cls = some m.cls := findClass_of_methodNamed B.named
  have C : pCx cc y.cls nL ret (headSpec (pWs y cc nL ret) rm).room cap p s m (args.map (cv α)).toArray meth c D κ α (pA α w rg sz) sz w.length out.2.1.length rg.1 :=
    ⟨B.exec, B.bytes, hml, hown, fun w h => hts w (List.mem_cons_of_mem _ h), B.returns, B.notSynchronized, hKE, fun q h => Or.inr (by rw [← hsz]; exact h), hin, fun k hk => by
      by_cases hk0 : pDm w.length rg.1 k
      · exact Or.inl ⟨k, hk0, rfl⟩
      · rcases hk with h1 | h1
        · have h2 : w.length ≤ k := by
            rcases Nat.lt_or_ge k w.length with h3 | h3
            · exact absurd (Or.inl h3) hk0
            · exact h3
          exact Or.inr (by rw [hfr k h2 h1]; omega)
        · exact absurd (Or.inr h1) hk0, hfr, hL, by show _ ≤ rm.cells; omega, by show _ ≤ rm.slots; omega, hcap⟩
  have hR : pRet s (args.map (cv α)).toArray D κ α (pA α w rg sz) sz w.length (pPost D κ α w rg sz out) out := by
    intro H locs t h1 h2 h3 h4 _
    exact ⟨rfl, by rw [h4]; exact h1, by rw [h4]; exact h2, h3.F h4⟩
  have g := ex_sound (l := l) (e := e) (below := below) hc C hR n 0 (lv_args 0 args) [] w rg h
  have hl := lv_entry (args.map (cv α)) (n := nL) (by rw [sl_len]; exact hsl)
  rw [lg_entry_eq]
  rw [args_conc] at hl
  have g2 := g s.heap [] _ hP (by rw [Nat.sub_self]; exact hsz) (Nat.le_refl _) hlen rfl va_S.rf hl
  rw [hp0, Nat.sub_self] at g2
  exact g2
section CL
variable {p : Program} {l : Launch} {e : Env} {R : Room} {s : State} {m : MethodId} {args : Array Value} {below : List Frame} {meth : Method} {c : Code} {H : Heap} {locs : List Loc} {cells slots : Nat} {Q : State → Prop}
theorem fw_call {pc : Nat} {lsA : Array Slot} {st0 rest : List Value} {mc ms : Nat} {Qa : State → Outcome → State → Prop} {free : Addr → Prop} (hr : va_Run p l e R s m args below meth c H locs cells slots mc ms (F0 m pc lsA st0) rest Qa free)
    (kk : ∀ (v : Option Value) (st₀ t : State) (L : List Loc), st₀.heap = H → Qa st₀ (.returned v) t → (∀ q ∈ L, free q.base) → W p l e R s m args below meth c t.heap (locs ++ L) (cells + mc) (slots + ms) Q (F0 m (pc + 3) lsA (v.toList ++ rest))) : W p l e R s m args below meth c H locs cells slots Q (F0 m pc lsA st0) := by
  intro T hT X
  obtain ⟨v, st₀, t, T', L, h0, X', hL, e1, e2, hq, st⟩ := hr T hT X
  obtain ⟨t2, a1, b1⟩ := kk v st₀ t L h0 hq hL T' e1 X'
  exact ⟨t2, st t2 a1, b1⟩
end CL
theorem cv_cv (α ρ : Nat → Nat) (v : Value) : cv α (cv ρ v) = cv (fun j => α (ρ j)) v := by cases v <;> rfl
theorem ca_ca (α ρ : Nat → Nat) (x : vp_A) : ca α (ca ρ x) = ca (fun j => α (ρ j)) x := by
  obtain ⟨n, a⟩ := x
  rcases a with f | f | f | f | f <;> try rfl
  show (n, Sum.inr (Sum.inr (Sum.inr (Sum.inr (fun i => ((f i).map ρ).map α))))) = _
  simp only [Option.map_map]
  rfl
abbrev re (ρ : Nat → Nat) (e : va_E) : va_E := ce (fun c => c) ρ e
theorem ce_ce (κ : pKap) (α ρ : Nat → Nat) (e : va_E) : ce κ α (re ρ e) = ce κ (fun j => α (ρ j)) e := by
  rcases e with ⟨c, x⟩ | ⟨i, fs⟩
  · show Sum.inl (κ c, ca α (ca ρ x)) = Sum.inl (κ c, _)
    rw [ca_ca]
  · show Sum.inr (i, (fs.map (cv ρ)).map (cv α)) = Sum.inr (i, fs.map (cv _))
    rw [List.map_map]
    congr 2
    refine List.map_congr_left fun v _ => ?_
    exact cv_cv α ρ v
/-- a callee's picture stands in the caller's by the places ρ; the rest stays -/
def pFr (ρ : Nat → Nat) (w : pWd) (rg : pRg) (w0 : pWd) (rg0 : pRg) (w1 : pWd) (rg1 : pRg) (w' : pWd) (rg' : pRg) : Prop :=
  (∀ j e, cellOf w0 rg0 j = some e → cellOf w rg (ρ j) = some (re ρ e)) ∧
  (∀ j j', pDm w1.length rg0.1 j → pDm w1.length rg0.1 j' → ρ j = ρ j' → j = j') ∧
  (∀ j, pDm w0.length rg0.1 j → pDm w.length rg.1 (ρ j)) ∧
  (∀ j, w0.length ≤ j → j < w1.length → ρ j = w.length + (j - w0.length)) ∧
  (∀ k e, cellOf w' rg' k = some e → (∃ j e0, pDm w1.length rg0.1 j ∧ k = ρ j ∧ cellOf w1 rg1 j = some e0 ∧ e = re ρ e0) ∨ (cellOf w rg k = some e ∧ ∀ j, pDm w1.length rg0.1 j → ρ j ≠ k)) ∧
  (∀ q ∈ pStat, ρ q.2.1 = q.2.1) ∧ w'.length = w.length + (w1.length - w0.length) ∧ rg'.1 = rg.1
abbrev pF : Type := List Value → pWd → pRg → Option pOut
/-- what a call's pure answer rests on -/
def pFOK (l : Launch) (y : MethodName) (ws : List Cond) (rm : Room) (F : pF) : Prop :=
  ∀ (args : List Value) (w : pWd) (rg : pRg) (v : Option Value) (w' : pWd) (rg' : pRg), F args w rg = some (v, w', rg') →
    ∃ (ρ : Nat → Nat) (args0 : List Value) (w0 : pWd) (rg0 : pRg) (v0 : Option Value) (w1 : pWd) (rg1 : pRg), pCT l y ws rm args0 w0 rg0 (v0, w1, rg1) ∧ pFr ρ w rg w0 rg0 w1 rg1 w' rg' ∧ args0.map (cv ρ) = args ∧ v = v0.map (cv ρ)
def popK : Nat → pSt → List Value → (List Value → pSt → Option pOut) → Option pOut
  | 0, st, acc, c => c acc st
  | n + 1, v :: st, acc, c => popK n st (v :: acc) c
  | _ + 1, [], _, _ => none
theorem popK_some : ∀ {n : Nat} {st : pSt} {acc : List Value} {c : List Value → pSt → Option pOut} {o : pOut}, popK n st acc c = some o → ∃ as rest, st = as.reverse ++ rest ∧ as.length = n ∧ c (as ++ acc) rest = some o
  | 0, st, acc, c, o, h => ⟨[], st, rfl, rfl, h⟩
  | n + 1, [], acc, c, o, h => by cases h
  | n + 1, v :: st, acc, c, o, h => by
    obtain ⟨as, rest, h1, h2, h3⟩ := popK_some (n := n) (st := st) (acc := v :: acc) h
    exact ⟨as ++ [v], rest, by rw [h1]; simp, by simp [h2], by rw [List.append_assoc]; exact h3⟩
def callK (o : Option pOut) (len : Nat) (ls : pLs) (rest : pSt) (k : pK) : Option pOut := match o with
  | some (v, w', rg') => match Nat.beq w'.length len with
    | true => match v with
      | some u => k ls (u :: rest) w' rg'
      | none => k ls rest w' rg'
    | false => none
  | none => none
/-- .. and one that isn't opened by itself: it is chosen -/
theorem ex_callK : ∃ B : Option pOut → Nat → pLs → pSt → pK → Option pOut, ∀ o len ls rest k, B o len ls rest k = callK o len ls rest k := ⟨callK, fun _ _ _ _ _ => rfl⟩
def callZ : Option pOut → Nat → pLs → pSt → pK → Option pOut := Classical.choose ex_callK
theorem callZ_eq (o : Option pOut) (len : Nat) (ls : pLs) (rest : pSt) (k : pK) : callZ o len ls rest k = callK o len ls rest k := Classical.choose_spec ex_callK o len ls rest k
theorem callK_v {o : Option pOut} {len : Nat} {ls : pLs} {rest : pSt} {k : pK} {w' : pWd} {rg' : pRg} (h : o = some (none, w', rg')) (hl : Nat.beq w'.length len = true) : callZ o len ls rest k = k ls rest w' rg' := by
  rw [callZ_eq, h]; unfold callK; simp only [hl]
theorem callK_r {o : Option pOut} {len : Nat} {ls : pLs} {rest : pSt} {k : pK} {u : Value} {w' : pWd} {rg' : pRg} (h : o = some (some u, w', rg')) (hl : Nat.beq w'.length len = true) : callZ o len ls rest k = k ls (u :: rest) w' rg' := by
  rw [callZ_eq, h]; unfold callK; simp only [hl]
abbrev fz (F : pF) : pF := F
theorem fz_eq (F : pF) (args : List Value) (w : pWd) (rg : pRg) : fz F args w rg = F args w rg := rfl
def oCallZ (n : Nat) (F : pF) : pEn := fun ls st w rg k _ => popK n st [] (fun args rest => match Nat.blt rest.length 5 with
  | true => callZ (F args w rg) w.length ls rest k
  | false => none)
/-- a call of n arguments (the receiver counts) that makes nothing -/
def oCall (n : Nat) (F : pF) : pEn := fun ls st w rg k _ => popK n st [] (fun args rest => match Nat.blt rest.length 5 with
  | true => callK (F args w rg) w.length ls rest k
  | false => none)
/-- .. and one that may make objects, up to cap cells in all -/
def oCallA (n cap : Nat) (F : pF) : pEn := fun ls st w rg k _ => popK n st [] (fun args rest => match Nat.blt rest.length 5 with
  | true => match F args w rg with
    | some (v, w', rg') => match Nat.ble w'.length cap with
      | true => match v with
        | some u => k ls (u :: rest) w' rg'
        | none => k ls rest w' rg'
      | false => none
    | none => none
  | false => none)
section CC
variable {p : Program} {l : Launch} {e : Env} {R : Room} {s : State} {m : MethodId} {args : Array Value} {below : List Frame} {meth : Method} {c : Code} {H : Heap} {locs : List Loc} {Q : State → Prop}
variable {cc : ByteArray} {own : String} {nL cap : Nat} {ret : Option FieldType} {D : va_G} {κ : pKap} {α : Nat → Nat} {A : Nat → Prop} {sz L0 Lm r : Nat}
/-- THE CALL, whatever its instruction: hrun gives the run out of the callee's contract -/
theorem call_core (C : pCx cc own nL ret R cap p s m args meth c D κ α A sz L0 Lm r) {y : MethodName} {ws : List Cond} {rm : Room} {F : pF} (hF : pFOK l y ws rm F) {as : List Value} {w w' : pWd} {rg rg' : pRg} {v : Option Value} (hf : F as w rg = some (v, w', rg')) (hb : w'.length ≤ Lm) {rest : List Value} {pc : Nat} {lsA : Array Slot}
    (hP : HP D κ α (cellOf w rg) H) (hz : H.size = sz + (w.length - L0)) (h0 : L0 ≤ w.length) (h1 : w.length ≤ Lm) (hr : rg.1 = r) (hS : va_S A s.heap H locs)
    (hrun : ∀ (Pc : Array Value → State → Prop) (Qc : Array Value → State → Outcome → State → Prop) (mc ms : Nat) (free : Addr → Prop), Met l y ws rm Pc Qc mc ms free → rm.cells = mc → rm.slots = ms → (FrameBlind Pc ∧ ∀ U : State, U.heap = H → s.WarmedH U.vm → Pc (as.map (cv α)).toArray U) → (w.length - L0) + mc ≤ R.cells ∧ (1000 * (w.length - L0)) + ms ≤ R.slots →
      va_Run p l e R s m args below meth c H locs (w.length - L0) (1000 * (w.length - L0)) mc ms (F0 m pc lsA ((as.map (cv α)).reverse ++ rest)) rest (Qc (as.map (cv α)).toArray) free)
    (kk : ∀ (H1 : Heap) (locs1 : List Loc), HP D κ α (cellOf w' rg') H1 → H1.size = sz + (w'.length - L0) → L0 ≤ w'.length → rg'.1 = r → va_S A s.heap H1 locs1 → W p l e R s m args below meth c H1 locs1 (w'.length - L0) (1000 * (w'.length - L0)) Q (F0 m (pc + 3) lsA ((v.map (cv α)).toList ++ rest))) :
    W p l e R s m args below meth c H locs (w.length - L0) (1000 * (w.length - L0)) Q (F0 m pc lsA ((as.map (cv α)).reverse ++ rest)) := by
  obtain ⟨hx, hbb, hml, hown, hts, hret, hlk, hKE, hA, hin, hAk, hfr, hLm, hcc, hcs, hcap⟩ := id C
  obtain ⟨ρ, args0, w0, rg0, v0, w1, rg1, ⟨c1, c2, c3, c4, c5, c6⟩, ⟨f1, f2, f3, f4, f5, f6, f7, f8⟩, ha, hv⟩ := hF _ _ _ _ _ _ hf
  dsimp only at c1 c2 c3 c4 c5 c6
  have dm : ∀ j, pDm w1.length rg0.1 j → pDm Lm r (ρ j) := by
    intro j hj
    by_cases hj0 : pDm w0.length rg0.1 j
    · rcases f3 j hj0 with q | q
      · exact Or.inl (by omega)
      · exact Or.inr (by rw [hr] at q; exact q)
    · rcases hj with q | q
      · have : w0.length ≤ j := by
          rcases Nat.lt_or_ge j w0.length with z | z
          · exact absurd (Or.inl z) hj0
          · exact z
        exact Or.inl (by rw [f4 j this q]; omega)
      · exact absurd (Or.inr q) hj0
  have hM := c6 D κ (fun j => α (ρ j)) H.size (fun j j' hj hj' q => f2 j j' hj hj' (hin _ _ (dm j hj) (dm j' hj') q)) (fun k hk1 hk2 => by
    show α (ρ k) = _
    rw [f4 k hk1 hk2, hfr _ (by omega) (by omega), hz]
    omega)
  have hAsub : ∀ q, pA (fun j => α (ρ j)) w0 rg0 H.size q → A q := by
    intro q hq
    rcases hq with ⟨k, hk, rfl⟩ | hq
    · refine hAk _ (dm k ?_)
      rcases hk with z | z
      · exact Or.inl (by omega)
      · exact Or.inr z
    · exact hA q (Nat.le_trans hS.1 hq)
  have hargs : args0.map (cv (fun j => α (ρ j))) = as.map (cv α) := by
    rw [← ha, List.map_map]
    exact List.map_congr_left fun x _ => (cv_cv α ρ x).symm
  refine fw_call (hrun _ _ _ _ _ hM c4 c5 ⟨?_, ?_⟩ (by omega)) ?_
  · intro a U g mk hq
    obtain ⟨q1, q2, q3, q4⟩ := hq
    exact ⟨q1, q2, q3, q4.blind⟩
  · intro U hU hW
    refine ⟨by rw [hargs], by rw [hU], fun j e0 hj => ?_, hKE.down (by rw [hU]; exact hS) hW hAsub (fun q hq => by show α (ρ _) = _; rw [f6 q hq])⟩
    rw [hU]
    have := hP _ _ (f1 j e0 hj)
    rw [ce_ce] at this
    exact this
  · intro v' st₀ t L e0 hq hL
    obtain ⟨q1, q2, q3, q4, q5⟩ := hq
    dsimp only at q1 q2 q3
    have hv' : v' = v.map (cv α) := by
      have := Outcome.returned.inj q1
      rw [this, hv]
      cases v0 with
      | none => rfl
      | some x => exact congrArg some (cv_cv α ρ x).symm
    rw [e0] at q4 q5
    have hP1 : HP D κ α (cellOf w' rg') t.heap := by
      intro k x hk
      rcases f5 k x hk with ⟨j, x0, hj, rfl, hj2, rfl⟩ | ⟨hk1, hk2⟩
      · have := q2 j x0 hj2
        rw [ce_ce]
        exact this
      · have hlt := (hP k x hk1).lt
        refine (hP k x hk1).kept (q5 _ hlt fun hz2 => ?_)
        rcases hz2 with ⟨j, hj, e1⟩ | hz2
        · have hj1 : pDm w1.length rg0.1 j := by
            rcases hj with z | z
            · exact Or.inl (by omega)
            · exact Or.inr z
          refine hk2 j hj1 (hin _ _ (dm j hj1) ?_ e1.symm)
          rcases cellOf_dom hk1 with z | z
          · exact Or.inl (by omega)
          · exact Or.inr (by rw [hr] at z; exact z)
        · have : (α k, ce κ α x).1 < H.size := hlt
          exact absurd hz2 (Nat.not_le.mpr this)
    have hS1 : va_S A s.heap t.heap (locs ++ L) := ⟨Nat.le_trans hS.1 q4, fun q z1 z2 => by rw [q5 q (Nat.lt_of_lt_of_le z1 hS.1) (fun z => z2 (hAsub q z))]; exact hS.2.1 q z1 z2, fun q hq => by
      rcases List.mem_append.mp hq with z | z
      · exact hS.2.2 q z
      · exact hAsub _ (hL q z)⟩
    have g := kk t.heap (locs ++ L) hP1 (by rw [q3, f7, hz]; omega) (by omega) (by rw [f8, hr]) hS1
    rw [hv']
    have e1 : w.length - L0 + (w1.length - w0.length) = w'.length - L0 := by omega
    have e2 : 1000 * (w.length - L0) + 1000 * (w1.length - w0.length) = 1000 * (w'.length - L0) := by omega
    rw [e1, e2]
    exact g
end CC
theorem pFOK_fz {l : Launch} {y : MethodName} {ws : List Cond} {rm : Room} {F : pF} (h : pFOK l y ws rm F) : pFOK l y ws rm (fz F) := h
end
end
section
noncomputable section
/-! CALLS BY THEIR INSTRUCTIONS -/
/-- a step that is a call of n values with the answer F, up to cap cells -/
def pIsCall (cap n : Nat) (F : pF) (en : pEn) : Prop := ∀ (ls : pLs) (st : pSt) (w : pWd) (rg : pRg) (k : pK) (j : Nat → pK) (out : pOut), en ls st w rg k j = some out →
  ∃ as rest v w' rg', st = as.reverse ++ rest ∧ as.length = n ∧ rest.length < 5 ∧ F as w rg = some (v, w', rg') ∧ (w'.length ≤ w.length ∨ w'.length ≤ cap) ∧ k ls (v.toList ++ rest) w' rg' = some out
theorem oCall_is (cap n : Nat) (F : pF) : pIsCall cap n F (oCall n F) := by
  intro ls st w rg k j out h
  obtain ⟨as, rest, h1, h2, h3⟩ := popK_some h
  rw [List.append_nil] at h3
  split at h3
  next hlt =>
    unfold callK at h3
    split at h3
    next v w' rg' hf =>
      split at h3
      next hle =>
        refine ⟨as, rest, v, w', rg', h1, h2, blt_lt hlt, hf, Or.inl (Nat.le_of_eq (Nat.eq_of_beq_eq_true hle)), ?_⟩
        split at h3
        next u => exact h3
        next => exact h3
      next => cases h3
    next => cases h3
  next => cases h3
theorem oCallZ_is (cap n : Nat) (F : pF) : pIsCall cap n F (oCallZ n F) := by
  have e : oCallZ n F = oCall n F := by
    funext ls st w rg k j
    unfold oCallZ oCall
    congr 1
    funext args rest
    split
    · exact callZ_eq _ _ _ _ _
    · rfl
  rw [e]; exact oCall_is cap n F
theorem oCallA_is (cap n : Nat) (F : pF) : pIsCall cap n F (oCallA n cap F) := by
  intro ls st w rg k j out h
  obtain ⟨as, rest, h1, h2, h3⟩ := popK_some h
  rw [List.append_nil] at h3
  split at h3
  next hlt =>
    split at h3
    next v w' rg' hf =>
      split at h3
      next hle =>
        refine ⟨as, rest, v, w', rg', h1, h2, blt_lt hlt, hf, Or.inr (Nat.le_of_ble_eq_true hle), ?_⟩
        split at h3
        next u => exact h3
        next => exact h3
      next => cases h3
    next => cases h3
  next => cases h3
theorem pWA_ok {w : Cond} (h : w ∈ pWA) : w ∈ pWA ∧ ((w.onTables && w.keeps) = true ∨ ∃ ty, w = .arrayClass ty) := ⟨h, good_of_word (pWA_good h)⟩
theorem goodPs {y : MethodName} {cc : ByteArray} {nL : Nat} {ret : Option FieldType} (h : Cond.code y cc nL ret ∈ pWA) : GoodIn pWA (pWs y cc nL ret) := fun w hw => (List.mem_cons.mp hw).elim (fun e => by rw [e]; exact pWA_ok h) pWA_ok
section CI
variable {l : Launch} {R : Room} {cc : ByteArray} {own : String} {nL cap : Nat} {ret : Option FieldType} {pcOf : Nat → Nat} {i : Nat}
variable {n0 idx : Nat} {y : MethodName} {bytes : ByteArray} {maxL : Nat} {rt : Option FieldType} {rm : Room} {F : pF} {en : pEn}
abbrev pPlain (y : MethodName) (n0 : Nat) : Prop := y.cls ≠ "java/lang/invoke/MethodHandle" ∧ y.cls ≠ "java/lang/invoke/VarHandle" ∧ (parseMethodDescriptor y.desc).map (fun d => d.parameters.length) = some n0
/-- the receiver is an object of the class ci -/
def pRcv (ci : Nat) (F : pF) : Prop := ∀ (as : List Value) (w : pWd) (rg : pRg) (o : pOut), F as w rg = some o → ∃ a as' fs, as = .ref a :: as' ∧ cellOf w rg a = some (.inr (ci, fs))
theorem pRcv_fz {ci : Nat} {F : pF} (h : pRcv ci F) : pRcv ci (fz F) := h
theorem st_conc (α : Nat → Nat) (as : List Value) (rest : pSt) : (as.reverse ++ rest).map (cv α) = (as.map (cv α)).reverse ++ rest.map (cv α) := by rw [List.map_append, List.map_reverse]
theorem st_ret (α : Nat → Nat) (v : Option Value) (rest : pSt) : (v.toList ++ rest).map (cv α) = (v.map (cv α)).toList ++ rest.map (cv α) := by cases v <;> rfl
theorem okCallV {ci N : Nat} {T : u_T} (hen : pIsCall cap (n0 + 1) F en) (hd : decode cc (pcOf i) = .ok (.invokevirtual idx, 3)) (hp : pcOf (i + 1) = pcOf i + 3) (hF : pFOK l y (pWs y bytes maxL rt) rm F) (hrc : pRcv ci F) (hc : vwCl[ci]? = some (y.cls, T, N))
    (w1 : Cond.methodLink own idx y ∈ pWA) (w2 : Cond.instanceMethod y ∈ pWA) (w3 : Cond.selects y.cls y y ∈ pWA) (w4 : Cond.initialized y.cls ∈ pWA) (w5 : Cond.code y bytes maxL rt ∈ pWA) (hd2 : pPlain y n0) (hR : rm.frames + 1 ≤ R.frames ∧ 8 + (maxL + 11) + rm.locals ≤ R.locals) : EOK l cc own nL ret R cap pcOf i en := by
  intro p e s m args below meth c D κ α A sz L0 Lm r Qc out C hRt ls st w rg k j h hk hj H locs lsA hP hz h0 h1 hr hS hl
  obtain ⟨hx, hb, hml, hown, hts, hret, hlk, hKE, hA, hin, hAk, hfr, hLm, hcc, hcs, hcap⟩ := id C
  obtain ⟨as, rest, v, w', rg', e1, e2, e3, e4, e5, e6⟩ := hen _ _ _ _ _ _ _ h
  subst e1
  rw [st_conc]
  obtain ⟨a, as', fs, rfl, hcell⟩ := hrc _ _ _ _ e4
  have hg : GoodIn pWA (wsV own idx y.cls y (pWs y bytes maxL rt)) := fun w hw => by
    rcases List.mem_append.mp hw with q | q
    · simp only [List.mem_cons, List.not_mem_nil, or_false] at q
      rcases q with rfl | rfl | rfl | rfl
      · exact pWA_ok w1
      · exact pWA_ok w2
      · exact pWA_ok w3
      · exact pWA_ok w4
    · exact goodPs w5 w q
  refine call_core C hF e4 (by omega) hP hz h0 h1 hr hS (fun Pc Qc mc ms free hM hrc2 hrs hpre hf => ?_) (fun H1 locs1 hP1 hz1 h01 hr1 hS1 => ?_)
  · have hrecv := va_recv hKE.1 (va_one (hP a _ hcell)) hc (q0 := 0) rfl
    refine va_runV (C := y.cls) (As := as'.map (cv α)) ⟨hx, hb, hml, hown, hts⟩ hM (cwV n0 hts hg rfl hrc2 hrs ⟨rfl, hd2⟩ hR) ⟨hpre.1, hrecv, hpre.2⟩ rfl (by simp at e2 ⊢; exact e2) hl.1 (by simp [cv]) (lv_room (st_sum e3)) hd hf
  · have g := hk _ _ _ _ e6 H1 locs1 lsA hP1 hz1 h01 (by omega) hr1 hS1 hl
    rw [hp, st_ret] at g
    exact g
theorem okCallS (hen : pIsCall cap n0 F en) (hd : decode cc (pcOf i) = .ok (.invokestatic idx, 3)) (hp : pcOf (i + 1) = pcOf i + 3) (hF : pFOK l y (pWs y bytes maxL rt) rm F)
    (w1 : Cond.methodLink own idx y ∈ pWA) (w2 : Cond.static y ∈ pWA) (w4 : Cond.initialized y.cls ∈ pWA) (w5 : Cond.code y bytes maxL rt ∈ pWA) (hd2 : pPlain y n0) (hR : rm.frames + 1 ≤ R.frames ∧ 8 + (maxL + 11) + rm.locals ≤ R.locals) : EOK l cc own nL ret R cap pcOf i en := by
  intro p e s m args below meth c D κ α A sz L0 Lm r Qc out C hRt ls st w rg k j h hk hj H locs lsA hP hz h0 h1 hr hS hl
  obtain ⟨hx, hb, hml, hown, hts, hret, hlk, hKE, hA, hin, hAk, hfr, hLm, hcc, hcs, hcap⟩ := id C
  obtain ⟨as, rest, v, w', rg', e1, e2, e3, e4, e5, e6⟩ := hen _ _ _ _ _ _ _ h
  subst e1
  rw [st_conc]
  have hg : GoodIn pWA (va_wsS own idx y (pWs y bytes maxL rt)) := fun w hw => by
    rcases List.mem_append.mp hw with q | q
    · simp only [List.mem_cons, List.not_mem_nil, or_false] at q
      rcases q with rfl | rfl | rfl
      · exact pWA_ok w1
      · exact pWA_ok w2
      · exact pWA_ok w4
    · exact goodPs w5 w q
  refine call_core C hF e4 (by omega) hP hz h0 h1 hr hS (fun Pc Qc mc ms free hM hrc2 hrs hpre hf => ?_) (fun H1 locs1 hP1 hz1 h01 hr1 hS1 => ?_)
  · exact va_runS (As := as.map (cv α)) ⟨hx, hb, hml, hown, hts⟩ hM (va_cwS n0 hts hg rfl hrc2 hrs hd2 hR) hpre rfl (by rw [List.length_map]; exact e2) hl.1 rfl (lv_room (st_sum e3)) hd hf
  · have g := hk _ _ _ _ e6 H1 locs1 lsA hP1 hz1 h01 (by omega) hr1 hS1 hl
    rw [hp, st_ret] at g
    exact g
theorem okCallSN {host : String} (hen : pIsCall cap n0 F en) (hd : decode cc (pcOf i) = .ok (.invokestatic idx, 3)) (hp : pcOf (i + 1) = pcOf i + 3) (hF : pFOK l y (pWs y bytes maxL rt) rm F)
    (w1 : Cond.methodLinkNest own idx y host ∈ nestW) (w2 : Cond.static y ∈ pWA) (w4 : Cond.initialized y.cls ∈ pWA) (w5 : Cond.code y bytes maxL rt ∈ pWA) (hd2 : pPlain y n0) (hR : rm.frames + 1 ≤ R.frames ∧ 8 + (maxL + 11) + rm.locals ≤ R.locals) : EOK l cc own nL ret R cap pcOf i en := by
  intro p e s m args below meth c D κ α A sz L0 Lm r Qc out C hRt ls st w rg k j h hk hj H locs lsA hP hz h0 h1 hr hS hl
  obtain ⟨hx, hb, hml, hown, hts, hret, hlk, hKE, hA, hin, hAk, hfr, hLm, hcc, hcs, hcap⟩ := id C
  obtain ⟨as, rest, v, w', rg', e1, e2, e3, e4, e5, e6⟩ := hen _ _ _ _ _ _ _ h
  subst e1
  rw [st_conc]
  refine call_core C hF e4 (by omega) hP hz h0 h1 hr hS (fun Pc Qc mc ms free hM hrc2 hrs hpre hf => ?_) (fun H1 locs1 hP1 hz1 h01 hr1 hS1 => ?_)
  · exact va_runSN (As := as.map (cv α)) (host := host) ⟨hx, hb, hml, hown, hts⟩ hM ⟨va_cnB n0 hts (goodPs w5) rfl hrc2 hrs (hKE.2.1 _ w1) (hts _ w4) hd2 hR, hts _ w2, trivial⟩ hpre rfl (by rw [List.length_map]; exact e2) hl.1 rfl (lv_room (st_sum e3)) hd hf
  · have g := hk _ _ _ _ e6 H1 locs1 lsA hP1 hz1 h01 (by omega) hr1 hS1 hl
    rw [hp, st_ret] at g
    exact g
/-- invokespecial of a constructor -/
theorem okCallI (hen : pIsCall cap (n0 + 1) F en) (hd : decode cc (pcOf i) = .ok (.invokespecial idx, 3)) (hp : pcOf (i + 1) = pcOf i + 3) (hF : pFOK l y (pWs y bytes maxL none) rm F) (hra : ∀ as w rg o, F as w rg = some o → ∃ a as', as = .ref a :: as')
    (w1 : Cond.methodLink own idx y ∈ pWA) (w2 : Cond.instanceMethod y ∈ pWA) (w4 : Cond.initialized y.cls ∈ pWA) (w5 : Cond.code y bytes maxL none ∈ pWA) (hy1 : y.name = "<init>") (hd2 : pPlain y n0) (hR : rm.frames + 1 ≤ R.frames ∧ 8 + (maxL + 11) + rm.locals ≤ R.locals) : EOK l cc own nL ret R cap pcOf i en := by
  intro p e s m args below meth c D κ α A sz L0 Lm r Qc out C hRt ls st w rg k j h hk hj H locs lsA hP hz h0 h1 hr hS hl
  obtain ⟨hx, hb, hml, hown, hts, hret, hlk, hKE, hA, hin, hAk, hfr, hLm, hcc, hcs, hcap⟩ := id C
  obtain ⟨as, rest, v, w', rg', e1, e2, e3, e4, e5, e6⟩ := hen _ _ _ _ _ _ _ h
  subst e1
  rw [st_conc]
  obtain ⟨a, as', rfl⟩ := hra _ _ _ _ e4
  refine call_core C hF e4 (by omega) hP hz h0 h1 hr hS (fun Pc Qc mc ms free hM hrc2 hrs hpre hf => ?_) (fun H1 locs1 hP1 hz1 h01 hr1 hS1 => ?_)
  · exact va_runI (As := as'.map (cv α)) (b := α a) ⟨hx, hb, hml, hown, hts⟩ hM (cwI n0 hts (goodPs w5) rfl hrc2 hrs (hts _ w4) (hts _ w1) (hts _ w2) hy1 hd2 hR) hpre rfl (by simp at e2 ⊢; exact e2) hl.1 (by simp [cv]) (lv_room (st_sum e3)) hd hf
  · have g := hk _ _ _ _ e6 H1 locs1 lsA hP1 hz1 h01 (by omega) hr1 hS1 hl
    rw [hp, st_ret] at g
    exact g
theorem okCallIN {host : String} (hen : pIsCall cap (n0 + 1) F en) (hd : decode cc (pcOf i) = .ok (.invokespecial idx, 3)) (hp : pcOf (i + 1) = pcOf i + 3) (hF : pFOK l y (pWs y bytes maxL none) rm F) (hra : ∀ as w rg o, F as w rg = some o → ∃ a as', as = .ref a :: as')
    (w1 : Cond.methodLinkNest own idx y host ∈ nestW) (w2 : Cond.instanceMethod y ∈ pWA) (w4 : Cond.initialized y.cls ∈ pWA) (w5 : Cond.code y bytes maxL none ∈ pWA) (hy1 : y.name = "<init>") (hd2 : pPlain y n0) (hR : rm.frames + 1 ≤ R.frames ∧ 8 + (maxL + 11) + rm.locals ≤ R.locals) : EOK l cc own nL ret R cap pcOf i en := by
  intro p e s m args below meth c D κ α A sz L0 Lm r Qc out C hRt ls st w rg k j h hk hj H locs lsA hP hz h0 h1 hr hS hl
  obtain ⟨hx, hb, hml, hown, hts, hret, hlk, hKE, hA, hin, hAk, hfr, hLm, hcc, hcs, hcap⟩ := id C
  obtain ⟨as, rest, v, w', rg', e1, e2, e3, e4, e5, e6⟩ := hen _ _ _ _ _ _ _ h
  subst e1
  rw [st_conc]
  obtain ⟨a, as', rfl⟩ := hra _ _ _ _ e4
  refine call_core C hF e4 (by omega) hP hz h0 h1 hr hS (fun Pc Qc mc ms free hM hrc2 hrs hpre hf => ?_) (fun H1 locs1 hP1 hz1 h01 hr1 hS1 => ?_)
  · exact va_runIN (As := as'.map (cv α)) (b := α a) (host := host) ⟨hx, hb, hml, hown, hts⟩ hM ⟨va_cnB n0 hts (goodPs w5) rfl hrc2 hrs (hKE.2.1 _ w1) (hts _ w4) hd2 hR, hy1, hts _ w2⟩ hpre rfl (by simp at e2 ⊢; exact e2) hl.1 (by simp [cv]) (lv_room (st_sum e3)) hd hf
  · have g := hk _ _ _ _ e6 H1 locs1 lsA hP1 hz1 h01 (by omega) hr1 hS1 hl
    rw [hp, st_ret] at g
    exact g
end CI
end
end
section
noncomputable section
/-! FRAMES: a callee is handed the cells that its arguments reach; what it leaves is put back -/
def rg00 : pRg := (0, fun _ _ _ => 0)
def nats : List Nat := [0, 1, 2, 3, 4, 5, 6, 7, 8, 9, 10, 11, 12, 13, 14, 15, 16, 17, 18, 19, 20, 21, 22, 23, 24, 25, 26, 27, 28, 29, 30, 31, 32, 33, 34, 35, 36, 37, 38, 39, 40, 41, 42, 43, 44, 45, 46, 47, 48, 49, 50, 51, 52, 53, 54, 55, 56, 57, 58, 59, 60, 61, 62, 63]
def lk {X : Type} : List (Nat × Nat) → Nat → (Nat → Option X) → Option X
  | [], _, _ => none
  | q :: t, p, c => match Nat.beq q.1 p with
    | true => c q.2
    | false => lk t p c
def rnV {X : Type} (t : List (Nat × Nat)) (v : Value) (c : Value → Option X) : Option X := match v with
  | .ref p => match Nat.ble 1000000 p with
    | true => c (.ref p)
    | false => lk t p (fun j => c (.ref j))
  | .int x => c (.int x)
  | .null => c .null
  | _ => none
def rnL {X : Type} (t : List (Nat × Nat)) : List Value → (List Value → Option X) → Option X
  | [], c => c []
  | v :: l, c => rnV t v (fun v' => rnL t l (fun l' => c (v' :: l')))
def rnE {X : Type} (t : List (Nat × Nat)) (e : va_E) (c : va_E → Option X) : Option X := match e with
  | .inr (i, fs) => rnL t fs (fun fs' => c (.inr (i, fs')))
  | .inl (k, n, .inl f) => c (.inl (k, n, .inl f))
  | _ => none
def rnW {X : Type} (t : List (Nat × Nat)) : pWd → (pWd → Option X) → Option X
  | [], c => c []
  | e :: w, c => rnE t e (fun e' => rnW t w (fun w' => c (e' :: w')))
def zipK {X : Type} : List Nat → List Nat → (List (Nat × Nat) → X) → X
  | a :: l, b :: m, c => zipK l m (fun t => c ((a, b) :: t))
  | _, _, c => c []
def getsK {X : Type} (w : pWd) : List Nat → (pWd → Option X) → Option X
  | [], c => c []
  | p :: π, c => match wget w p with
    | some e => getsK w π (fun w' => c (e :: w'))
    | none => none
def scatK {X : Type} : pWd → List Nat → pWd → (pWd → X) → X
  | w, p :: π, e :: es, c => wsetK w p e (fun w' => scatK w' π es c)
  | w, _, _, c => c w
def memB : Nat → List Nat → Bool
  | _, [] => false
  | a, b :: l => match Nat.beq a b with
    | true => true
    | false => memB a l
def ndB : List Nat → Bool
  | [] => true
  | a :: l => match memB a l with
    | true => false
    | false => ndB l
/-- the references of values that are no constants -/
def refsK {X : Type} : List Value → (List Nat → X) → X
  | [], c => c []
  | .ref p :: l, c => match Nat.ble 1000000 p with
    | true => refsK l c
    | false => refsK l (fun r => c (p :: r))
  | _ :: l, c => refsK l c
def appK {X : Type} : List Nat → List Nat → (List Nat → X) → X
  | [], m, c => c m
  | a :: l, m, c => appK l m (fun r => c (a :: r))
/-- the places that are reached, each once, in the order of the fields (acc: those found, the last first) -/
def reachK {X : Type} (w : pWd) : Nat → List Nat → List Nat → (List Nat → Option X) → Option X
  | 0, _, _, _ => none
  | _ + 1, [], acc, c => appK [] acc c
  | n + 1, p :: ps, acc, c => match memB p acc with
    | true => reachK w n ps acc c
    | false => match wget w p with
      | some (.inr (_, fs)) => refsK fs (fun r => appK r ps (fun ps' => appK acc [p] (fun acc' => reachK w n ps' acc' c)))
      | some (.inl _) => appK acc [p] (fun acc' => reachK w n ps acc' c)
      | none => none
abbrev pG : Type := List Value → pWd → Option (Option Value × pWd)
def rnO {X : Type} (t : List (Nat × Nat)) (v : Option Value) (c : Option Value → Option X) : Option X := match v with
  | none => c none
  | some u => rnV t u (fun u' => c (some u'))
def frN (G : pG) : pF := fun args w rg => refsK args (fun r => reachK w 60 r [] (fun π => match ndB π with
  | false => none
  | true => getsK w π (fun cells => zipK π nats (fun t => rnL t args (fun args0 => rnW t cells (fun w0 => match G args0 w0 with
    | none => none
    | some (v0, w1) => match Nat.beq w1.length w0.length with
      | false => none
      | true => zipK nats π (fun t' => rnW t' w1 (fun w1' => rnO t' v0 (fun v => scatK w π w1' (fun w' => some (v, w', rg)))))))))))
theorem lk_some {X : Type} : ∀ {t : List (Nat × Nat)} {p : Nat} {c : Nat → Option X} {o : X}, lk t p c = some o → ∃ j, (p, j) ∈ t ∧ c j = some o
  | [], _, _, _, h => by cases h
  | q :: t, p, c, o, h => by
    unfold lk at h
    split at h
    next hb =>
      have := Nat.eq_of_beq_eq_true hb
      exact ⟨q.2, by rw [← this]; exact List.mem_cons_self, h⟩
    next =>
      obtain ⟨j, h1, h2⟩ := lk_some h
      exact ⟨j, List.mem_cons_of_mem _ h1, h2⟩
section RN
variable {X : Type} {ρ : Nat → Nat} {t : List (Nat × Nat)}
theorem rnV_some (h1 : ∀ q ∈ t, ρ q.2 = q.1) (h2 : ∀ k, 1000000 ≤ k → ρ k = k) {v : Value} {c : Value → Option X} {o : X} (h : rnV t v c = some o) : ∃ v0, cv ρ v0 = v ∧ c v0 = some o := by
  unfold rnV at h
  split at h
  next p =>
    split at h
    next hb => exact ⟨.ref p, by show Value.ref (ρ p) = _; rw [h2 p (Nat.le_of_ble_eq_true hb)], h⟩
    next =>
      obtain ⟨j, k1, k2⟩ := lk_some h
      exact ⟨.ref j, by show Value.ref (ρ j) = _; rw [h1 _ k1], k2⟩
  next x => exact ⟨.int x, rfl, h⟩
  next => exact ⟨.null, rfl, h⟩
  next => cases h
theorem rnL_some (h1 : ∀ q ∈ t, ρ q.2 = q.1) (h2 : ∀ k, 1000000 ≤ k → ρ k = k) : ∀ {l : List Value} {c : List Value → Option X} {o : X}, rnL t l c = some o → ∃ l0, l0.map (cv ρ) = l ∧ c l0 = some o
  | [], c, o, h => ⟨[], rfl, h⟩
  | v :: l, c, o, h => by
    obtain ⟨v0, k1, k2⟩ := rnV_some h1 h2 h
    obtain ⟨l0, k3, k4⟩ := rnL_some h1 h2 k2
    exact ⟨v0 :: l0, by rw [List.map_cons, k1, k3], k4⟩
theorem rnE_some (h1 : ∀ q ∈ t, ρ q.2 = q.1) (h2 : ∀ k, 1000000 ≤ k → ρ k = k) {x : va_E} {c : va_E → Option X} {o : X} (h : rnE t x c = some o) : ∃ x0, re ρ x0 = x ∧ c x0 = some o := by
  unfold rnE at h
  split at h
  next i fs =>
    obtain ⟨l0, k1, k2⟩ := rnL_some h1 h2 h
    exact ⟨.inr (i, l0), by show Sum.inr (i, l0.map (cv ρ)) = _; rw [k1], k2⟩
  next k n f => exact ⟨.inl (k, n, .inl f), rfl, h⟩
  next => cases h
theorem rnW_some (h1 : ∀ q ∈ t, ρ q.2 = q.1) (h2 : ∀ k, 1000000 ≤ k → ρ k = k) : ∀ {l : pWd} {c : pWd → Option X} {o : X}, rnW t l c = some o → ∃ l0, l0.map (re ρ) = l ∧ c l0 = some o
  | [], c, o, h => ⟨[], rfl, h⟩
  | v :: l, c, o, h => by
    obtain ⟨v0, k1, k2⟩ := rnE_some h1 h2 h
    obtain ⟨l0, k3, k4⟩ := rnW_some h1 h2 k2
    exact ⟨v0 :: l0, by rw [List.map_cons, k1, k3], k4⟩
theorem rnV_back (h1 : ∀ q ∈ t, ρ q.1 = q.2) (h2 : ∀ k, 1000000 ≤ k → ρ k = k) {v : Value} {c : Value → Option X} {o : X} (h : rnV t v c = some o) : c (cv ρ v) = some o := by
  unfold rnV at h
  split at h
  next p =>
    split at h
    next hb => show c (.ref (ρ p)) = _; rw [h2 p (Nat.le_of_ble_eq_true hb)]; exact h
    next =>
      obtain ⟨j, k1, k2⟩ := lk_some h
      show c (.ref (ρ p)) = _
      rw [h1 _ k1]; exact k2
  next x => exact h
  next => exact h
  next => cases h
theorem rnL_back (h1 : ∀ q ∈ t, ρ q.1 = q.2) (h2 : ∀ k, 1000000 ≤ k → ρ k = k) : ∀ {l : List Value} {c : List Value → Option X} {o : X}, rnL t l c = some o → c (l.map (cv ρ)) = some o
  | [], c, o, h => h
  | v :: l, c, o, h => by
    have k2 := rnV_back h1 h2 h
    exact rnL_back (l := l) (c := fun l' => c (cv ρ v :: l')) h1 h2 k2
theorem rnE_back (h1 : ∀ q ∈ t, ρ q.1 = q.2) (h2 : ∀ k, 1000000 ≤ k → ρ k = k) {x : va_E} {c : va_E → Option X} {o : X} (h : rnE t x c = some o) : c (re ρ x) = some o := by
  unfold rnE at h
  split at h
  next i fs => exact rnL_back h1 h2 h
  next k n f => exact h
  next => cases h
theorem rnW_back (h1 : ∀ q ∈ t, ρ q.1 = q.2) (h2 : ∀ k, 1000000 ≤ k → ρ k = k) : ∀ {l : pWd} {c : pWd → Option X} {o : X}, rnW t l c = some o → c (l.map (re ρ)) = some o
  | [], c, o, h => h
  | v :: l, c, o, h => by
    have k2 := rnE_back h1 h2 h
    exact rnW_back (l := l) (c := fun l' => c (re ρ v :: l')) h1 h2 k2
theorem rnO_back (h1 : ∀ q ∈ t, ρ q.1 = q.2) (h2 : ∀ k, 1000000 ≤ k → ρ k = k) {v : Option Value} {c : Option Value → Option X} {o : X} (h : rnO t v c = some o) : c (v.map (cv ρ)) = some o := by
  unfold rnO at h
  split at h
  next => exact h
  next u => exact rnV_back h1 h2 h
end RN
theorem zipK_eq {X : Type} : ∀ (l m : List Nat) (c : List (Nat × Nat) → X), zipK l m c = c (l.zip m)
  | [], _, _ => by unfold zipK; rfl
  | _ :: _, [], _ => by unfold zipK; rfl
  | a :: l, b :: m, c => by
    show zipK l m (fun t => c ((a, b) :: t)) = _
    rw [zipK_eq l m]; rfl
theorem getsK_some {X : Type} {w : pWd} : ∀ {π : List Nat} {c : pWd → Option X} {o : X}, getsK w π c = some o → ∃ cells, cells.length = π.length ∧ (∀ j x, wget cells j = some x → ∃ p, π[j]? = some p ∧ wget w p = some x) ∧ c cells = some o
  | [], c, o, h => ⟨[], rfl, fun j x hx => (by cases hx), h⟩
  | p :: π, c, o, h => by
    unfold getsK at h
    split at h
    next x hx =>
      obtain ⟨cells, k1, k2, k3⟩ := getsK_some h
      refine ⟨x :: cells, by simp [k1], fun j y hy => ?_, k3⟩
      cases j with
      | zero => exact ⟨p, rfl, by rw [hx]; exact hy⟩
      | succ j =>
        obtain ⟨q, z1, z2⟩ := k2 j y hy
        exact ⟨q, by simpa using z1, z2⟩
    next => cases h
def scat (w : pWd) (π : List Nat) (es : pWd) : pWd := scatK w π es (fun w' => w')
theorem scatK_eq {X : Type} : ∀ (w : pWd) (π : List Nat) (es : pWd) (c : pWd → X), scatK w π es c = c (scat w π es)
  | w, [], _, c => by unfold scat scatK; rfl
  | w, _ :: _, [], c => by unfold scat scatK; rfl
  | w, p :: π, x :: es, c => by
    show wsetK w p x (fun w' => scatK w' π es c) = c (wsetK w p x (fun w' => scatK w' π es (fun w' => w')))
    rw [wsetK_eq, wsetK_eq, scatK_eq _ π es c]
    rfl
theorem scat_cons (w : pWd) (p : Nat) (π : List Nat) (x : va_E) (es : pWd) : scat w (p :: π) (x :: es) = scat (wset w p x) π es := by
  show wsetK w p x (fun w' => scatK w' π es (fun w' => w')) = _
  rw [wsetK_eq]; rfl
theorem memB_mem : ∀ {a : Nat} {l : List Nat}, memB a l = false → a ∉ l
  | _, [], _ => List.not_mem_nil
  | a, b :: l, h => by
    unfold memB at h
    split at h
    next => cases h
    next hb =>
      intro hm
      rcases List.mem_cons.mp hm with rfl | hm
      · rw [Nat.beq_refl] at hb; cases hb
      · exact memB_mem h hm
theorem ndB_nd : ∀ {l : List Nat}, ndB l = true → l.Nodup
  | [], _ => List.nodup_nil
  | a :: l, h => by
    unfold ndB at h
    split at h
    next => cases h
    next hb => exact List.nodup_cons.mpr ⟨memB_mem hb, ndB_nd h⟩
theorem scat_spec : ∀ (π : List Nat) (w es : pWd), π.length = es.length → π.Nodup → (∀ p ∈ π, p < w.length) →
    (scat w π es).length = w.length ∧ (∀ j p x, π[j]? = some p → wget es j = some x → wget (scat w π es) p = some x) ∧ (∀ k, k ∉ π → wget (scat w π es) k = wget w k)
  | [], w, es, _, _, _ => by
    have : scat w [] es = w := by unfold scat scatK; rfl
    rw [this]
    exact ⟨rfl, fun j p x h _ => by simp at h, fun k _ => rfl⟩
  | p0 :: π, w, [], h, _, _ => by simp at h
  | p0 :: π, w, x0 :: es, h, hn, hl => by
    rw [scat_cons]
    obtain ⟨hn1, hn2⟩ := List.nodup_cons.mp hn
    obtain ⟨k1, k2, k3⟩ := scat_spec π (wset w p0 x0) es (by simpa using h) hn2 (fun p hp => by rw [wset_len]; exact hl p (List.mem_cons_of_mem _ hp))
    obtain ⟨y0, hy0⟩ := wget_ex (hl p0 List.mem_cons_self)
    refine ⟨by rw [k1, wset_len], fun j p x hj hx => ?_, fun k hk => ?_⟩
    · cases j with
      | zero =>
        cases hj
        cases hx
        rw [k3 p0 hn1, wget_wset x0 p0 hy0, if_pos rfl]
      | succ j => exact k2 j p x (by simpa using hj) hx
    · have q1 : k ∉ π := fun z => hk (List.mem_cons_of_mem _ z)
      have q2 : ¬ k = p0 := fun z => hk (by rw [z]; exact List.mem_cons_self)
      rw [k3 k q1, wget_wset x0 k hy0, if_neg q2]
theorem cellOf_00 {w : pWd} {j : Nat} {x : va_E} (h : cellOf w rg00 j = some x) : wget w j = some x := by
  unfold cellOf at h
  split at h
  next y hy => rw [hy]; exact h
  next =>
    unfold rgCell at h
    split at h
    next hh => have : rg00.1 = 0 := rfl; omega
    next => cases h
theorem wget_map {ρ : Nat → Nat} : ∀ {w : pWd} {j : Nat}, wget (w.map (re ρ)) j = (wget w j).map (re ρ)
  | [], _ => rfl
  | _ :: _, 0 => rfl
  | _ :: w, j + 1 => wget_map (w := w) (j := j)
theorem nats_at : ∀ j, j < 64 → nats[j]? = some j := by decide
theorem zip_nats {π : List Nat} (h : π.length ≤ 64) {q : Nat × Nat} (hq : q ∈ π.zip nats) : π[q.2]? = some q.1 := by
  obtain ⟨i, hi⟩ := List.getElem?_of_mem hq
  rw [List.getElem?_zip_eq_some] at hi
  have hl : i < π.length := (List.getElem?_eq_some_iff.mp hi.1).1
  have := nats_at i (by omega)
  rw [this] at hi
  have e := Option.some.inj hi.2
  rw [← e]; exact hi.1
theorem zip_nats' {π : List Nat} (h : π.length ≤ 64) {q : Nat × Nat} (hq : q ∈ nats.zip π) : π[q.1]? = some q.2 := by
  obtain ⟨i, hi⟩ := List.getElem?_of_mem hq
  rw [List.getElem?_zip_eq_some] at hi
  have hl : i < π.length := (List.getElem?_eq_some_iff.mp hi.2).1
  have := nats_at i (by omega)
  rw [this] at hi
  have e := Option.some.inj hi.1
  rw [← e]; exact hi.2
theorem refsK_eq {X : Type} : ∀ (l : List Value) (c : List Nat → X), ∃ r, refsK l c = c r
  | [], c => ⟨[], rfl⟩
  | v :: l, c => by
    cases v with
    | ref p =>
      unfold refsK
      split
      · exact refsK_eq l c
      · obtain ⟨r, hr⟩ := refsK_eq l (fun r => c (p :: r))
        exact ⟨p :: r, hr⟩
    | _ => exact refsK_eq l c
theorem appK_eq {X : Type} : ∀ (l m : List Nat) (c : List Nat → X), appK l m c = c (l ++ m)
  | [], _, _ => rfl
  | a :: l, m, c => by
    show appK l m (fun r => c (a :: r)) = _
    rw [appK_eq l m]; rfl
theorem reachK_some {X : Type} {w : pWd} : ∀ {n : Nat} {ps acc : List Nat} {c : List Nat → Option X} {o : X}, (∀ p ∈ acc, p < w.length) → reachK w n ps acc c = some o → ∃ π, (∀ p ∈ π, p < w.length) ∧ c π = some o
  | 0, _, _, _, _, _, h => by cases h
  | n + 1, [], acc, c, o, ha, h => ⟨acc, ha, h⟩
  | n + 1, p :: ps, acc, c, o, ha, h => by
    unfold reachK at h
    split at h
    next => exact reachK_some ha h
    next =>
      split at h
      next k fs hw =>
        obtain ⟨r, hr⟩ := refsK_eq fs (fun r => appK r ps (fun ps' => appK acc [p] (fun acc' => reachK w n ps' acc' c)))
        rw [hr, appK_eq, appK_eq] at h
        refine reachK_some (fun q hq => ?_) h
        rcases List.mem_append.mp hq with z | z
        · exact ha q z
        · rw [List.mem_singleton.mp z]; exact wget_lt hw
      next hw =>
        rw [appK_eq] at h
        refine reachK_some (fun q hq => ?_) h
        rcases List.mem_append.mp hq with z | z
        · exact ha q z
        · rw [List.mem_singleton.mp z]; exact wget_lt hw
      next => cases h
theorem nd_inj {l : List Nat} (h : l.Nodup) {j j' p : Nat} (h1 : l[j]? = some p) (h2 : l[j']? = some p) : j = j' := by
  obtain ⟨a1, a2⟩ := List.getElem?_eq_some_iff.mp h1
  obtain ⟨b1, b2⟩ := List.getElem?_eq_some_iff.mp h2
  have hp := List.pairwise_iff_getElem.mp h
  rcases Nat.lt_trichotomy j j' with z | z | z
  · exact absurd (a2.trans b2.symm) (hp j j' a1 b1 z)
  · exact z
  · exact absurd (b2.trans a2.symm) (hp j' j b1 a1 z)
/-- a callee that is handed what its arguments reach -/
theorem fr_spec {G : pG} (hs : ∀ args0 w0 v0 w1, G args0 w0 = some (v0, w1) → w0.length ≤ 64) {args : List Value} {w : pWd} {rg : pRg} {v : Option Value} {w' : pWd} {rg' : pRg} (h : frN G args w rg = some (v, w', rg')) :
    ∃ (ρ : Nat → Nat) (args0 : List Value) (w0 : pWd) (v0 : Option Value) (w1 : pWd), G args0 w0 = some (v0, w1) ∧ pFr ρ w rg w0 rg00 w1 rg00 w' rg' ∧ args0.map (cv ρ) = args ∧ v = v0.map (cv ρ) := by
  unfold frN at h
  obtain ⟨r, hr⟩ := refsK_eq args (fun r => reachK w 60 r [] (fun π => match ndB π with
  | false => none
  | true => getsK w π (fun cells => zipK π nats (fun t => rnL t args (fun args0 => rnW t cells (fun w0 => match G args0 w0 with
    | none => none
    | some (v0, w1) => match Nat.beq w1.length w0.length with
      | false => none
      | true => zipK nats π (fun t' => rnW t' w1 (fun w1' => rnO t' v0 (fun v => scatK w π w1' (fun w' => some (v, w', rg)))))))))))
  rw [hr] at h
  obtain ⟨π, hπ, h⟩ := reachK_some (fun p hp => absurd hp List.not_mem_nil) h
  split at h
  next => cases h
  next hnd =>
    have hnd := ndB_nd hnd
    obtain ⟨cells, hc1, hc2, h⟩ := getsK_some h
    rw [zipK_eq] at h
    by_cases hl : π.length ≤ 64
    · have hρ0 : ∃ ρ : Nat → Nat, (∀ j p, π[j]? = some p → ρ j = p) ∧ ∀ k, π.length ≤ k → ρ k = k := by
        refine ⟨fun j => if h : j < π.length then π[j] else j, fun j p hj => ?_, fun k hk => ?_⟩
        · have h1 := (List.getElem?_eq_some_iff.mp hj)
          obtain ⟨h2, h3⟩ := h1
          show (if h : j < π.length then π[j] else j) = p
          rw [dif_pos h2]; exact h3
        · show (if h : k < π.length then π[k] else k) = k
          rw [dif_neg (by omega)]
      obtain ⟨ρ, hρ, hρ2⟩ := hρ0
      have hb : ∀ k, 1000000 ≤ k → ρ k = k := fun k hk => hρ2 k (by omega)
      have ht : ∀ q ∈ π.zip nats, ρ q.2 = q.1 := fun q hq => hρ _ _ (zip_nats hl hq)
      have ht' : ∀ q ∈ nats.zip π, ρ q.1 = q.2 := fun q hq => hρ _ _ (zip_nats' hl hq)
      obtain ⟨args0, ha1, h⟩ := rnL_some ht hb h
      obtain ⟨w0, hw1, h⟩ := rnW_some ht hb h
      split at h
      next => cases h
      next v0 w1 hg =>
        split at h
        next => cases h
        next hlen =>
          have hlen : w1.length = w0.length := Nat.eq_of_beq_eq_true hlen
          rw [zipK_eq] at h
          have h := rnW_back ht' hb h
          have h := rnO_back ht' hb h
          rw [scatK_eq] at h
          cases h
          have hw0 : w0.length = π.length := by
            have := congrArg List.length hw1
            rw [List.length_map] at this
            omega
          obtain ⟨s1, s2, s3⟩ := scat_spec π w (w1.map (re ρ)) (by rw [List.length_map]; omega) hnd hπ
          have hdm : ∀ {n j}, pDm n rg00.1 j → j < n := fun {n j} hj => by
            rcases hj with z | z
            · exact z
            · have : rg00.1 = 0 := rfl
              omega
          have hat : ∀ j, j < π.length → ∃ p, π[j]? = some p ∧ ρ j = p ∧ p < w.length := fun j hj => by
            have h1 : π[j]? = some π[j] := List.getElem?_eq_getElem hj
            exact ⟨π[j], h1, hρ j _ h1, hπ _ (List.getElem_mem hj)⟩
          refine ⟨ρ, args0, w0, v0, w1, hg, ⟨fun j x hj => ?_, fun j j' hj hj' e => ?_, fun j hj => ?_, fun j h1 h2 => by omega, fun k x hk => ?_, fun q hq => hb _ ?_, by rw [s1]; omega, rfl⟩, ha1, rfl⟩
          · have h1 := cellOf_00 hj
            have h2 : wget cells j = some (re ρ x) := by rw [← hw1, wget_map, h1]; rfl
            obtain ⟨p, h3, h4⟩ := hc2 j _ h2
            rw [hρ j p h3]
            exact cellOf_get h4
          · obtain ⟨p, q1, q2, q3⟩ := hat j (by have := hdm hj; omega)
            obtain ⟨p', q1', q2', q3'⟩ := hat j' (by have := hdm hj'; omega)
            rw [q2, q2'] at e
            rw [e] at q1
            exact nd_inj hnd q1 q1'
          · obtain ⟨p, q1, q2, q3⟩ := hat j (by have := hdm hj; omega)
            rw [q2]; exact Or.inl q3
          · by_cases hk0 : k ∈ π
            · obtain ⟨j, hj⟩ := List.getElem?_of_mem hk0
              have hjl : j < w1.length := by have := (List.getElem?_eq_some_iff.mp hj).1; omega
              obtain ⟨x0, hx0⟩ := wget_ex hjl
              have h1 : wget (scat w π (w1.map (re ρ))) k = some (re ρ x0) := s2 j k _ hj (by rw [wget_map, hx0]; rfl)
              rw [cellOf_get h1] at hk
              cases hk
              exact Or.inl ⟨j, x0, Or.inl hjl, (hρ j k hj).symm, cellOf_get hx0, rfl⟩
            · refine Or.inr ⟨?_, fun j hj e => ?_⟩
              · unfold cellOf at hk ⊢
                rw [s3 k hk0] at hk
                exact hk
              · obtain ⟨p, q1, q2, q3⟩ := hat j (by have := hdm hj; omega)
                rw [q2] at e
                rw [e] at q1
                exact hk0 (List.mem_of_getElem? q1)
          · simp only [pStat, List.mem_cons, List.not_mem_nil, or_false] at hq
            rcases hq with rfl | rfl | rfl <;> decide
    · exfalso
      -- the callee's picture is as long as π
      have hρ0 : ∃ ρ : Nat → Nat, (∀ q ∈ π.zip nats, ρ q.2 = q.1) ∧ ∀ k, 1000000 ≤ k → ρ k = k := by
        refine ⟨fun j => if h : j < π.length ∧ j < 64 then π[j]'h.1 else j, fun q hq => ?_, fun k hk => ?_⟩
        · obtain ⟨i, hi⟩ := List.getElem?_of_mem hq
          rw [List.getElem?_zip_eq_some] at hi
          have h1 := (List.getElem?_eq_some_iff.mp hi.1)
          have h2 : i < 64 := (List.getElem?_eq_some_iff.mp hi.2).1
          have h3 := nats_at i h2
          rw [h3] at hi
          have e := Option.some.inj hi.2
          rw [← e]
          obtain ⟨z1, z2⟩ := h1
          show (if h : i < π.length ∧ i < 64 then π[i]'h.1 else i) = _
          rw [dif_pos ⟨z1, h2⟩]; exact z2
        · show (if h : k < π.length ∧ k < 64 then π[k]'h.1 else k) = k
          rw [dif_neg (by omega)]
      obtain ⟨ρ, ht, hb⟩ := hρ0
      obtain ⟨args0, ha1, h⟩ := rnL_some ht hb h
      obtain ⟨w0, hw1, h⟩ := rnW_some ht hb h
      split at h
      next => cases h
      next v0 w1 hg =>
        have h1 := hs _ _ _ _ hg
        have := congrArg List.length hw1
        rw [List.length_map] at this
        omega
theorem pFOK_fr {l : Launch} {y : MethodName} {ws : List Cond} {rm : Room} {G : pG} (hG : ∀ args0 w0 v0 w1, G args0 w0 = some (v0, w1) → pCT l y ws rm args0 w0 rg00 (v0, w1, rg00)) (hs : ∀ args0 w0 v0 w1, G args0 w0 = some (v0, w1) → w0.length ≤ 64) : pFOK l y ws rm (frN G) := by
  intro args w rg v w' rg' h
  obtain ⟨ρ, args0, w0, v0, w1, h1, h2, h3, h4⟩ := fr_spec hs h
  exact ⟨ρ, args0, w0, rg00, v0, w1, rg00, hG _ _ _ _ h1, h2, h3, h4⟩
/-- .. and its receiver -/
theorem pRcv_fr {ci : Nat} {G : pG} (hs : ∀ args0 w0 v0 w1, G args0 w0 = some (v0, w1) → w0.length ≤ 64) (hr : ∀ args0 w0 v0 w1, G args0 w0 = some (v0, w1) → ∃ a as' fs, args0 = .ref a :: as' ∧ wget w0 a = some (.inr (ci, fs))) : pRcv ci (frN G) := by
  intro args w rg o h
  obtain ⟨v, w', rg'⟩ := o
  obtain ⟨ρ, args0, w0, v0, w1, h1, h2, h3, h4⟩ := fr_spec hs h
  obtain ⟨a, as', fs, rfl, hw⟩ := hr _ _ _ _ h1
  exact ⟨ρ a, as'.map (cv ρ), fs.map (cv ρ), h3.symm, h2.1 a _ (cellOf_get hw)⟩
/-- a callee that is handed all -/
theorem cv_id (v : Value) : cv (fun k => k) v = v := by cases v <;> rfl
theorem re_id (x : va_E) : re (fun k => k) x = x := by
  rcases x with ⟨c, n, a⟩ | ⟨i, fs⟩
  · rcases a with f | f | f | f | f <;> try rfl
    show Sum.inl (c, n, Sum.inr (Sum.inr (Sum.inr (Sum.inr (fun i => (f i).map (fun k => k)))))) = _
    have : (fun i => (f i).map (fun k => k)) = f := by funext i; cases f i <;> rfl
    rw [this]
  · show Sum.inr (i, fs.map (cv (fun k => k))) = _
    have : fs.map (cv (fun k => k)) = fs := by
      rw [show fs.map (cv (fun k => k)) = fs.map (fun v => v) from List.map_congr_left fun v _ => cv_id v]
      simp
    rw [this]
theorem pFOK_all {l : Launch} {y : MethodName} {ws : List Cond} {rm : Room} {F : pF} (hF : ∀ args w rg v w' rg', F args w rg = some (v, w', rg') → pCT l y ws rm args w rg (v, w', rg')) : pFOK l y ws rm F := by
  intro args w rg v w' rg' h
  have hc := hF _ _ _ _ _ _ h
  obtain ⟨c1, c2, c3, -⟩ := id hc
  dsimp only at c1 c2 c3
  refine ⟨fun k => k, args, w, rg, v, w', rg', hc, ⟨fun j x hj => by rw [re_id]; exact hj, fun j j' _ _ e => e, fun j hj => hj, fun j h1 h2 => (by show j = _; omega), fun k x hk => Or.inl ⟨k, x, ?_, rfl, hk, (re_id x).symm⟩, fun _ _ => rfl, by omega, c1⟩, ?_, ?_⟩
  · rcases cellOf_dom hk with z | z
    · exact Or.inl z
    · exact Or.inr (by rw [← c1]; exact z)
  · rw [show args.map (cv (fun k => k)) = args.map (fun v => v) from List.map_congr_left fun v _ => cv_id v]
    simp
  · cases v with
    | none => rfl
    | some x => exact congrArg some (cv_id x).symm
def AllOK (P : Nat → pEn → Prop) : Nat → List pEn → Prop
  | _, [] => True
  | b, en :: es => P b en ∧ AllOK P (b + 1) es
theorem allOK_b {P : Nat → pEn → Prop} : ∀ {k : List pEn} {b : Nat}, AllOK P b k → ∀ (i : Nat) (en : pEn), k[i]? = some en → P (b + i) en
  | [], _, _, i, en, h => by simp at h
  | x :: k, b, h, 0, en, he => by
    simp at he
    subst he
    exact h.1
  | x :: k, b, h, i + 1, en, he => by
    have := allOK_b (k := k) (b := b + 1) h.2 i en (by simpa using he)
    rw [show b + (i + 1) = b + 1 + i by omega]
    exact this
theorem allOK_at {P : Nat → pEn → Prop} {k : List pEn} (h : AllOK P 0 k) (i : Nat) (en : pEn) (he : k[i]? = some en) : P i en := by
  have := allOK_b h i en he
  rw [Nat.zero_add] at this
  exact this
/-- F of a callee that is handed all, out of G -/
def faN (G : pG) : pF := fun args w rg => match G args w with
  | some (v, w') => some (v, w', rg)
  | none => none
theorem faN_some {G : pG} {args : List Value} {w : pWd} {rg : pRg} {v : Option Value} {w' : pWd} {rg' : pRg} (h : faN G args w rg = some (v, w', rg')) : G args w = some (v, w') ∧ rg' = rg := by
  unfold faN at h
  split at h
  next a b hg => cases h; exact ⟨hg, rfl⟩
  next => cases h
theorem pFOK_fa {l : Launch} {y : MethodName} {ws : List Cond} {rm : Room} {G : pG} (hG : ∀ args0 w0 v0 w1 rg, G args0 w0 = some (v0, w1) → pCT l y ws rm args0 w0 rg (v0, w1, rg)) : pFOK l y ws rm (faN G) := by
  refine pFOK_all fun args w rg v w' rg' h => ?_
  obtain ⟨h1, rfl⟩ := faN_some h
  exact hG _ _ _ _ _ h1
theorem pRcv_fa {ci : Nat} {G : pG} (hr : ∀ args0 w0 v0 w1, G args0 w0 = some (v0, w1) → ∃ a as' fs, args0 = .ref a :: as' ∧ wget w0 a = some (.inr (ci, fs))) : pRcv ci (faN G) := by
  intro args w rg o h
  obtain ⟨v, w', rg'⟩ := o
  obtain ⟨h1, rfl⟩ := faN_some h
  obtain ⟨a, as', fs, e1, hw⟩ := hr _ _ _ _ h1
  exact ⟨a, as', fs, e1, cellOf_get hw⟩
theorem ex_pos {code : List pEn} {n i : Nat} {ls : pLs} {st : pSt} {w : pWd} {rg : pRg} {o : pOut} (h : ex code n i ls st w rg = some o) : ∃ m, n = m + 1 := by
  cases n with
  | zero => cases h
  | succ m => exact ⟨m, rfl⟩
/-- rows of ints count within their length alone -/
def pEq (x y : va_E) : Prop := x = y ∨ ∃ (c n : Nat) (f g : Nat → Int32), x = .inl (c, n, .inl f) ∧ y = .inl (c, n, .inl g) ∧ ∀ j, j < n → f j = g j
theorem pEq.at {D : va_G} {κ : pKap} {α : Nat → Nat} {x y : va_E} (h : pEq x y) {a : Nat} {H : Heap} (hx : va_at D vwCl (a, ce κ α x) H) : va_at D vwCl (a, ce κ α y) H := by
  rcases h with rfl | ⟨c, n, f, g, rfl, rfl, hj⟩
  · exact hx
  · have e : vp_cell (κ c) (n, .inl f) = vp_cell (κ c) (n, .inl g) := by
      rw [vp_cell_i, vp_cell_i]
      unfold arrV
      congr 2
      funext j
      exact congrArg Value.int (hj j.val j.isLt)
    show H[a]? = some (vp_cell (κ c) (n, .inl g))
    rw [← e]; exact hx
def pWEq (w w' : pWd) : Prop := w'.length = w.length ∧ ∀ k x, wget w' k = some x → ∃ y, wget w k = some y ∧ pEq y x
theorem pWEq.cell {w w' : pWd} (h : pWEq w w') {rg : pRg} {k : Nat} {x : va_E} (hx : cellOf w' rg k = some x) : ∃ y, cellOf w rg k = some y ∧ pEq y x := by
  unfold cellOf at hx ⊢
  split at hx
  next z hz =>
    cases hx
    obtain ⟨y, h1, h2⟩ := h.2 k x hz
    rw [h1]
    exact ⟨y, rfl, h2⟩
  next hz =>
    have : wget w k = none := by
      cases e : wget w k with
      | none => rfl
      | some y =>
        have h1 := wget_lt e
        obtain ⟨z, hz2⟩ := wget_ex (w := w') (k := k) (by rw [h.1]; exact h1)
        rw [hz] at hz2; cases hz2
    rw [this]
    exact ⟨x, hx, Or.inl rfl⟩
theorem pCT_eqv {l : Launch} {y : MethodName} {ws : List Cond} {rm : Room} {args : List Value} {w : pWd} {rg : pRg} {v : Option Value} {w1 w2 : pWd} {rg1 : pRg} (h : pCT l y ws rm args w rg (v, w1, rg1)) (he : pWEq w1 w2) : pCT l y ws rm args w rg (v, w2, rg1) := by
  obtain ⟨c1, c2, c3, c4, c5, c6⟩ := h
  dsimp only at c1 c2 c3 c4 c5 c6
  refine ⟨c1, by dsimp only; rw [he.1]; exact c2, by dsimp only; rw [he.1]; exact c3, by dsimp only; rw [he.1]; exact c4, by dsimp only; rw [he.1]; exact c5, fun D κ α sz hi hf => ?_⟩
  dsimp only at hi hf ⊢
  rw [he.1] at hi hf ⊢
  have := c6 D κ α sz hi hf
  intro p e ha hc hk s m args below hf2 hfit a1 a2
  obtain ⟨k, o, h1, h2, h3, h4, h5⟩ := this p e ha hc hk s m args below hf2 hfit a1 a2
  refine ⟨k, o, h1, h2, h3, ?_, h5⟩
  obtain ⟨q1, q2, q3, q4⟩ := h4
  dsimp only at q1 q2 q3
  refine ⟨q1, fun k x hx => ?_, by dsimp only; rw [he.1]; exact q3, q4⟩
  dsimp only at hx
  obtain ⟨z, z1, z2⟩ := he.cell hx
  exact z2.at (q2 k z z1)
end
end
section
noncomputable section
/-! CHESTS: what a method answers and leaves of one chest -/
theorem ne0_of_pos {x : Int32} (h : 0 < x) : ¬ x.toInt64 = 0 := by
  intro e
  have h1 := Int32.lt_iff_toInt_lt.mp h
  have h2 : x.toInt64.toInt = x.toInt := Int32.toInt_toInt64 x
  rw [e] at h2
  simp at h1 h2
  omega
/-- the fibre in a mass m that is taken of f and g -/
def tkR (f g m : Int32) : Int32 := if 0 < f + g then (m.toInt64 * f.toInt64 / (f + g).toInt64).toInt32 else 0
/-- the water behind it -/
def tkG (f g m : Int32) : Int32 := if 0 < f + g then g - (m - tkR f g m) else g
/-- the fibre that is spilled as a and b are filled in, and what stays -/
def puR (r f g a b : Int32) : Int32 := if f + a + (g + b) - r ≤ 0 then 0 else tkR (f + a) (g + b) (f + a + (g + b) - r)
def puF (r f g a b : Int32) : Int32 := f + a - puR r f g a b
def puG (r f g a b : Int32) : Int32 := if f + a + (g + b) - r ≤ 0 then g + b else tkG (f + a) (g + b) (f + a + (g + b) - r)
def csC (f g : Int32) : Int32 := if f + g ≤ 0 then 0 else f * 1000 / (f + g)
def mnI (x y : Int32) : Int32 := if y < x then y else x
def mxI (x y : Int32) : Int32 := if x < y then y else x
abbrev chW (r f g z : Int32) : pWd := [.inr (1, [.int r, .int f, .int g, .int z])]
theorem dX1_startWith_0 : decode cX1_startWith 0 = .ok (.aload_n 0, 1) := by decide +kernel
theorem dX1_startWith_1 : decode cX1_startWith 1 = .ok (.iload_n 1, 1) := by decide +kernel
theorem dX1_startWith_2 : decode cX1_startWith 2 = .ok (.putfield 7, 3) := by decide +kernel
theorem dX1_startWith_5 : decode cX1_startWith 5 = .ok (.aload_n 0, 1) := by decide +kernel
theorem dX1_startWith_6 : decode cX1_startWith 6 = .ok (.iload_n 2, 1) := by decide +kernel
theorem dX1_startWith_7 : decode cX1_startWith 7 = .ok (.putfield 13, 3) := by decide +kernel
theorem dX1_startWith_10 : decode cX1_startWith 10 = .ok (.aload_n 0, 1) := by decide +kernel
theorem dX1_startWith_11 : decode cX1_startWith 11 = .ok (.iconst 0, 1) := by decide +kernel
theorem dX1_startWith_12 : decode cX1_startWith 12 = .ok (.putfield 16, 3) := by decide +kernel
theorem dX1_startWith_15 : decode cX1_startWith 15 = .ok (.return_, 1) := by decide +kernel
def k_X1_startWith : List pEn := [oAload 0, oIload 1, oPut 1 1, oAload 0, oIload 2, oPut 1 2, oAload 0, oConst (0), oPut 1 3, oVret]
def pc_X1_startWith (i : Nat) : Nat := ([0, 1, 2, 5, 6, 7, 10, 11, 12, 15] : List Nat).getD i 0
abbrev rm_X1_startWith : Room := { frames := 0, cells := 0, slots := 0, locals := 0 }
theorem pl_X1_startWith : pPlain yX1_startWith 2 := by decide +kernel
set_option maxRecDepth 100000 in
set_option maxHeartbeats 4000000 in
theorem ok_k_X1_startWith (l : Launch) : ∀ (i : Nat) (en : pEn), k_X1_startWith[i]? = some en → EOK l cX1_startWith yX1_startWith.cls 3 (none) rm_X1_startWith 0 pc_X1_startWith i en := by
  refine allOK_at ?_
  refine And.intro (okAload_n dX1_startWith_0 rfl rfl) ?_
  refine And.intro (okIload_n dX1_startWith_1 rfl rfl) ?_
  refine And.intro (okPut (C := RX1) (T := TX1) (N := 4) dX1_startWith_2 rfl rfl (by decide) inX1 tyX1_ok nmX1 rfl rfl wm_1_33) ?_
  refine And.intro (okAload_n dX1_startWith_5 rfl rfl) ?_
  refine And.intro (okIload_n dX1_startWith_6 rfl rfl) ?_
  refine And.intro (okPut (C := RX1) (T := TX1) (N := 4) dX1_startWith_7 rfl rfl (by decide) inX1 tyX1_ok nmX1 rfl rfl wm_1_36) ?_
  refine And.intro (okAload_n dX1_startWith_10 rfl rfl) ?_
  refine And.intro (okIconst dX1_startWith_11 rfl (by first | rfl | decide)) ?_
  refine And.intro (okPut (C := RX1) (T := TX1) (N := 4) dX1_startWith_12 rfl rfl (by decide) inX1 tyX1_ok nmX1 rfl rfl wm_1_38) ?_
  refine And.intro (okVret dX1_startWith_15 rfl) ?_
  exact trivial
def G_X1_startWith : pG := fun args w => match args, w with
  | [.ref 0, .int a, .int b], [.inr (1, [.int r, .int f, .int g, .int z])] => some (none, [.inr (1, [.int r, .int a, .int b, .int 0])])
  | _, _ => none
set_option maxHeartbeats 400000 in
set_option maxRecDepth 100000 in
theorem run_X1_startWith (rg : pRg) (r f g z : Int32) (a b : Int32) : ∃ fu, ex k_X1_startWith fu 0 [(0, .ref 0), (1, .int a), (2, .int b)] [] [.inr (1, [.int r, .int f, .int g, .int z])] rg = some (none, [.inr (1, [.int r, .int a, .int b, .int 0])], rg) := by
  refine ⟨40, ?_⟩
  rfl
theorem ct_X1_startWith (l : Launch) : ∀ args0 w0 v0 w1 rg, G_X1_startWith args0 w0 = some (v0, w1) → pCT l yX1_startWith (pWs yX1_startWith cX1_startWith 3 (none)) rm_X1_startWith args0 w0 rg (v0, w1, rg) := by
  intro args0 w0 v0 w1 rg h
  unfold G_X1_startWith at h
  split at h
  next =>
    cases h
    exact met_of_ex (by decide) (ok_k_X1_startWith l) rfl (run_X1_startWith rg _ _ _ _ _ _) (Nat.le_of_ble_eq_true rfl) rfl (Nat.le_refl _) (Nat.le_of_ble_eq_true rfl) (Nat.zero_le _) rfl rfl
  next => cases h
def F_X1_startWith : pF := frN G_X1_startWith
theorem ok_F_X1_startWith (l : Launch) : pFOK l yX1_startWith (pWs yX1_startWith cX1_startWith 3 (none)) rm_X1_startWith F_X1_startWith := pFOK_fr (fun a b c d h => ct_X1_startWith l a b c d rg00 h) (fun a b c d h => by
  unfold G_X1_startWith at h
  split at h
  next => simp
  next => cases h)
theorem rc_F_X1_startWith : pRcv 1 F_X1_startWith := pRcv_fr (fun a b c d h => by
  unfold G_X1_startWith at h
  split at h
  next => simp
  next => cases h) (fun a b c d h => by
  unfold G_X1_startWith at h
  split at h
  next => exact ⟨_, _, _, rfl, rfl⟩
  next => cases h)
theorem dX1_copyFrom_0 : decode cX1_copyFrom 0 = .ok (.aload_n 0, 1) := by decide +kernel
theorem dX1_copyFrom_1 : decode cX1_copyFrom 1 = .ok (.aload_n 1, 1) := by decide +kernel
theorem dX1_copyFrom_2 : decode cX1_copyFrom 2 = .ok (.getfield 7, 3) := by decide +kernel
theorem dX1_copyFrom_5 : decode cX1_copyFrom 5 = .ok (.putfield 7, 3) := by decide +kernel
theorem dX1_copyFrom_8 : decode cX1_copyFrom 8 = .ok (.aload_n 0, 1) := by decide +kernel
theorem dX1_copyFrom_9 : decode cX1_copyFrom 9 = .ok (.aload_n 1, 1) := by decide +kernel
theorem dX1_copyFrom_10 : decode cX1_copyFrom 10 = .ok (.getfield 13, 3) := by decide +kernel
theorem dX1_copyFrom_13 : decode cX1_copyFrom 13 = .ok (.putfield 13, 3) := by decide +kernel
theorem dX1_copyFrom_16 : decode cX1_copyFrom 16 = .ok (.aload_n 0, 1) := by decide +kernel
theorem dX1_copyFrom_17 : decode cX1_copyFrom 17 = .ok (.aload_n 1, 1) := by decide +kernel
theorem dX1_copyFrom_18 : decode cX1_copyFrom 18 = .ok (.getfield 16, 3) := by decide +kernel
theorem dX1_copyFrom_21 : decode cX1_copyFrom 21 = .ok (.putfield 16, 3) := by decide +kernel
theorem dX1_copyFrom_24 : decode cX1_copyFrom 24 = .ok (.return_, 1) := by decide +kernel
def k_X1_copyFrom : List pEn := [oAload 0, oAload 1, oGet 1 1, oPut 1 1, oAload 0, oAload 1, oGet 1 2, oPut 1 2, oAload 0, oAload 1, oGet 1 3, oPut 1 3, oVret]
def pc_X1_copyFrom (i : Nat) : Nat := ([0, 1, 2, 5, 8, 9, 10, 13, 16, 17, 18, 21, 24] : List Nat).getD i 0
abbrev rm_X1_copyFrom : Room := { frames := 0, cells := 0, slots := 0, locals := 0 }
theorem pl_X1_copyFrom : pPlain yX1_copyFrom 1 := by decide +kernel
set_option maxRecDepth 100000 in
set_option maxHeartbeats 4000000 in
theorem ok_k_X1_copyFrom (l : Launch) : ∀ (i : Nat) (en : pEn), k_X1_copyFrom[i]? = some en → EOK l cX1_copyFrom yX1_copyFrom.cls 2 (none) rm_X1_copyFrom 0 pc_X1_copyFrom i en := by
  refine allOK_at ?_
  refine And.intro (okAload_n dX1_copyFrom_0 rfl rfl) ?_
  refine And.intro (okAload_n dX1_copyFrom_1 rfl rfl) ?_
  refine And.intro (okGet (C := RX1) (T := TX1) (N := 4) dX1_copyFrom_2 rfl rfl (by decide) inX1 wm_1_33) ?_
  refine And.intro (okPut (C := RX1) (T := TX1) (N := 4) dX1_copyFrom_5 rfl rfl (by decide) inX1 tyX1_ok nmX1 rfl rfl wm_1_33) ?_
  refine And.intro (okAload_n dX1_copyFrom_8 rfl rfl) ?_
  refine And.intro (okAload_n dX1_copyFrom_9 rfl rfl) ?_
  refine And.intro (okGet (C := RX1) (T := TX1) (N := 4) dX1_copyFrom_10 rfl rfl (by decide) inX1 wm_1_36) ?_
  refine And.intro (okPut (C := RX1) (T := TX1) (N := 4) dX1_copyFrom_13 rfl rfl (by decide) inX1 tyX1_ok nmX1 rfl rfl wm_1_36) ?_
  refine And.intro (okAload_n dX1_copyFrom_16 rfl rfl) ?_
  refine And.intro (okAload_n dX1_copyFrom_17 rfl rfl) ?_
  refine And.intro (okGet (C := RX1) (T := TX1) (N := 4) dX1_copyFrom_18 rfl rfl (by decide) inX1 wm_1_38) ?_
  refine And.intro (okPut (C := RX1) (T := TX1) (N := 4) dX1_copyFrom_21 rfl rfl (by decide) inX1 tyX1_ok nmX1 rfl rfl wm_1_38) ?_
  refine And.intro (okVret dX1_copyFrom_24 rfl) ?_
  exact trivial
def G_X1_copyFrom : pG := fun args w => match args, w with
  | [.ref 0, .ref 1], [.inr (1, [.int r, .int f, .int g, .int z]), .inr (1, [.int r2, .int f2, .int g2, .int z2])] => some (none, [.inr (1, [.int r, .int f2, .int g2, .int z2]), .inr (1, [.int r2, .int f2, .int g2, .int z2])])
  | _, _ => none
set_option maxHeartbeats 400000 in
set_option maxRecDepth 100000 in
theorem run_X1_copyFrom (rg : pRg) (r f g z : Int32) (r2 f2 g2 z2 : Int32) : ∃ fu, ex k_X1_copyFrom fu 0 [(0, .ref 0), (1, .ref 1)] [] [.inr (1, [.int r, .int f, .int g, .int z]), .inr (1, [.int r2, .int f2, .int g2, .int z2])] rg = some (none, [.inr (1, [.int r, .int f2, .int g2, .int z2]), .inr (1, [.int r2, .int f2, .int g2, .int z2])], rg) := by
  refine ⟨40, ?_⟩
  rfl
theorem ct_X1_copyFrom (l : Launch) : ∀ args0 w0 v0 w1 rg, G_X1_copyFrom args0 w0 = some (v0, w1) → pCT l yX1_copyFrom (pWs yX1_copyFrom cX1_copyFrom 2 (none)) rm_X1_copyFrom args0 w0 rg (v0, w1, rg) := by
  intro args0 w0 v0 w1 rg h
  unfold G_X1_copyFrom at h
  split at h
  next =>
    cases h
    exact met_of_ex (by decide) (ok_k_X1_copyFrom l) rfl (run_X1_copyFrom rg _ _ _ _ _ _ _ _) (Nat.le_of_ble_eq_true rfl) rfl (Nat.le_refl _) (Nat.le_of_ble_eq_true rfl) (Nat.zero_le _) rfl rfl
  next => cases h
def F_X1_copyFrom : pF := frN G_X1_copyFrom
theorem ok_F_X1_copyFrom (l : Launch) : pFOK l yX1_copyFrom (pWs yX1_copyFrom cX1_copyFrom 2 (none)) rm_X1_copyFrom F_X1_copyFrom := pFOK_fr (fun a b c d h => ct_X1_copyFrom l a b c d rg00 h) (fun a b c d h => by
  unfold G_X1_copyFrom at h
  split at h
  next => simp
  next => cases h)
theorem rc_F_X1_copyFrom : pRcv 1 F_X1_copyFrom := pRcv_fr (fun a b c d h => by
  unfold G_X1_copyFrom at h
  split at h
  next => simp
  next => cases h) (fun a b c d h => by
  unfold G_X1_copyFrom at h
  split at h
  next => exact ⟨_, _, _, rfl, rfl⟩
  next => cases h)
theorem dX1_missing_0 : decode cX1_missing 0 = .ok (.aload_n 0, 1) := by decide +kernel
theorem dX1_missing_1 : decode cX1_missing 1 = .ok (.getfield 19, 3) := by decide +kernel
theorem dX1_missing_4 : decode cX1_missing 4 = .ok (.aload_n 0, 1) := by decide +kernel
theorem dX1_missing_5 : decode cX1_missing 5 = .ok (.getfield 7, 3) := by decide +kernel
theorem dX1_missing_8 : decode cX1_missing 8 = .ok (.isub, 1) := by decide +kernel
theorem dX1_missing_9 : decode cX1_missing 9 = .ok (.aload_n 0, 1) := by decide +kernel
theorem dX1_missing_10 : decode cX1_missing 10 = .ok (.getfield 13, 3) := by decide +kernel
theorem dX1_missing_13 : decode cX1_missing 13 = .ok (.isub, 1) := by decide +kernel
theorem dX1_missing_14 : decode cX1_missing 14 = .ok (.ireturn, 1) := by decide +kernel
def k_X1_missing : List pEn := [oAload 0, oGet 1 0, oAload 0, oGet 1 1, oSub, oAload 0, oGet 1 2, oSub, oIret]
def pc_X1_missing (i : Nat) : Nat := ([0, 1, 4, 5, 8, 9, 10, 13, 14] : List Nat).getD i 0
abbrev rm_X1_missing : Room := { frames := 0, cells := 0, slots := 0, locals := 0 }
theorem pl_X1_missing : pPlain yX1_missing 0 := by decide +kernel
set_option maxRecDepth 100000 in
set_option maxHeartbeats 4000000 in
theorem ok_k_X1_missing (l : Launch) : ∀ (i : Nat) (en : pEn), k_X1_missing[i]? = some en → EOK l cX1_missing yX1_missing.cls 1 ((some FieldType.int)) rm_X1_missing 0 pc_X1_missing i en := by
  refine allOK_at ?_
  refine And.intro (okAload_n dX1_missing_0 rfl rfl) ?_
  refine And.intro (okGet (C := RX1) (T := TX1) (N := 4) dX1_missing_1 rfl rfl (by decide) inX1 wm_1_32) ?_
  refine And.intro (okAload_n dX1_missing_4 rfl rfl) ?_
  refine And.intro (okGet (C := RX1) (T := TX1) (N := 4) dX1_missing_5 rfl rfl (by decide) inX1 wm_1_33) ?_
  refine And.intro (okSub dX1_missing_8 rfl) ?_
  refine And.intro (okAload_n dX1_missing_9 rfl rfl) ?_
  refine And.intro (okGet (C := RX1) (T := TX1) (N := 4) dX1_missing_10 rfl rfl (by decide) inX1 wm_1_36) ?_
  refine And.intro (okSub dX1_missing_13 rfl) ?_
  refine And.intro (okIret dX1_missing_14 rfl) ?_
  exact trivial
def G_X1_missing : pG := fun args w => match args, w with
  | [.ref 0], [.inr (1, [.int r, .int f, .int g, .int z])] => some (some (.int (r - f - g)), [.inr (1, [.int r, .int f, .int g, .int z])])
  | _, _ => none
set_option maxHeartbeats 400000 in
set_option maxRecDepth 100000 in
theorem run_X1_missing (rg : pRg) (r f g z : Int32) : ∃ fu, ex k_X1_missing fu 0 [(0, .ref 0)] [] [.inr (1, [.int r, .int f, .int g, .int z])] rg = some (some (.int (r - f - g)), [.inr (1, [.int r, .int f, .int g, .int z])], rg) := by
  refine ⟨40, ?_⟩
  rfl
theorem ct_X1_missing (l : Launch) : ∀ args0 w0 v0 w1 rg, G_X1_missing args0 w0 = some (v0, w1) → pCT l yX1_missing (pWs yX1_missing cX1_missing 1 ((some FieldType.int))) rm_X1_missing args0 w0 rg (v0, w1, rg) := by
  intro args0 w0 v0 w1 rg h
  unfold G_X1_missing at h
  split at h
  next =>
    cases h
    exact met_of_ex (by decide) (ok_k_X1_missing l) rfl (run_X1_missing rg _ _ _ _) (Nat.le_of_ble_eq_true rfl) rfl (Nat.le_refl _) (Nat.le_of_ble_eq_true rfl) (Nat.zero_le _) rfl rfl
  next => cases h
def F_X1_missing : pF := frN G_X1_missing
theorem ok_F_X1_missing (l : Launch) : pFOK l yX1_missing (pWs yX1_missing cX1_missing 1 ((some FieldType.int))) rm_X1_missing F_X1_missing := pFOK_fr (fun a b c d h => ct_X1_missing l a b c d rg00 h) (fun a b c d h => by
  unfold G_X1_missing at h
  split at h
  next => simp
  next => cases h)
theorem rc_F_X1_missing : pRcv 1 F_X1_missing := pRcv_fr (fun a b c d h => by
  unfold G_X1_missing at h
  split at h
  next => simp
  next => cases h) (fun a b c d h => by
  unfold G_X1_missing at h
  split at h
  next => exact ⟨_, _, _, rfl, rfl⟩
  next => cases h)
theorem dX1_consistency_0 : decode cX1_consistency 0 = .ok (.aload_n 0, 1) := by decide +kernel
theorem dX1_consistency_1 : decode cX1_consistency 1 = .ok (.getfield 7, 3) := by decide +kernel
theorem dX1_consistency_4 : decode cX1_consistency 4 = .ok (.aload_n 0, 1) := by decide +kernel
theorem dX1_consistency_5 : decode cX1_consistency 5 = .ok (.getfield 13, 3) := by decide +kernel
theorem dX1_consistency_8 : decode cX1_consistency 8 = .ok (.iadd, 1) := by decide +kernel
theorem dX1_consistency_9 : decode cX1_consistency 9 = .ok (.istore_n 1, 1) := by decide +kernel
theorem dX1_consistency_10 : decode cX1_consistency 10 = .ok (.iload_n 1, 1) := by decide +kernel
theorem dX1_consistency_11 : decode cX1_consistency 11 = .ok (.ifCond .gt 7, 3) := by decide +kernel
theorem dX1_consistency_14 : decode cX1_consistency 14 = .ok (.iconst 0, 1) := by decide +kernel
theorem dX1_consistency_15 : decode cX1_consistency 15 = .ok (.goto 13, 3) := by decide +kernel
theorem dX1_consistency_18 : decode cX1_consistency 18 = .ok (.aload_n 0, 1) := by decide +kernel
theorem dX1_consistency_19 : decode cX1_consistency 19 = .ok (.getfield 7, 3) := by decide +kernel
theorem dX1_consistency_22 : decode cX1_consistency 22 = .ok (.sipush 1000, 3) := by decide +kernel
theorem dX1_consistency_25 : decode cX1_consistency 25 = .ok (.imul, 1) := by decide +kernel
theorem dX1_consistency_26 : decode cX1_consistency 26 = .ok (.iload_n 1, 1) := by decide +kernel
theorem dX1_consistency_27 : decode cX1_consistency 27 = .ok (.idiv, 1) := by decide +kernel
theorem dX1_consistency_28 : decode cX1_consistency 28 = .ok (.ireturn, 1) := by decide +kernel
def k_X1_consistency : List pEn := [oAload 0, oGet 1 1, oAload 0, oGet 1 2, oAdd, oIstore 1, oIload 1, oIfgt 10, oConst (0), oGoto 16, oAload 0, oGet 1 1, oConst (1000), oMul, oIload 1, oDiv, oIret]
def pc_X1_consistency (i : Nat) : Nat := ([0, 1, 4, 5, 8, 9, 10, 11, 14, 15, 18, 19, 22, 25, 26, 27, 28] : List Nat).getD i 0
abbrev rm_X1_consistency : Room := { frames := 0, cells := 0, slots := 0, locals := 0 }
theorem pl_X1_consistency : pPlain yX1_consistency 0 := by decide +kernel
set_option maxRecDepth 100000 in
set_option maxHeartbeats 4000000 in
theorem ok_k_X1_consistency (l : Launch) : ∀ (i : Nat) (en : pEn), k_X1_consistency[i]? = some en → EOK l cX1_consistency yX1_consistency.cls 2 ((some FieldType.int)) rm_X1_consistency 0 pc_X1_consistency i en := by
  refine allOK_at ?_
  refine And.intro (okAload_n dX1_consistency_0 rfl rfl) ?_
  refine And.intro (okGet (C := RX1) (T := TX1) (N := 4) dX1_consistency_1 rfl rfl (by decide) inX1 wm_1_33) ?_
  refine And.intro (okAload_n dX1_consistency_4 rfl rfl) ?_
  refine And.intro (okGet (C := RX1) (T := TX1) (N := 4) dX1_consistency_5 rfl rfl (by decide) inX1 wm_1_36) ?_
  refine And.intro (okAdd dX1_consistency_8 rfl) ?_
  refine And.intro (okIstore_n dX1_consistency_9 rfl rfl (by decide)) ?_
  refine And.intro (okIload_n dX1_consistency_10 rfl rfl) ?_
  refine And.intro (okIfgt dX1_consistency_11 rfl (by rfl)) ?_
  refine And.intro (okIconst dX1_consistency_14 rfl (by first | rfl | decide)) ?_
  refine And.intro (okGoto dX1_consistency_15 (by rfl)) ?_
  refine And.intro (okAload_n dX1_consistency_18 rfl rfl) ?_
  refine And.intro (okGet (C := RX1) (T := TX1) (N := 4) dX1_consistency_19 rfl rfl (by decide) inX1 wm_1_33) ?_
  refine And.intro (okSipush dX1_consistency_22 rfl (by first | rfl | decide)) ?_
  refine And.intro (okMul dX1_consistency_25 rfl) ?_
  refine And.intro (okIload_n dX1_consistency_26 rfl rfl) ?_
  refine And.intro (okDiv dX1_consistency_27 rfl) ?_
  refine And.intro (okIret dX1_consistency_28 rfl) ?_
  exact trivial
def G_X1_consistency : pG := fun args w => match args, w with
  | [.ref 0], [.inr (1, [.int r, .int f, .int g, .int z])] => some (some (.int (csC f g)), [.inr (1, [.int r, .int f, .int g, .int z])])
  | _, _ => none
set_option maxHeartbeats 400000 in
set_option maxRecDepth 100000 in
theorem run_X1_consistency (rg : pRg) (r f g z : Int32) : ∃ fu, ex k_X1_consistency fu 0 [(0, .ref 0)] [] [.inr (1, [.int r, .int f, .int g, .int z])] rg = some (some (.int (csC f g)), [.inr (1, [.int r, .int f, .int g, .int z])], rg) := by
  refine ⟨40, ?_⟩
  conv => lhs; whnf
  refine pif_c (fun h => ?_) (fun h => ?_)
  · conv => lhs; whnf
    refine (pif_f (fun e => absurd h (by rw [e]; decide))).trans ?_
    have h2 : ¬ f + g ≤ 0 := Int32.not_le.mpr h
    simp only [csC, if_neg h2]
    rfl
  · have h2 : f + g ≤ 0 := Int32.not_lt.mp h
    simp only [csC, if_pos h2]
    rfl
theorem ct_X1_consistency (l : Launch) : ∀ args0 w0 v0 w1 rg, G_X1_consistency args0 w0 = some (v0, w1) → pCT l yX1_consistency (pWs yX1_consistency cX1_consistency 2 ((some FieldType.int))) rm_X1_consistency args0 w0 rg (v0, w1, rg) := by
  intro args0 w0 v0 w1 rg h
  unfold G_X1_consistency at h
  split at h
  next =>
    cases h
    exact met_of_ex (by decide) (ok_k_X1_consistency l) rfl (run_X1_consistency rg _ _ _ _) (Nat.le_of_ble_eq_true rfl) rfl (Nat.le_refl _) (Nat.le_of_ble_eq_true rfl) (Nat.zero_le _) rfl rfl
  next => cases h
def F_X1_consistency : pF := frN G_X1_consistency
theorem ok_F_X1_consistency (l : Launch) : pFOK l yX1_consistency (pWs yX1_consistency cX1_consistency 2 ((some FieldType.int))) rm_X1_consistency F_X1_consistency := pFOK_fr (fun a b c d h => ct_X1_consistency l a b c d rg00 h) (fun a b c d h => by
  unfold G_X1_consistency at h
  split at h
  next => simp
  next => cases h)
theorem rc_F_X1_consistency : pRcv 1 F_X1_consistency := pRcv_fr (fun a b c d h => by
  unfold G_X1_consistency at h
  split at h
  next => simp
  next => cases h) (fun a b c d h => by
  unfold G_X1_consistency at h
  split at h
  next => exact ⟨_, _, _, rfl, rfl⟩
  next => cases h)
theorem dX1_there_0 : decode cX1_there 0 = .ok (.iload_n 1, 1) := by decide +kernel
theorem dX1_there_1 : decode cX1_there 1 = .ok (.aload_n 0, 1) := by decide +kernel
theorem dX1_there_2 : decode cX1_there 2 = .ok (.getfield 7, 3) := by decide +kernel
theorem dX1_there_5 : decode cX1_there 5 = .ok (.aload_n 0, 1) := by decide +kernel
theorem dX1_there_6 : decode cX1_there 6 = .ok (.getfield 13, 3) := by decide +kernel
theorem dX1_there_9 : decode cX1_there 9 = .ok (.iadd, 1) := by decide +kernel
theorem dX1_there_10 : decode cX1_there 10 = .ok (.invokestatic 22, 3) := by decide +kernel
theorem dX1_there_13 : decode cX1_there 13 = .ok (.ireturn, 1) := by decide +kernel
def k_X1_there : List pEn := [oIload 1, oAload 0, oGet 1 1, oAload 0, oGet 1 2, oAdd, oMin, oIret]
def pc_X1_there (i : Nat) : Nat := ([0, 1, 2, 5, 6, 9, 10, 13] : List Nat).getD i 0
abbrev rm_X1_there : Room := { frames := 1, cells := 0, slots := 0, locals := 21 }
theorem pl_X1_there : pPlain yX1_there 1 := by decide +kernel
set_option maxRecDepth 100000 in
set_option maxHeartbeats 4000000 in
theorem ok_k_X1_there (l : Launch) : ∀ (i : Nat) (en : pEn), k_X1_there[i]? = some en → EOK l cX1_there yX1_there.cls 2 ((some FieldType.int)) rm_X1_there 0 pc_X1_there i en := by
  refine allOK_at ?_
  refine And.intro (okIload_n dX1_there_0 rfl rfl) ?_
  refine And.intro (okAload_n dX1_there_1 rfl rfl) ?_
  refine And.intro (okGet (C := RX1) (T := TX1) (N := 4) dX1_there_2 rfl rfl (by decide) inX1 wm_1_33) ?_
  refine And.intro (okAload_n dX1_there_5 rfl rfl) ?_
  refine And.intro (okGet (C := RX1) (T := TX1) (N := 4) dX1_there_6 rfl rfl (by decide) inX1 wm_1_36) ?_
  refine And.intro (okAdd dX1_there_9 rfl) ?_
  refine And.intro (okMin dX1_there_10 rfl wm_2_154 wm_2_95 wm_1_11 wm_2_96 (by decide) (by decide)) ?_
  refine And.intro (okIret dX1_there_13 rfl) ?_
  exact trivial
def G_X1_there : pG := fun args w => match args, w with
  | [.ref 0, .int m], [.inr (1, [.int r, .int f, .int g, .int z])] => some (some (.int (mnI m (f + g))), [.inr (1, [.int r, .int f, .int g, .int z])])
  | _, _ => none
set_option maxHeartbeats 400000 in
set_option maxRecDepth 100000 in
theorem run_X1_there (rg : pRg) (r f g z : Int32) (m : Int32) : ∃ fu, ex k_X1_there fu 0 [(0, .ref 0), (1, .int m)] [] [.inr (1, [.int r, .int f, .int g, .int z])] rg = some (some (.int (mnI m (f + g))), [.inr (1, [.int r, .int f, .int g, .int z])], rg) := by
  refine ⟨40, ?_⟩
  rfl
theorem ct_X1_there (l : Launch) : ∀ args0 w0 v0 w1 rg, G_X1_there args0 w0 = some (v0, w1) → pCT l yX1_there (pWs yX1_there cX1_there 2 ((some FieldType.int))) rm_X1_there args0 w0 rg (v0, w1, rg) := by
  intro args0 w0 v0 w1 rg h
  unfold G_X1_there at h
  split at h
  next =>
    cases h
    exact met_of_ex (by decide) (ok_k_X1_there l) rfl (run_X1_there rg _ _ _ _ _) (Nat.le_of_ble_eq_true rfl) rfl (Nat.le_refl _) (Nat.le_of_ble_eq_true rfl) (Nat.zero_le _) rfl rfl
  next => cases h
def F_X1_there : pF := frN G_X1_there
theorem ok_F_X1_there (l : Launch) : pFOK l yX1_there (pWs yX1_there cX1_there 2 ((some FieldType.int))) rm_X1_there F_X1_there := pFOK_fr (fun a b c d h => ct_X1_there l a b c d rg00 h) (fun a b c d h => by
  unfold G_X1_there at h
  split at h
  next => simp
  next => cases h)
theorem rc_F_X1_there : pRcv 1 F_X1_there := pRcv_fr (fun a b c d h => by
  unfold G_X1_there at h
  split at h
  next => simp
  next => cases h) (fun a b c d h => by
  unfold G_X1_there at h
  split at h
  next => exact ⟨_, _, _, rfl, rfl⟩
  next => cases h)
theorem dX1_takeOut_0 : decode cX1_takeOut 0 = .ok (.aload_n 0, 1) := by decide +kernel
theorem dX1_takeOut_1 : decode cX1_takeOut 1 = .ok (.getfield 7, 3) := by decide +kernel
theorem dX1_takeOut_4 : decode cX1_takeOut 4 = .ok (.aload_n 0, 1) := by decide +kernel
theorem dX1_takeOut_5 : decode cX1_takeOut 5 = .ok (.getfield 13, 3) := by decide +kernel
theorem dX1_takeOut_8 : decode cX1_takeOut 8 = .ok (.iadd, 1) := by decide +kernel
theorem dX1_takeOut_9 : decode cX1_takeOut 9 = .ok (.istore_n 2, 1) := by decide +kernel
theorem dX1_takeOut_10 : decode cX1_takeOut 10 = .ok (.iload_n 2, 1) := by decide +kernel
theorem dX1_takeOut_11 : decode cX1_takeOut 11 = .ok (.ifCond .gt 5, 3) := by decide +kernel
theorem dX1_takeOut_14 : decode cX1_takeOut 14 = .ok (.iconst 0, 1) := by decide +kernel
theorem dX1_takeOut_15 : decode cX1_takeOut 15 = .ok (.ireturn, 1) := by decide +kernel
theorem dX1_takeOut_16 : decode cX1_takeOut 16 = .ok (.iload_n 1, 1) := by decide +kernel
theorem dX1_takeOut_17 : decode cX1_takeOut 17 = .ok (.i2l, 1) := by decide +kernel
theorem dX1_takeOut_18 : decode cX1_takeOut 18 = .ok (.aload_n 0, 1) := by decide +kernel
theorem dX1_takeOut_19 : decode cX1_takeOut 19 = .ok (.getfield 7, 3) := by decide +kernel
theorem dX1_takeOut_22 : decode cX1_takeOut 22 = .ok (.i2l, 1) := by decide +kernel
theorem dX1_takeOut_23 : decode cX1_takeOut 23 = .ok (.lmul, 1) := by decide +kernel
theorem dX1_takeOut_24 : decode cX1_takeOut 24 = .ok (.iload_n 2, 1) := by decide +kernel
theorem dX1_takeOut_25 : decode cX1_takeOut 25 = .ok (.i2l, 1) := by decide +kernel
theorem dX1_takeOut_26 : decode cX1_takeOut 26 = .ok (.ldiv, 1) := by decide +kernel
theorem dX1_takeOut_27 : decode cX1_takeOut 27 = .ok (.l2i, 1) := by decide +kernel
theorem dX1_takeOut_28 : decode cX1_takeOut 28 = .ok (.istore_n 3, 1) := by decide +kernel
theorem dX1_takeOut_29 : decode cX1_takeOut 29 = .ok (.aload_n 0, 1) := by decide +kernel
theorem dX1_takeOut_30 : decode cX1_takeOut 30 = .ok (.dup, 1) := by decide +kernel
theorem dX1_takeOut_31 : decode cX1_takeOut 31 = .ok (.getfield 7, 3) := by decide +kernel
theorem dX1_takeOut_34 : decode cX1_takeOut 34 = .ok (.iload_n 3, 1) := by decide +kernel
theorem dX1_takeOut_35 : decode cX1_takeOut 35 = .ok (.isub, 1) := by decide +kernel
theorem dX1_takeOut_36 : decode cX1_takeOut 36 = .ok (.putfield 7, 3) := by decide +kernel
theorem dX1_takeOut_39 : decode cX1_takeOut 39 = .ok (.aload_n 0, 1) := by decide +kernel
theorem dX1_takeOut_40 : decode cX1_takeOut 40 = .ok (.dup, 1) := by decide +kernel
theorem dX1_takeOut_41 : decode cX1_takeOut 41 = .ok (.getfield 13, 3) := by decide +kernel
theorem dX1_takeOut_44 : decode cX1_takeOut 44 = .ok (.iload_n 1, 1) := by decide +kernel
theorem dX1_takeOut_45 : decode cX1_takeOut 45 = .ok (.iload_n 3, 1) := by decide +kernel
theorem dX1_takeOut_46 : decode cX1_takeOut 46 = .ok (.isub, 1) := by decide +kernel
theorem dX1_takeOut_47 : decode cX1_takeOut 47 = .ok (.isub, 1) := by decide +kernel
theorem dX1_takeOut_48 : decode cX1_takeOut 48 = .ok (.putfield 13, 3) := by decide +kernel
theorem dX1_takeOut_51 : decode cX1_takeOut 51 = .ok (.iload_n 3, 1) := by decide +kernel
theorem dX1_takeOut_52 : decode cX1_takeOut 52 = .ok (.ireturn, 1) := by decide +kernel
def k_X1_takeOut : List pEn := [oAload 0, oGet 1 1, oAload 0, oGet 1 2, oAdd, oIstore 2, oIload 2, oIfgt 10, oConst (0), oIret, oIload 1, oI2l, oAload 0, oGet 1 1, oI2l, oLmul, oIload 2, oI2l, oLdiv, oL2i, oIstore 3, oAload 0, oDup, oGet 1 1, oIload 3, oSub, oPut 1 1, oAload 0, oDup, oGet 1 2, oIload 1, oIload 3, oSub, oSub, oPut 1 2, oIload 3, oIret]
def pc_X1_takeOut (i : Nat) : Nat := ([0, 1, 4, 5, 8, 9, 10, 11, 14, 15, 16, 17, 18, 19, 22, 23, 24, 25, 26, 27, 28, 29, 30, 31, 34, 35, 36, 39, 40, 41, 44, 45, 46, 47, 48, 51, 52] : List Nat).getD i 0
abbrev rm_X1_takeOut : Room := { frames := 0, cells := 0, slots := 0, locals := 0 }
theorem pl_X1_takeOut : pPlain yX1_takeOut 1 := by decide +kernel
set_option maxRecDepth 100000 in
set_option maxHeartbeats 4000000 in
theorem ok_k_X1_takeOut (l : Launch) : ∀ (i : Nat) (en : pEn), k_X1_takeOut[i]? = some en → EOK l cX1_takeOut yX1_takeOut.cls 4 ((some FieldType.int)) rm_X1_takeOut 0 pc_X1_takeOut i en := by
  refine allOK_at ?_
  refine And.intro (okAload_n dX1_takeOut_0 rfl rfl) ?_
  refine And.intro (okGet (C := RX1) (T := TX1) (N := 4) dX1_takeOut_1 rfl rfl (by decide) inX1 wm_1_33) ?_
  refine And.intro (okAload_n dX1_takeOut_4 rfl rfl) ?_
  refine And.intro (okGet (C := RX1) (T := TX1) (N := 4) dX1_takeOut_5 rfl rfl (by decide) inX1 wm_1_36) ?_
  refine And.intro (okAdd dX1_takeOut_8 rfl) ?_
  refine And.intro (okIstore_n dX1_takeOut_9 rfl rfl (by decide)) ?_
  refine And.intro (okIload_n dX1_takeOut_10 rfl rfl) ?_
  refine And.intro (okIfgt dX1_takeOut_11 rfl (by rfl)) ?_
  refine And.intro (okIconst dX1_takeOut_14 rfl (by first | rfl | decide)) ?_
  refine And.intro (okIret dX1_takeOut_15 rfl) ?_
  refine And.intro (okIload_n dX1_takeOut_16 rfl rfl) ?_
  refine And.intro (okI2l dX1_takeOut_17 rfl) ?_
  refine And.intro (okAload_n dX1_takeOut_18 rfl rfl) ?_
  refine And.intro (okGet (C := RX1) (T := TX1) (N := 4) dX1_takeOut_19 rfl rfl (by decide) inX1 wm_1_33) ?_
  refine And.intro (okI2l dX1_takeOut_22 rfl) ?_
  refine And.intro (okLmul dX1_takeOut_23 rfl) ?_
  refine And.intro (okIload_n dX1_takeOut_24 rfl rfl) ?_
  refine And.intro (okI2l dX1_takeOut_25 rfl) ?_
  refine And.intro (okLdiv dX1_takeOut_26 rfl) ?_
  refine And.intro (okL2i dX1_takeOut_27 rfl) ?_
  refine And.intro (okIstore_n dX1_takeOut_28 rfl rfl (by decide)) ?_
  refine And.intro (okAload_n dX1_takeOut_29 rfl rfl) ?_
  refine And.intro (okDup dX1_takeOut_30 rfl) ?_
  refine And.intro (okGet (C := RX1) (T := TX1) (N := 4) dX1_takeOut_31 rfl rfl (by decide) inX1 wm_1_33) ?_
  refine And.intro (okIload_n dX1_takeOut_34 rfl rfl) ?_
  refine And.intro (okSub dX1_takeOut_35 rfl) ?_
  refine And.intro (okPut (C := RX1) (T := TX1) (N := 4) dX1_takeOut_36 rfl rfl (by decide) inX1 tyX1_ok nmX1 rfl rfl wm_1_33) ?_
  refine And.intro (okAload_n dX1_takeOut_39 rfl rfl) ?_
  refine And.intro (okDup dX1_takeOut_40 rfl) ?_
  refine And.intro (okGet (C := RX1) (T := TX1) (N := 4) dX1_takeOut_41 rfl rfl (by decide) inX1 wm_1_36) ?_
  refine And.intro (okIload_n dX1_takeOut_44 rfl rfl) ?_
  refine And.intro (okIload_n dX1_takeOut_45 rfl rfl) ?_
  refine And.intro (okSub dX1_takeOut_46 rfl) ?_
  refine And.intro (okSub dX1_takeOut_47 rfl) ?_
  refine And.intro (okPut (C := RX1) (T := TX1) (N := 4) dX1_takeOut_48 rfl rfl (by decide) inX1 tyX1_ok nmX1 rfl rfl wm_1_36) ?_
  refine And.intro (okIload_n dX1_takeOut_51 rfl rfl) ?_
  refine And.intro (okIret dX1_takeOut_52 rfl) ?_
  exact trivial
def G_X1_takeOut : pG := fun args w => match args, w with
  | [.ref 0, .int m], [.inr (1, [.int r, .int f, .int g, .int z])] => some (some (.int (tkR f g m)), [.inr (1, [.int r, .int (f - tkR f g m), .int (tkG f g m), .int z])])
  | _, _ => none
set_option maxHeartbeats 400000 in
set_option maxRecDepth 100000 in
theorem run_X1_takeOut (rg : pRg) (r f g z : Int32) (m : Int32) : ∃ fu, ex k_X1_takeOut fu 0 [(0, .ref 0), (1, .int m)] [] [.inr (1, [.int r, .int f, .int g, .int z])] rg = some (some (.int (tkR f g m)), [.inr (1, [.int r, .int (f - tkR f g m), .int (tkG f g m), .int z])], rg) := by
  refine ⟨40, ?_⟩
  conv => lhs; whnf
  refine pif_c (fun h => ?_) (fun h => ?_)
  · conv => lhs; whnf
    refine (pif_f (ne0_of_pos h)).trans ?_
    simp only [tkR, tkG, if_pos h]
    rfl
  · simp only [tkR, tkG, if_neg h, Int32.sub_zero]
    rfl
theorem ct_X1_takeOut (l : Launch) : ∀ args0 w0 v0 w1 rg, G_X1_takeOut args0 w0 = some (v0, w1) → pCT l yX1_takeOut (pWs yX1_takeOut cX1_takeOut 4 ((some FieldType.int))) rm_X1_takeOut args0 w0 rg (v0, w1, rg) := by
  intro args0 w0 v0 w1 rg h
  unfold G_X1_takeOut at h
  split at h
  next =>
    cases h
    exact met_of_ex (by decide) (ok_k_X1_takeOut l) rfl (run_X1_takeOut rg _ _ _ _ _) (Nat.le_of_ble_eq_true rfl) rfl (Nat.le_refl _) (Nat.le_of_ble_eq_true rfl) (Nat.zero_le _) rfl rfl
  next => cases h
def F_X1_takeOut : pF := frN G_X1_takeOut
theorem ok_F_X1_takeOut (l : Launch) : pFOK l yX1_takeOut (pWs yX1_takeOut cX1_takeOut 4 ((some FieldType.int))) rm_X1_takeOut F_X1_takeOut := pFOK_fr (fun a b c d h => ct_X1_takeOut l a b c d rg00 h) (fun a b c d h => by
  unfold G_X1_takeOut at h
  split at h
  next => simp
  next => cases h)
theorem rc_F_X1_takeOut : pRcv 1 F_X1_takeOut := pRcv_fr (fun a b c d h => by
  unfold G_X1_takeOut at h
  split at h
  next => simp
  next => cases h) (fun a b c d h => by
  unfold G_X1_takeOut at h
  split at h
  next => exact ⟨_, _, _, rfl, rfl⟩
  next => cases h)
theorem dX1_putIn_0 : decode cX1_putIn 0 = .ok (.aload_n 0, 1) := by decide +kernel
theorem dX1_putIn_1 : decode cX1_putIn 1 = .ok (.dup, 1) := by decide +kernel
theorem dX1_putIn_2 : decode cX1_putIn 2 = .ok (.getfield 7, 3) := by decide +kernel
theorem dX1_putIn_5 : decode cX1_putIn 5 = .ok (.iload_n 1, 1) := by decide +kernel
theorem dX1_putIn_6 : decode cX1_putIn 6 = .ok (.iadd, 1) := by decide +kernel
theorem dX1_putIn_7 : decode cX1_putIn 7 = .ok (.putfield 7, 3) := by decide +kernel
theorem dX1_putIn_10 : decode cX1_putIn 10 = .ok (.aload_n 0, 1) := by decide +kernel
theorem dX1_putIn_11 : decode cX1_putIn 11 = .ok (.dup, 1) := by decide +kernel
theorem dX1_putIn_12 : decode cX1_putIn 12 = .ok (.getfield 13, 3) := by decide +kernel
theorem dX1_putIn_15 : decode cX1_putIn 15 = .ok (.iload_n 2, 1) := by decide +kernel
theorem dX1_putIn_16 : decode cX1_putIn 16 = .ok (.iadd, 1) := by decide +kernel
theorem dX1_putIn_17 : decode cX1_putIn 17 = .ok (.putfield 13, 3) := by decide +kernel
theorem dX1_putIn_20 : decode cX1_putIn 20 = .ok (.aload_n 0, 1) := by decide +kernel
theorem dX1_putIn_21 : decode cX1_putIn 21 = .ok (.getfield 7, 3) := by decide +kernel
theorem dX1_putIn_24 : decode cX1_putIn 24 = .ok (.aload_n 0, 1) := by decide +kernel
theorem dX1_putIn_25 : decode cX1_putIn 25 = .ok (.getfield 13, 3) := by decide +kernel
theorem dX1_putIn_28 : decode cX1_putIn 28 = .ok (.iadd, 1) := by decide +kernel
theorem dX1_putIn_29 : decode cX1_putIn 29 = .ok (.aload_n 0, 1) := by decide +kernel
theorem dX1_putIn_30 : decode cX1_putIn 30 = .ok (.getfield 19, 3) := by decide +kernel
theorem dX1_putIn_33 : decode cX1_putIn 33 = .ok (.isub, 1) := by decide +kernel
theorem dX1_putIn_34 : decode cX1_putIn 34 = .ok (.istore_n 3, 1) := by decide +kernel
theorem dX1_putIn_35 : decode cX1_putIn 35 = .ok (.iload_n 3, 1) := by decide +kernel
theorem dX1_putIn_36 : decode cX1_putIn 36 = .ok (.ifCond .le 11, 3) := by decide +kernel
theorem dX1_putIn_39 : decode cX1_putIn 39 = .ok (.aload_n 0, 1) := by decide +kernel
theorem dX1_putIn_40 : decode cX1_putIn 40 = .ok (.iload_n 3, 1) := by decide +kernel
theorem dX1_putIn_41 : decode cX1_putIn 41 = .ok (.invokevirtual 28, 3) := by decide +kernel
theorem dX1_putIn_44 : decode cX1_putIn 44 = .ok (.goto 4, 3) := by decide +kernel
theorem dX1_putIn_47 : decode cX1_putIn 47 = .ok (.iconst 0, 1) := by decide +kernel
theorem dX1_putIn_48 : decode cX1_putIn 48 = .ok (.ireturn, 1) := by decide +kernel
def k_X1_putIn : List pEn := [oAload 0, oDup, oGet 1 1, oIload 1, oAdd, oPut 1 1, oAload 0, oDup, oGet 1 2, oIload 2, oAdd, oPut 1 2, oAload 0, oGet 1 1, oAload 0, oGet 1 2, oAdd, oAload 0, oGet 1 0, oSub, oIstore 3, oIload 3, oIfle 27, oAload 0, oIload 3, oCall 2 F_X1_takeOut, oGoto 28, oConst (0), oIret]
def pc_X1_putIn (i : Nat) : Nat := ([0, 1, 2, 5, 6, 7, 10, 11, 12, 15, 16, 17, 20, 21, 24, 25, 28, 29, 30, 33, 34, 35, 36, 39, 40, 41, 44, 47, 48] : List Nat).getD i 0
abbrev rm_X1_putIn : Room := { frames := 1, cells := 0, slots := 0, locals := 23 }
theorem pl_X1_putIn : pPlain yX1_putIn 2 := by decide +kernel
set_option maxRecDepth 100000 in
set_option maxHeartbeats 4000000 in
theorem ok_k_X1_putIn (l : Launch) : ∀ (i : Nat) (en : pEn), k_X1_putIn[i]? = some en → EOK l cX1_putIn yX1_putIn.cls 4 ((some FieldType.int)) rm_X1_putIn 0 pc_X1_putIn i en := by
  refine allOK_at ?_
  refine And.intro (okAload_n dX1_putIn_0 rfl rfl) ?_
  refine And.intro (okDup dX1_putIn_1 rfl) ?_
  refine And.intro (okGet (C := RX1) (T := TX1) (N := 4) dX1_putIn_2 rfl rfl (by decide) inX1 wm_1_33) ?_
  refine And.intro (okIload_n dX1_putIn_5 rfl rfl) ?_
  refine And.intro (okAdd dX1_putIn_6 rfl) ?_
  refine And.intro (okPut (C := RX1) (T := TX1) (N := 4) dX1_putIn_7 rfl rfl (by decide) inX1 tyX1_ok nmX1 rfl rfl wm_1_33) ?_
  refine And.intro (okAload_n dX1_putIn_10 rfl rfl) ?_
  refine And.intro (okDup dX1_putIn_11 rfl) ?_
  refine And.intro (okGet (C := RX1) (T := TX1) (N := 4) dX1_putIn_12 rfl rfl (by decide) inX1 wm_1_36) ?_
  refine And.intro (okIload_n dX1_putIn_15 rfl rfl) ?_
  refine And.intro (okAdd dX1_putIn_16 rfl) ?_
  refine And.intro (okPut (C := RX1) (T := TX1) (N := 4) dX1_putIn_17 rfl rfl (by decide) inX1 tyX1_ok nmX1 rfl rfl wm_1_36) ?_
  refine And.intro (okAload_n dX1_putIn_20 rfl rfl) ?_
  refine And.intro (okGet (C := RX1) (T := TX1) (N := 4) dX1_putIn_21 rfl rfl (by decide) inX1 wm_1_33) ?_
  refine And.intro (okAload_n dX1_putIn_24 rfl rfl) ?_
  refine And.intro (okGet (C := RX1) (T := TX1) (N := 4) dX1_putIn_25 rfl rfl (by decide) inX1 wm_1_36) ?_
  refine And.intro (okAdd dX1_putIn_28 rfl) ?_
  refine And.intro (okAload_n dX1_putIn_29 rfl rfl) ?_
  refine And.intro (okGet (C := RX1) (T := TX1) (N := 4) dX1_putIn_30 rfl rfl (by decide) inX1 wm_1_32) ?_
  refine And.intro (okSub dX1_putIn_33 rfl) ?_
  refine And.intro (okIstore_n dX1_putIn_34 rfl rfl (by decide)) ?_
  refine And.intro (okIload_n dX1_putIn_35 rfl rfl) ?_
  refine And.intro (okIfle dX1_putIn_36 rfl (by rfl)) ?_
  refine And.intro (okAload_n dX1_putIn_39 rfl rfl) ?_
  refine And.intro (okIload_n dX1_putIn_40 rfl rfl) ?_
  refine And.intro (okCallV (y := yX1_takeOut) (T := TX1) (oCall_is _ _ _) dX1_putIn_41 rfl (ok_F_X1_takeOut l) rc_F_X1_takeOut rfl wm_2_142 wm_2_143 wm_2_144 wm_1_3 wm_2_145 pl_X1_takeOut (by decide)) ?_
  refine And.intro (okGoto dX1_putIn_44 (by rfl)) ?_
  refine And.intro (okIconst dX1_putIn_47 rfl (by first | rfl | decide)) ?_
  refine And.intro (okIret dX1_putIn_48 rfl) ?_
  exact trivial
def G_X1_putIn : pG := fun args w => match args, w with
  | [.ref 0, .int a, .int b], [.inr (1, [.int r, .int f, .int g, .int z])] => some (some (.int (puR r f g a b)), [.inr (1, [.int r, .int (puF r f g a b), .int (puG r f g a b), .int z])])
  | _, _ => none
set_option maxHeartbeats 400000 in
set_option maxRecDepth 100000 in
theorem run_X1_putIn (rg : pRg) (r f g z : Int32) (a b : Int32) : ∃ fu, ex k_X1_putIn fu 0 [(0, .ref 0), (1, .int a), (2, .int b)] [] [.inr (1, [.int r, .int f, .int g, .int z])] rg = some (some (.int (puR r f g a b)), [.inr (1, [.int r, .int (puF r f g a b), .int (puG r f g a b), .int z])], rg) := by
  refine ⟨40, ?_⟩
  conv => lhs; whnf
  refine pif_c (fun h => ?_) (fun h => ?_)
  · simp only [puR, puF, puG, if_pos h, Int32.sub_zero]
    rfl
  · simp only [puR, puF, puG, if_neg h]
    rfl
theorem ct_X1_putIn (l : Launch) : ∀ args0 w0 v0 w1 rg, G_X1_putIn args0 w0 = some (v0, w1) → pCT l yX1_putIn (pWs yX1_putIn cX1_putIn 4 ((some FieldType.int))) rm_X1_putIn args0 w0 rg (v0, w1, rg) := by
  intro args0 w0 v0 w1 rg h
  unfold G_X1_putIn at h
  split at h
  next =>
    cases h
    exact met_of_ex (by decide) (ok_k_X1_putIn l) rfl (run_X1_putIn rg _ _ _ _ _ _) (Nat.le_of_ble_eq_true rfl) rfl (Nat.le_refl _) (Nat.le_of_ble_eq_true rfl) (Nat.zero_le _) rfl rfl
  next => cases h
def F_X1_putIn : pF := frN G_X1_putIn
theorem ok_F_X1_putIn (l : Launch) : pFOK l yX1_putIn (pWs yX1_putIn cX1_putIn 4 ((some FieldType.int))) rm_X1_putIn F_X1_putIn := pFOK_fr (fun a b c d h => ct_X1_putIn l a b c d rg00 h) (fun a b c d h => by
  unfold G_X1_putIn at h
  split at h
  next => simp
  next => cases h)
theorem rc_F_X1_putIn : pRcv 1 F_X1_putIn := pRcv_fr (fun a b c d h => by
  unfold G_X1_putIn at h
  split at h
  next => simp
  next => cases h) (fun a b c d h => by
  unfold G_X1_putIn at h
  split at h
  next => exact ⟨_, _, _, rfl, rfl⟩
  next => cases h)
theorem dX1_noteSum_0 : decode cX1_noteSum 0 = .ok (.aload_n 0, 1) := by decide +kernel
theorem dX1_noteSum_1 : decode cX1_noteSum 1 = .ok (.aload_n 0, 1) := by decide +kernel
theorem dX1_noteSum_2 : decode cX1_noteSum 2 = .ok (.getfield 16, 3) := by decide +kernel
theorem dX1_noteSum_5 : decode cX1_noteSum 5 = .ok (.aload_n 0, 1) := by decide +kernel
theorem dX1_noteSum_6 : decode cX1_noteSum 6 = .ok (.getfield 7, 3) := by decide +kernel
theorem dX1_noteSum_9 : decode cX1_noteSum 9 = .ok (.aload_n 0, 1) := by decide +kernel
theorem dX1_noteSum_10 : decode cX1_noteSum 10 = .ok (.getfield 13, 3) := by decide +kernel
theorem dX1_noteSum_13 : decode cX1_noteSum 13 = .ok (.iadd, 1) := by decide +kernel
theorem dX1_noteSum_14 : decode cX1_noteSum 14 = .ok (.invokestatic 32, 3) := by decide +kernel
theorem dX1_noteSum_17 : decode cX1_noteSum 17 = .ok (.putfield 16, 3) := by decide +kernel
theorem dX1_noteSum_20 : decode cX1_noteSum 20 = .ok (.return_, 1) := by decide +kernel
def k_X1_noteSum : List pEn := [oAload 0, oAload 0, oGet 1 3, oAload 0, oGet 1 1, oAload 0, oGet 1 2, oAdd, oMax, oPut 1 3, oVret]
def pc_X1_noteSum (i : Nat) : Nat := ([0, 1, 2, 5, 6, 9, 10, 13, 14, 17, 20] : List Nat).getD i 0
abbrev rm_X1_noteSum : Room := { frames := 1, cells := 0, slots := 0, locals := 21 }
theorem pl_X1_noteSum : pPlain yX1_noteSum 0 := by decide +kernel
set_option maxRecDepth 100000 in
set_option maxHeartbeats 4000000 in
theorem ok_k_X1_noteSum (l : Launch) : ∀ (i : Nat) (en : pEn), k_X1_noteSum[i]? = some en → EOK l cX1_noteSum yX1_noteSum.cls 1 (none) rm_X1_noteSum 0 pc_X1_noteSum i en := by
  refine allOK_at ?_
  refine And.intro (okAload_n dX1_noteSum_0 rfl rfl) ?_
  refine And.intro (okAload_n dX1_noteSum_1 rfl rfl) ?_
  refine And.intro (okGet (C := RX1) (T := TX1) (N := 4) dX1_noteSum_2 rfl rfl (by decide) inX1 wm_1_38) ?_
  refine And.intro (okAload_n dX1_noteSum_5 rfl rfl) ?_
  refine And.intro (okGet (C := RX1) (T := TX1) (N := 4) dX1_noteSum_6 rfl rfl (by decide) inX1 wm_1_33) ?_
  refine And.intro (okAload_n dX1_noteSum_9 rfl rfl) ?_
  refine And.intro (okGet (C := RX1) (T := TX1) (N := 4) dX1_noteSum_10 rfl rfl (by decide) inX1 wm_1_36) ?_
  refine And.intro (okAdd dX1_noteSum_13 rfl) ?_
  refine And.intro (okMax dX1_noteSum_14 rfl wm_3_41 wm_2_115 wm_1_11 wm_2_116 (by decide) (by decide)) ?_
  refine And.intro (okPut (C := RX1) (T := TX1) (N := 4) dX1_noteSum_17 rfl rfl (by decide) inX1 tyX1_ok nmX1 rfl rfl wm_1_38) ?_
  refine And.intro (okVret dX1_noteSum_20 rfl) ?_
  exact trivial
def G_X1_noteSum : pG := fun args w => match args, w with
  | [.ref 0], [.inr (1, [.int r, .int f, .int g, .int z])] => some (none, [.inr (1, [.int r, .int f, .int g, .int (mxI z (f + g))])])
  | _, _ => none
set_option maxHeartbeats 400000 in
set_option maxRecDepth 100000 in
theorem run_X1_noteSum (rg : pRg) (r f g z : Int32) : ∃ fu, ex k_X1_noteSum fu 0 [(0, .ref 0)] [] [.inr (1, [.int r, .int f, .int g, .int z])] rg = some (none, [.inr (1, [.int r, .int f, .int g, .int (mxI z (f + g))])], rg) := by
  refine ⟨40, ?_⟩
  rfl
theorem ct_X1_noteSum (l : Launch) : ∀ args0 w0 v0 w1 rg, G_X1_noteSum args0 w0 = some (v0, w1) → pCT l yX1_noteSum (pWs yX1_noteSum cX1_noteSum 1 (none)) rm_X1_noteSum args0 w0 rg (v0, w1, rg) := by
  intro args0 w0 v0 w1 rg h
  unfold G_X1_noteSum at h
  split at h
  next =>
    cases h
    exact met_of_ex (by decide) (ok_k_X1_noteSum l) rfl (run_X1_noteSum rg _ _ _ _) (Nat.le_of_ble_eq_true rfl) rfl (Nat.le_refl _) (Nat.le_of_ble_eq_true rfl) (Nat.zero_le _) rfl rfl
  next => cases h
def F_X1_noteSum : pF := frN G_X1_noteSum
theorem ok_F_X1_noteSum (l : Launch) : pFOK l yX1_noteSum (pWs yX1_noteSum cX1_noteSum 1 (none)) rm_X1_noteSum F_X1_noteSum := pFOK_fr (fun a b c d h => ct_X1_noteSum l a b c d rg00 h) (fun a b c d h => by
  unfold G_X1_noteSum at h
  split at h
  next => simp
  next => cases h)
theorem rc_F_X1_noteSum : pRcv 1 F_X1_noteSum := pRcv_fr (fun a b c d h => by
  unfold G_X1_noteSum at h
  split at h
  next => simp
  next => cases h) (fun a b c d h => by
  unfold G_X1_noteSum at h
  split at h
  next => exact ⟨_, _, _, rfl, rfl⟩
  next => cases h)
end
end
section
noncomputable section
/-! COPIES, ACCOUNTS, CONTROLLERS, SCHEDULES -/
theorem dX8_copyNumbers_0 : decode cX8_copyNumbers 0 = .ok (.iconst 0, 1) := by decide +kernel
theorem dX8_copyNumbers_1 : decode cX8_copyNumbers 1 = .ok (.istore_n 2, 1) := by decide +kernel
theorem dX8_copyNumbers_2 : decode cX8_copyNumbers 2 = .ok (.iload_n 2, 1) := by decide +kernel
theorem dX8_copyNumbers_3 : decode cX8_copyNumbers 3 = .ok (.aload_n 0, 1) := by decide +kernel
theorem dX8_copyNumbers_4 : decode cX8_copyNumbers 4 = .ok (.arraylength, 1) := by decide +kernel
theorem dX8_copyNumbers_5 : decode cX8_copyNumbers 5 = .ok (.if_icmp .ge 21, 3) := by decide +kernel
theorem dX8_copyNumbers_8 : decode cX8_copyNumbers 8 = .ok (.iload_n 2, 1) := by decide +kernel
theorem dX8_copyNumbers_9 : decode cX8_copyNumbers 9 = .ok (.aload_n 1, 1) := by decide +kernel
theorem dX8_copyNumbers_10 : decode cX8_copyNumbers 10 = .ok (.arraylength, 1) := by decide +kernel
theorem dX8_copyNumbers_11 : decode cX8_copyNumbers 11 = .ok (.if_icmp .ge 15, 3) := by decide +kernel
theorem dX8_copyNumbers_14 : decode cX8_copyNumbers 14 = .ok (.aload_n 1, 1) := by decide +kernel
theorem dX8_copyNumbers_15 : decode cX8_copyNumbers 15 = .ok (.iload_n 2, 1) := by decide +kernel
theorem dX8_copyNumbers_16 : decode cX8_copyNumbers 16 = .ok (.aload_n 0, 1) := by decide +kernel
theorem dX8_copyNumbers_17 : decode cX8_copyNumbers 17 = .ok (.iload_n 2, 1) := by decide +kernel
theorem dX8_copyNumbers_18 : decode cX8_copyNumbers 18 = .ok (.iaload, 1) := by decide +kernel
theorem dX8_copyNumbers_19 : decode cX8_copyNumbers 19 = .ok (.iastore, 1) := by decide +kernel
theorem dX8_copyNumbers_20 : decode cX8_copyNumbers 20 = .ok (.iinc 2 1, 3) := by decide +kernel
theorem dX8_copyNumbers_23 : decode cX8_copyNumbers 23 = .ok (.goto (-21), 3) := by decide +kernel
theorem dX8_copyNumbers_26 : decode cX8_copyNumbers 26 = .ok (.return_, 1) := by decide +kernel
def k_X8_copyNumbers : List pEn := [oConst (0), oIstore 2, oIload 2, oAload 0, oAlen, oCge 18, oIload 2, oAload 1, oAlen, oCge 18, oAload 1, oIload 2, oAload 0, oIload 2, oIald, oIast, oIinc 2 (1), oGoto 2, oVret]
def pc_X8_copyNumbers (i : Nat) : Nat := ([0, 1, 2, 3, 4, 5, 8, 9, 10, 11, 14, 15, 16, 17, 18, 19, 20, 23, 26] : List Nat).getD i 0
abbrev rm_X8_copyNumbers : Room := { frames := 0, cells := 0, slots := 0, locals := 0 }
theorem pl_X8_copyNumbers : pPlain yX8_copyNumbers 2 := by decide +kernel
set_option maxRecDepth 100000 in
set_option maxHeartbeats 4000000 in
theorem ok_k_X8_copyNumbers (l : Launch) : ∀ (i : Nat) (en : pEn), k_X8_copyNumbers[i]? = some en → EOK l cX8_copyNumbers yX8_copyNumbers.cls 3 (none) rm_X8_copyNumbers 0 pc_X8_copyNumbers i en := by
  refine allOK_at ?_
  refine And.intro (okIconst dX8_copyNumbers_0 rfl (by first | rfl | decide)) ?_
  refine And.intro (okIstore_n dX8_copyNumbers_1 rfl rfl (by decide)) ?_
  refine And.intro (okIload_n dX8_copyNumbers_2 rfl rfl) ?_
  refine And.intro (okAload_n dX8_copyNumbers_3 rfl rfl) ?_
  refine And.intro (okAlen dX8_copyNumbers_4 rfl) ?_
  refine And.intro (okCge dX8_copyNumbers_5 rfl (by rfl)) ?_
  refine And.intro (okIload_n dX8_copyNumbers_8 rfl rfl) ?_
  refine And.intro (okAload_n dX8_copyNumbers_9 rfl rfl) ?_
  refine And.intro (okAlen dX8_copyNumbers_10 rfl) ?_
  refine And.intro (okCge dX8_copyNumbers_11 rfl (by rfl)) ?_
  refine And.intro (okAload_n dX8_copyNumbers_14 rfl rfl) ?_
  refine And.intro (okIload_n dX8_copyNumbers_15 rfl rfl) ?_
  refine And.intro (okAload_n dX8_copyNumbers_16 rfl rfl) ?_
  refine And.intro (okIload_n dX8_copyNumbers_17 rfl rfl) ?_
  refine And.intro (okIald dX8_copyNumbers_18 rfl) ?_
  refine And.intro (okIast dX8_copyNumbers_19 rfl) ?_
  refine And.intro (okIinc dX8_copyNumbers_20 rfl (by first | rfl | decide) (by decide)) ?_
  refine And.intro (okGoto dX8_copyNumbers_23 (by rfl)) ?_
  refine And.intro (okVret dX8_copyNumbers_26 rfl) ?_
  exact trivial
def cpN (n : Nat) (f g : Nat → Int32) : Nat → Int32 := fun j => if j < n then f j else g j
theorem cpN_0 (f g : Nat → Int32) : cpN 0 f g = g := by funext j; simp [cpN]
theorem cpN_s (k : Nat) (f g : Nat → Int32) : upd (cpN k f g) k (f k) = cpN (k + 1) f g := by
  funext j
  by_cases h : j = k
  · subst h; simp [upd, cpN]
  · have : (j < k) = (j < k + 1) := by rw [eq_iff_iff]; omega
    simp [upd, cpN, h, this]
theorem ex_at {code : List pEn} {i i' : Nat} {ls ls' : pLs} {st st' : pSt} {w w' : pWd} {rg : pRg} {o : pOut} (h : ∃ n, ex code n i' ls' st' w' rg = some o) (he : ∀ n, ex code (n + 1) i ls st w rg = ex code (n + 1) i' ls' st' w' rg) : ∃ n, ex code n i ls st w rg = some o := by
  obtain ⟨n, hn⟩ := h
  obtain ⟨m, rfl⟩ := ex_pos hn
  exact ⟨m + 1, (he m).trans hn⟩
set_option maxHeartbeats 1000000 in
theorem lp_copy (rg : pRg) (n : Nat) (f g : Nat → Int32) (hn : n ≤ 1000) : ∀ (d k : Nat), k + d = n → ∃ m, ex k_X8_copyNumbers m 2 [(2, .int (nI k)), (0, .ref 0), (1, .ref 1)] [] [.inl (0, n, .inl f), .inl (0, n, .inl (cpN k f g))] rg = some (none, [.inl (0, n, .inl f), .inl (0, n, .inl (cpN n f g))], rg) := by
  intro d
  induction d with
  | zero =>
    intro k hk
    obtain rfl : k = n := by omega
    refine ⟨5, ?_⟩
    conv => lhs; whnf
    refine (pif_t (nI_le (Nat.le_refl _) (by omega))).trans ?_
    rfl
  | succ d ih =>
    intro k hk
    obtain ⟨m, hm⟩ := ih (k + 1) (by omega)
    refine ⟨m + 1, ?_⟩
    conv => lhs; whnf
    refine (pif_f (nI_ge (a := k) (b := n) (by omega) (by omega))).trans ?_
    conv => lhs; whnf
    refine (pif_f (nI_ge (a := k) (b := n) (by omega) (by omega))).trans ?_
    conv => lhs; whnf
    refine (pif_f (nI_in (c := k) (N := n) (by omega) (by omega))).trans ?_
    conv => lhs; whnf
    refine (pif_f (nI_in (c := k) (N := n) (by omega) (by omega))).trans ?_
    conv => lhs; whnf
    rw [nI_clamp (by omega : k < 2 ^ 31), cpN_s, nI_1]
    exact hm
set_option maxHeartbeats 1000000 in
theorem lp_copyC (rg : pRg) (g : Nat → Int32) : ∀ (d k : Nat), k + d = 9 → ∃ m, ex k_X8_copyNumbers m 2 [(2, .int (nI k)), (0, .ref 1000000), (1, .ref 0)] [] [.inl (0, 9, .inl (cpN k (fun j => ([40, 960, 500, 300, 30, 3, 10, 500, 5] : List Int32).getD j 0) g))] rg = some (none, [.inl (0, 9, .inl (cpN 9 (fun j => ([40, 960, 500, 300, 30, 3, 10, 500, 5] : List Int32).getD j 0) g))], rg) := by
  intro d
  induction d with
  | zero =>
    intro k hk
    obtain rfl : k = 9 := by omega
    refine ⟨5, ?_⟩
    conv => lhs; whnf
    refine (pif_t (by decide)).trans ?_
    rfl
  | succ d ih =>
    intro k hk
    obtain ⟨m, hm⟩ := ih (k + 1) (by omega)
    refine ⟨m + 1, ?_⟩
    conv => lhs; whnf
    refine (pif_f (nI_ge (a := k) (b := 9) (by omega) (by omega))).trans ?_
    conv => lhs; whnf
    refine (pif_f (nI_ge (a := k) (b := 9) (by omega) (by omega))).trans ?_
    conv => lhs; whnf
    refine (pif_f (nI_in (c := k) (N := 9) (by omega) (by omega))).trans ?_
    conv => lhs; whnf
    refine (pif_f (nI_in (c := k) (N := 9) (by omega) (by omega))).trans ?_
    conv => lhs; whnf
    have e := cpN_s k (fun j => ([40, 960, 500, 300, 30, 3, 10, 500, 5] : List Int32).getD j 0) g
    rw [nI_clamp (by omega : k < 2 ^ 31), nI_1]
    rw [e]
    exact hm
def cFirst : Nat → Int32 := fun j => ([40, 960, 500, 300, 30, 3, 10, 500, 5] : List Int32).getD j 0
/-- copyNumbers: the second row is the first -/
def G_X8_copyNumbers : pG := fun args w => match args, w with
  | [.ref 0, .ref 1], [.inl (0, n, .inl f), .inl (0, n', .inl _)] => match Nat.beq n' n with
    | true => match Nat.ble n 1000 with
      | true => some (none, [.inl (0, n, .inl f), .inl (0, n, .inl f)])
      | false => none
    | false => none
  | [.ref 1000000, .ref 0], [.inl (0, 9, .inl _)] => some (none, [.inl (0, 9, .inl cFirst)])
  | _, _ => none
theorem wget2 {a b : va_E} {k : Nat} {x : va_E} (h : wget [a, b] k = some x) : (k = 0 ∧ x = a) ∨ (k = 1 ∧ x = b) := by
  match k, h with
  | 0, h => exact Or.inl ⟨rfl, (Option.some.inj h).symm⟩
  | 1, h => exact Or.inr ⟨rfl, (Option.some.inj h).symm⟩
theorem wget1 {a : va_E} {k : Nat} {x : va_E} (h : wget [a] k = some x) : k = 0 ∧ x = a := by
  match k, h with
  | 0, h => exact ⟨rfl, (Option.some.inj h).symm⟩
theorem ct_X8_copyNumbers (l : Launch) : ∀ args0 w0 v0 w1 rg, G_X8_copyNumbers args0 w0 = some (v0, w1) → pCT l yX8_copyNumbers (pWs yX8_copyNumbers cX8_copyNumbers 3 none) rm_X8_copyNumbers args0 w0 rg (v0, w1, rg) := by
  intro args0 w0 v0 w1 rg h
  unfold G_X8_copyNumbers at h
  split at h
  next n f n' g =>
    split at h
    next h1 =>
      split at h
      next h2 =>
        have e1 : n' = n := Nat.eq_of_beq_eq_true h1
        have e2 : n ≤ 1000 := Nat.le_of_ble_eq_true h2
        subst e1
        cases h
        have hr := lp_copy rg n' f g e2 n' 0 (by omega)
        rw [cpN_0] at hr
        have hrun : ∃ m, ex k_X8_copyNumbers m 0 [(0, .ref 0), (1, .ref 1)] [] [.inl (0, n', .inl f), .inl (0, n', .inl g)] rg = some (none, [.inl (0, n', .inl f), .inl (0, n', .inl (cpN n' f g))], rg) := ex_at hr (fun _ => rfl)
        refine pCT_eqv (met_of_ex (by decide) (ok_k_X8_copyNumbers l) rfl hrun (Nat.le_of_ble_eq_true rfl) rfl (Nat.le_refl _) (Nat.le_of_ble_eq_true rfl) (Nat.zero_le _) rfl rfl) ⟨rfl, fun k x hx => ?_⟩
        rcases wget2 hx with ⟨rfl, rfl⟩ | ⟨rfl, rfl⟩
        · exact ⟨_, rfl, Or.inl rfl⟩
        · exact ⟨_, rfl, Or.inr ⟨0, n', _, _, rfl, rfl, fun j hj => by simp [cpN, hj]⟩⟩
      next => cases h
    next => cases h
  next g =>
    cases h
    have hr := lp_copyC rg g 9 0 (by omega)
    rw [cpN_0] at hr
    have hrun := ex_at (i := 0) (ls := [(0, .ref 1000000), (1, .ref 0)]) (st := []) (w := [.inl (0, 9, .inl g)]) hr (fun _ => rfl)
    refine pCT_eqv (met_of_ex (by decide) (ok_k_X8_copyNumbers l) rfl hrun (Nat.le_of_ble_eq_true rfl) rfl (Nat.le_refl _) (Nat.le_of_ble_eq_true rfl) (Nat.zero_le _) rfl rfl) ⟨rfl, fun k x hx => ?_⟩
    obtain ⟨rfl, rfl⟩ := wget1 hx
    exact ⟨_, rfl, Or.inr ⟨0, 9, _, _, rfl, rfl, fun j hj => by simp [cpN, hj, cFirst]⟩⟩
  next => cases h
theorem sz_X8_copyNumbers : ∀ a b c d, G_X8_copyNumbers a b = some (c, d) → b.length ≤ 64 := by
  intro a b c d h
  unfold G_X8_copyNumbers at h
  split at h
  next => simp
  next => simp
  next => cases h
def F_X8_copyNumbers : pF := frN G_X8_copyNumbers
theorem ok_F_X8_copyNumbers (l : Launch) : pFOK l yX8_copyNumbers (pWs yX8_copyNumbers cX8_copyNumbers 3 none) rm_X8_copyNumbers F_X8_copyNumbers := pFOK_fr (fun a b c d h => ct_X8_copyNumbers l a b c d rg00 h) sz_X8_copyNumbers
def zr (k : Nat) (p : Nat → Int32) : Nat → Int32 := fun j => if j < k then 0 else p j
theorem zr_0 (p : Nat → Int32) : zr 0 p = p := by funext j; simp [zr]
theorem zr_s (k : Nat) (p : Nat → Int32) : upd (zr k p) k 0 = zr (k + 1) p := by
  funext j
  by_cases h : j = k
  · subst h; simp [upd, zr]
  · have : (j < k) = (j < k + 1) := by rw [eq_iff_iff]; omega
    simp [upd, zr, h, this]
def sumP (p : Nat → Int32) : Nat → Int32
  | 0 => 0
  | k + 1 => sumP p k + p k
theorem dX0_clear_0 : decode cX0_clear 0 = .ok (.aload_n 0, 1) := by decide +kernel
theorem dX0_clear_1 : decode cX0_clear 1 = .ok (.iconst 0, 1) := by decide +kernel
theorem dX0_clear_2 : decode cX0_clear 2 = .ok (.putfield 9, 3) := by decide +kernel
theorem dX0_clear_5 : decode cX0_clear 5 = .ok (.aload_n 0, 1) := by decide +kernel
theorem dX0_clear_6 : decode cX0_clear 6 = .ok (.iconst 0, 1) := by decide +kernel
theorem dX0_clear_7 : decode cX0_clear 7 = .ok (.putfield 15, 3) := by decide +kernel
theorem dX0_clear_10 : decode cX0_clear 10 = .ok (.aload_n 0, 1) := by decide +kernel
theorem dX0_clear_11 : decode cX0_clear 11 = .ok (.iconst 0, 1) := by decide +kernel
theorem dX0_clear_12 : decode cX0_clear 12 = .ok (.putfield 18, 3) := by decide +kernel
theorem dX0_clear_15 : decode cX0_clear 15 = .ok (.aload_n 0, 1) := by decide +kernel
theorem dX0_clear_16 : decode cX0_clear 16 = .ok (.iconst 0, 1) := by decide +kernel
theorem dX0_clear_17 : decode cX0_clear 17 = .ok (.putfield 21, 3) := by decide +kernel
theorem dX0_clear_20 : decode cX0_clear 20 = .ok (.aload_n 0, 1) := by decide +kernel
theorem dX0_clear_21 : decode cX0_clear 21 = .ok (.iconst 0, 1) := by decide +kernel
theorem dX0_clear_22 : decode cX0_clear 22 = .ok (.putfield 24, 3) := by decide +kernel
theorem dX0_clear_25 : decode cX0_clear 25 = .ok (.iconst 0, 1) := by decide +kernel
theorem dX0_clear_26 : decode cX0_clear 26 = .ok (.istore_n 1, 1) := by decide +kernel
theorem dX0_clear_27 : decode cX0_clear 27 = .ok (.iload_n 1, 1) := by decide +kernel
theorem dX0_clear_28 : decode cX0_clear 28 = .ok (.aload_n 0, 1) := by decide +kernel
theorem dX0_clear_29 : decode cX0_clear 29 = .ok (.getfield 27, 3) := by decide +kernel
theorem dX0_clear_32 : decode cX0_clear 32 = .ok (.arraylength, 1) := by decide +kernel
theorem dX0_clear_33 : decode cX0_clear 33 = .ok (.if_icmp .ge 16, 3) := by decide +kernel
theorem dX0_clear_36 : decode cX0_clear 36 = .ok (.aload_n 0, 1) := by decide +kernel
theorem dX0_clear_37 : decode cX0_clear 37 = .ok (.getfield 27, 3) := by decide +kernel
theorem dX0_clear_40 : decode cX0_clear 40 = .ok (.iload_n 1, 1) := by decide +kernel
theorem dX0_clear_41 : decode cX0_clear 41 = .ok (.iconst 0, 1) := by decide +kernel
theorem dX0_clear_42 : decode cX0_clear 42 = .ok (.iastore, 1) := by decide +kernel
theorem dX0_clear_43 : decode cX0_clear 43 = .ok (.iinc 1 1, 3) := by decide +kernel
theorem dX0_clear_46 : decode cX0_clear 46 = .ok (.goto (-19), 3) := by decide +kernel
theorem dX0_clear_49 : decode cX0_clear 49 = .ok (.return_, 1) := by decide +kernel
def k_X0_clear : List pEn := [oAload 0, oConst (0), oPut 0 0, oAload 0, oConst (0), oPut 0 1, oAload 0, oConst (0), oPut 0 2, oAload 0, oConst (0), oPut 0 3, oAload 0, oConst (0), oPut 0 4, oConst (0), oIstore 1, oIload 1, oAload 0, oGet 0 5, oAlen, oCge 29, oAload 0, oGet 0 5, oIload 1, oConst (0), oIast, oIinc 1 (1), oGoto 17, oVret]
def pc_X0_clear (i : Nat) : Nat := ([0, 1, 2, 5, 6, 7, 10, 11, 12, 15, 16, 17, 20, 21, 22, 25, 26, 27, 28, 29, 32, 33, 36, 37, 40, 41, 42, 43, 46, 49] : List Nat).getD i 0
abbrev rm_X0_clear : Room := { frames := 0, cells := 0, slots := 0, locals := 0 }
theorem pl_X0_clear : pPlain yX0_clear 0 := by decide +kernel
set_option maxRecDepth 100000 in
set_option maxHeartbeats 4000000 in
theorem ok_k_X0_clear (l : Launch) : ∀ (i : Nat) (en : pEn), k_X0_clear[i]? = some en → EOK l cX0_clear yX0_clear.cls 2 (none) rm_X0_clear 0 pc_X0_clear i en := by
  refine allOK_at ?_
  refine And.intro (okAload_n dX0_clear_0 rfl rfl) ?_
  refine And.intro (okIconst dX0_clear_1 rfl (by first | rfl | decide)) ?_
  refine And.intro (okPut (C := RX0) (T := TX0) (N := 6) dX0_clear_2 rfl rfl (by decide) inX0 tyX0_ok nmX0 rfl rfl wm_1_55) ?_
  refine And.intro (okAload_n dX0_clear_5 rfl rfl) ?_
  refine And.intro (okIconst dX0_clear_6 rfl (by first | rfl | decide)) ?_
  refine And.intro (okPut (C := RX0) (T := TX0) (N := 6) dX0_clear_7 rfl rfl (by decide) inX0 tyX0_ok nmX0 rfl rfl wm_1_58) ?_
  refine And.intro (okAload_n dX0_clear_10 rfl rfl) ?_
  refine And.intro (okIconst dX0_clear_11 rfl (by first | rfl | decide)) ?_
  refine And.intro (okPut (C := RX0) (T := TX0) (N := 6) dX0_clear_12 rfl rfl (by decide) inX0 tyX0_ok nmX0 rfl rfl wm_1_60) ?_
  refine And.intro (okAload_n dX0_clear_15 rfl rfl) ?_
  refine And.intro (okIconst dX0_clear_16 rfl (by first | rfl | decide)) ?_
  refine And.intro (okPut (C := RX0) (T := TX0) (N := 6) dX0_clear_17 rfl rfl (by decide) inX0 tyX0_ok nmX0 rfl rfl wm_1_63) ?_
  refine And.intro (okAload_n dX0_clear_20 rfl rfl) ?_
  refine And.intro (okIconst dX0_clear_21 rfl (by first | rfl | decide)) ?_
  refine And.intro (okPut (C := RX0) (T := TX0) (N := 6) dX0_clear_22 rfl rfl (by decide) inX0 tyX0_ok nmX0 rfl rfl wm_1_65) ?_
  refine And.intro (okIconst dX0_clear_25 rfl (by first | rfl | decide)) ?_
  refine And.intro (okIstore_n dX0_clear_26 rfl rfl (by decide)) ?_
  refine And.intro (okIload_n dX0_clear_27 rfl rfl) ?_
  refine And.intro (okAload_n dX0_clear_28 rfl rfl) ?_
  refine And.intro (okGet (C := RX0) (T := TX0) (N := 6) dX0_clear_29 rfl rfl (by decide) inX0 wm_1_68) ?_
  refine And.intro (okAlen dX0_clear_32 rfl) ?_
  refine And.intro (okCge dX0_clear_33 rfl (by rfl)) ?_
  refine And.intro (okAload_n dX0_clear_36 rfl rfl) ?_
  refine And.intro (okGet (C := RX0) (T := TX0) (N := 6) dX0_clear_37 rfl rfl (by decide) inX0 wm_1_68) ?_
  refine And.intro (okIload_n dX0_clear_40 rfl rfl) ?_
  refine And.intro (okIconst dX0_clear_41 rfl (by first | rfl | decide)) ?_
  refine And.intro (okIast dX0_clear_42 rfl) ?_
  refine And.intro (okIinc dX0_clear_43 rfl (by first | rfl | decide) (by decide)) ?_
  refine And.intro (okGoto dX0_clear_46 (by rfl)) ?_
  refine And.intro (okVret dX0_clear_49 rfl) ?_
  exact trivial
set_option maxHeartbeats 1000000 in
theorem lp_clear (rg : pRg) (p : Nat → Int32) : ∀ (d k : Nat), k + d = 4 → ∃ m, ex k_X0_clear m 17 [(1, .int (nI k)), (0, .ref 0)] [] [.inr (0, [.int 0, .int 0, .int 0, .int 0, .int 0, .ref 1]), .inl (0, 4, .inl (zr k p))] rg = some (none, [.inr (0, [.int 0, .int 0, .int 0, .int 0, .int 0, .ref 1]), .inl (0, 4, .inl (zr 4 p))], rg) := by
  intro d
  induction d with
  | zero =>
    intro k hk
    obtain rfl : k = 4 := by omega
    refine ⟨5, ?_⟩
    conv => lhs; whnf
    refine (pif_t (by decide)).trans ?_
    rfl
  | succ d ih =>
    intro k hk
    obtain ⟨m, hm⟩ := ih (k + 1) (by omega)
    refine ⟨m + 1, ?_⟩
    conv => lhs; whnf
    refine (pif_f (nI_ge (a := k) (b := 4) (by omega) (by omega))).trans ?_
    conv => lhs; whnf
    refine (pif_f (nI_in (c := k) (N := 4) (by omega) (by omega))).trans ?_
    conv => lhs; whnf
    rw [nI_clamp (by omega : k < 2 ^ 31), zr_s, nI_1]
    exact hm
def G_X0_clear : pG := fun args w => match args, w with
  | [.ref 0], [.inr (0, [.int a0, .int a1, .int a2, .int a3, .int a4, .ref 1]), .inl (0, 4, .inl p)] => some (none, [.inr (0, [.int 0, .int 0, .int 0, .int 0, .int 0, .ref 1]), .inl (0, 4, .inl (zr 4 p))])
  | _, _ => none
set_option maxHeartbeats 400000 in
set_option maxRecDepth 100000 in
theorem run_X0_clear (rg : pRg) (a0 a1 a2 a3 a4 : Int32) (p : Nat → Int32) : ∃ fu, ex k_X0_clear fu 0 [(0, .ref 0)] [] [.inr (0, [.int a0, .int a1, .int a2, .int a3, .int a4, .ref 1]), .inl (0, 4, .inl p)] rg = some (none, [.inr (0, [.int 0, .int 0, .int 0, .int 0, .int 0, .ref 1]), .inl (0, 4, .inl (zr 4 p))], rg) := by
  have h := lp_clear rg p 4 0 (by omega)
  rw [zr_0] at h
  exact ex_at h (fun _ => rfl)
theorem ct_X0_clear (l : Launch) : ∀ args0 w0 v0 w1 rg, G_X0_clear args0 w0 = some (v0, w1) → pCT l yX0_clear (pWs yX0_clear cX0_clear 2 (none)) rm_X0_clear args0 w0 rg (v0, w1, rg) := by
  intro args0 w0 v0 w1 rg h
  unfold G_X0_clear at h
  split at h
  next =>
    cases h
    exact met_of_ex (by decide) (ok_k_X0_clear l) rfl (run_X0_clear rg _ _ _ _ _ _) (Nat.le_of_ble_eq_true rfl) rfl (Nat.le_refl _) (Nat.le_of_ble_eq_true rfl) (Nat.zero_le _) rfl rfl
  next => cases h
def F_X0_clear : pF := frN G_X0_clear
theorem ok_F_X0_clear (l : Launch) : pFOK l yX0_clear (pWs yX0_clear cX0_clear 2 (none)) rm_X0_clear F_X0_clear := pFOK_fr (fun a b c d h => ct_X0_clear l a b c d rg00 h) (fun a b c d h => by
  unfold G_X0_clear at h
  split at h
  next => simp
  next => cases h)
theorem rc_F_X0_clear : pRcv 0 F_X0_clear := pRcv_fr (fun a b c d h => by
  unfold G_X0_clear at h
  split at h
  next => simp
  next => cases h) (fun a b c d h => by
  unfold G_X0_clear at h
  split at h
  next => exact ⟨_, _, _, rfl, rfl⟩
  next => cases h)
theorem dX0_copyFrom_0 : decode cX0_copyFrom 0 = .ok (.aload_n 0, 1) := by decide +kernel
theorem dX0_copyFrom_1 : decode cX0_copyFrom 1 = .ok (.aload_n 1, 1) := by decide +kernel
theorem dX0_copyFrom_2 : decode cX0_copyFrom 2 = .ok (.getfield 9, 3) := by decide +kernel
theorem dX0_copyFrom_5 : decode cX0_copyFrom 5 = .ok (.putfield 9, 3) := by decide +kernel
theorem dX0_copyFrom_8 : decode cX0_copyFrom 8 = .ok (.aload_n 0, 1) := by decide +kernel
theorem dX0_copyFrom_9 : decode cX0_copyFrom 9 = .ok (.aload_n 1, 1) := by decide +kernel
theorem dX0_copyFrom_10 : decode cX0_copyFrom 10 = .ok (.getfield 15, 3) := by decide +kernel
theorem dX0_copyFrom_13 : decode cX0_copyFrom 13 = .ok (.putfield 15, 3) := by decide +kernel
theorem dX0_copyFrom_16 : decode cX0_copyFrom 16 = .ok (.aload_n 0, 1) := by decide +kernel
theorem dX0_copyFrom_17 : decode cX0_copyFrom 17 = .ok (.aload_n 1, 1) := by decide +kernel
theorem dX0_copyFrom_18 : decode cX0_copyFrom 18 = .ok (.getfield 18, 3) := by decide +kernel
theorem dX0_copyFrom_21 : decode cX0_copyFrom 21 = .ok (.putfield 18, 3) := by decide +kernel
theorem dX0_copyFrom_24 : decode cX0_copyFrom 24 = .ok (.aload_n 0, 1) := by decide +kernel
theorem dX0_copyFrom_25 : decode cX0_copyFrom 25 = .ok (.aload_n 1, 1) := by decide +kernel
theorem dX0_copyFrom_26 : decode cX0_copyFrom 26 = .ok (.getfield 21, 3) := by decide +kernel
theorem dX0_copyFrom_29 : decode cX0_copyFrom 29 = .ok (.putfield 21, 3) := by decide +kernel
theorem dX0_copyFrom_32 : decode cX0_copyFrom 32 = .ok (.aload_n 0, 1) := by decide +kernel
theorem dX0_copyFrom_33 : decode cX0_copyFrom 33 = .ok (.aload_n 1, 1) := by decide +kernel
theorem dX0_copyFrom_34 : decode cX0_copyFrom 34 = .ok (.getfield 24, 3) := by decide +kernel
theorem dX0_copyFrom_37 : decode cX0_copyFrom 37 = .ok (.putfield 24, 3) := by decide +kernel
theorem dX0_copyFrom_40 : decode cX0_copyFrom 40 = .ok (.aload_n 1, 1) := by decide +kernel
theorem dX0_copyFrom_41 : decode cX0_copyFrom 41 = .ok (.getfield 27, 3) := by decide +kernel
theorem dX0_copyFrom_44 : decode cX0_copyFrom 44 = .ok (.aload_n 0, 1) := by decide +kernel
theorem dX0_copyFrom_45 : decode cX0_copyFrom 45 = .ok (.getfield 27, 3) := by decide +kernel
theorem dX0_copyFrom_48 : decode cX0_copyFrom 48 = .ok (.invokestatic 31, 3) := by decide +kernel
theorem dX0_copyFrom_51 : decode cX0_copyFrom 51 = .ok (.return_, 1) := by decide +kernel
def k_X0_copyFrom : List pEn := [oAload 0, oAload 1, oGet 0 0, oPut 0 0, oAload 0, oAload 1, oGet 0 1, oPut 0 1, oAload 0, oAload 1, oGet 0 2, oPut 0 2, oAload 0, oAload 1, oGet 0 3, oPut 0 3, oAload 0, oAload 1, oGet 0 4, oPut 0 4, oAload 1, oGet 0 5, oAload 0, oGet 0 5, oCall 2 F_X8_copyNumbers, oVret]
def pc_X0_copyFrom (i : Nat) : Nat := ([0, 1, 2, 5, 8, 9, 10, 13, 16, 17, 18, 21, 24, 25, 26, 29, 32, 33, 34, 37, 40, 41, 44, 45, 48, 51] : List Nat).getD i 0
abbrev rm_X0_copyFrom : Room := { frames := 1, cells := 0, slots := 0, locals := 22 }
theorem pl_X0_copyFrom : pPlain yX0_copyFrom 1 := by decide +kernel
set_option maxRecDepth 100000 in
set_option maxHeartbeats 4000000 in
theorem ok_k_X0_copyFrom (l : Launch) : ∀ (i : Nat) (en : pEn), k_X0_copyFrom[i]? = some en → EOK l cX0_copyFrom yX0_copyFrom.cls 2 (none) rm_X0_copyFrom 0 pc_X0_copyFrom i en := by
  refine allOK_at ?_
  refine And.intro (okAload_n dX0_copyFrom_0 rfl rfl) ?_
  refine And.intro (okAload_n dX0_copyFrom_1 rfl rfl) ?_
  refine And.intro (okGet (C := RX0) (T := TX0) (N := 6) dX0_copyFrom_2 rfl rfl (by decide) inX0 wm_1_55) ?_
  refine And.intro (okPut (C := RX0) (T := TX0) (N := 6) dX0_copyFrom_5 rfl rfl (by decide) inX0 tyX0_ok nmX0 rfl rfl wm_1_55) ?_
  refine And.intro (okAload_n dX0_copyFrom_8 rfl rfl) ?_
  refine And.intro (okAload_n dX0_copyFrom_9 rfl rfl) ?_
  refine And.intro (okGet (C := RX0) (T := TX0) (N := 6) dX0_copyFrom_10 rfl rfl (by decide) inX0 wm_1_58) ?_
  refine And.intro (okPut (C := RX0) (T := TX0) (N := 6) dX0_copyFrom_13 rfl rfl (by decide) inX0 tyX0_ok nmX0 rfl rfl wm_1_58) ?_
  refine And.intro (okAload_n dX0_copyFrom_16 rfl rfl) ?_
  refine And.intro (okAload_n dX0_copyFrom_17 rfl rfl) ?_
  refine And.intro (okGet (C := RX0) (T := TX0) (N := 6) dX0_copyFrom_18 rfl rfl (by decide) inX0 wm_1_60) ?_
  refine And.intro (okPut (C := RX0) (T := TX0) (N := 6) dX0_copyFrom_21 rfl rfl (by decide) inX0 tyX0_ok nmX0 rfl rfl wm_1_60) ?_
  refine And.intro (okAload_n dX0_copyFrom_24 rfl rfl) ?_
  refine And.intro (okAload_n dX0_copyFrom_25 rfl rfl) ?_
  refine And.intro (okGet (C := RX0) (T := TX0) (N := 6) dX0_copyFrom_26 rfl rfl (by decide) inX0 wm_1_63) ?_
  refine And.intro (okPut (C := RX0) (T := TX0) (N := 6) dX0_copyFrom_29 rfl rfl (by decide) inX0 tyX0_ok nmX0 rfl rfl wm_1_63) ?_
  refine And.intro (okAload_n dX0_copyFrom_32 rfl rfl) ?_
  refine And.intro (okAload_n dX0_copyFrom_33 rfl rfl) ?_
  refine And.intro (okGet (C := RX0) (T := TX0) (N := 6) dX0_copyFrom_34 rfl rfl (by decide) inX0 wm_1_65) ?_
  refine And.intro (okPut (C := RX0) (T := TX0) (N := 6) dX0_copyFrom_37 rfl rfl (by decide) inX0 tyX0_ok nmX0 rfl rfl wm_1_65) ?_
  refine And.intro (okAload_n dX0_copyFrom_40 rfl rfl) ?_
  refine And.intro (okGet (C := RX0) (T := TX0) (N := 6) dX0_copyFrom_41 rfl rfl (by decide) inX0 wm_1_68) ?_
  refine And.intro (okAload_n dX0_copyFrom_44 rfl rfl) ?_
  refine And.intro (okGet (C := RX0) (T := TX0) (N := 6) dX0_copyFrom_45 rfl rfl (by decide) inX0 wm_1_68) ?_
  refine And.intro (okCallSN (y := yX8_copyNumbers) (host := "BrokeLoop") (oCall_is _ _ _) dX0_copyFrom_48 rfl (ok_F_X8_copyNumbers l) (by decide) wm_1_134 wm_1_1 wm_1_135 pl_X8_copyNumbers (by decide)) ?_
  refine And.intro (okVret dX0_copyFrom_51 rfl) ?_
  exact trivial
def G_X0_copyFrom : pG := fun args w => match args, w with
  | [.ref 0, .ref 2], [.inr (0, [.int a0, .int a1, .int a2, .int a3, .int a4, .ref 1]), .inl (0, 4, .inl p), .inr (0, [.int b0, .int b1, .int b2, .int b3, .int b4, .ref 3]), .inl (0, 4, .inl q)] => some (none, [.inr (0, [.int b0, .int b1, .int b2, .int b3, .int b4, .ref 1]), .inl (0, 4, .inl q), .inr (0, [.int b0, .int b1, .int b2, .int b3, .int b4, .ref 3]), .inl (0, 4, .inl q)])
  | _, _ => none
set_option maxHeartbeats 400000 in
set_option maxRecDepth 100000 in
theorem run_X0_copyFrom (rg : pRg) (a0 a1 a2 a3 a4 : Int32) (p : Nat → Int32) (b0 b1 b2 b3 b4 : Int32) (q : Nat → Int32) : ∃ fu, ex k_X0_copyFrom fu 0 [(0, .ref 0), (1, .ref 2)] [] [.inr (0, [.int a0, .int a1, .int a2, .int a3, .int a4, .ref 1]), .inl (0, 4, .inl p), .inr (0, [.int b0, .int b1, .int b2, .int b3, .int b4, .ref 3]), .inl (0, 4, .inl q)] rg = some (none, [.inr (0, [.int b0, .int b1, .int b2, .int b3, .int b4, .ref 1]), .inl (0, 4, .inl q), .inr (0, [.int b0, .int b1, .int b2, .int b3, .int b4, .ref 3]), .inl (0, 4, .inl q)], rg) := by
  refine ⟨40, ?_⟩
  rfl
theorem ct_X0_copyFrom (l : Launch) : ∀ args0 w0 v0 w1 rg, G_X0_copyFrom args0 w0 = some (v0, w1) → pCT l yX0_copyFrom (pWs yX0_copyFrom cX0_copyFrom 2 (none)) rm_X0_copyFrom args0 w0 rg (v0, w1, rg) := by
  intro args0 w0 v0 w1 rg h
  unfold G_X0_copyFrom at h
  split at h
  next =>
    cases h
    exact met_of_ex (by decide) (ok_k_X0_copyFrom l) rfl (run_X0_copyFrom rg _ _ _ _ _ _ _ _ _ _ _ _) (Nat.le_of_ble_eq_true rfl) rfl (Nat.le_refl _) (Nat.le_of_ble_eq_true rfl) (Nat.zero_le _) rfl rfl
  next => cases h
def F_X0_copyFrom : pF := frN G_X0_copyFrom
theorem ok_F_X0_copyFrom (l : Launch) : pFOK l yX0_copyFrom (pWs yX0_copyFrom cX0_copyFrom 2 (none)) rm_X0_copyFrom F_X0_copyFrom := pFOK_fr (fun a b c d h => ct_X0_copyFrom l a b c d rg00 h) (fun a b c d h => by
  unfold G_X0_copyFrom at h
  split at h
  next => simp
  next => cases h)
theorem rc_F_X0_copyFrom : pRcv 0 F_X0_copyFrom := pRcv_fr (fun a b c d h => by
  unfold G_X0_copyFrom at h
  split at h
  next => simp
  next => cases h) (fun a b c d h => by
  unfold G_X0_copyFrom at h
  split at h
  next => exact ⟨_, _, _, rfl, rfl⟩
  next => cases h)
theorem dX0_paperOfAll_0 : decode cX0_paperOfAll 0 = .ok (.iconst 0, 1) := by decide +kernel
theorem dX0_paperOfAll_1 : decode cX0_paperOfAll 1 = .ok (.istore_n 1, 1) := by decide +kernel
theorem dX0_paperOfAll_2 : decode cX0_paperOfAll 2 = .ok (.iconst 0, 1) := by decide +kernel
theorem dX0_paperOfAll_3 : decode cX0_paperOfAll 3 = .ok (.istore_n 2, 1) := by decide +kernel
theorem dX0_paperOfAll_4 : decode cX0_paperOfAll 4 = .ok (.iload_n 2, 1) := by decide +kernel
theorem dX0_paperOfAll_5 : decode cX0_paperOfAll 5 = .ok (.aload_n 0, 1) := by decide +kernel
theorem dX0_paperOfAll_6 : decode cX0_paperOfAll 6 = .ok (.getfield 27, 3) := by decide +kernel
theorem dX0_paperOfAll_9 : decode cX0_paperOfAll 9 = .ok (.arraylength, 1) := by decide +kernel
theorem dX0_paperOfAll_10 : decode cX0_paperOfAll 10 = .ok (.if_icmp .ge 18, 3) := by decide +kernel
theorem dX0_paperOfAll_13 : decode cX0_paperOfAll 13 = .ok (.iload_n 1, 1) := by decide +kernel
theorem dX0_paperOfAll_14 : decode cX0_paperOfAll 14 = .ok (.aload_n 0, 1) := by decide +kernel
theorem dX0_paperOfAll_15 : decode cX0_paperOfAll 15 = .ok (.getfield 27, 3) := by decide +kernel
theorem dX0_paperOfAll_18 : decode cX0_paperOfAll 18 = .ok (.iload_n 2, 1) := by decide +kernel
theorem dX0_paperOfAll_19 : decode cX0_paperOfAll 19 = .ok (.iaload, 1) := by decide +kernel
theorem dX0_paperOfAll_20 : decode cX0_paperOfAll 20 = .ok (.iadd, 1) := by decide +kernel
theorem dX0_paperOfAll_21 : decode cX0_paperOfAll 21 = .ok (.istore_n 1, 1) := by decide +kernel
theorem dX0_paperOfAll_22 : decode cX0_paperOfAll 22 = .ok (.iinc 2 1, 3) := by decide +kernel
theorem dX0_paperOfAll_25 : decode cX0_paperOfAll 25 = .ok (.goto (-21), 3) := by decide +kernel
theorem dX0_paperOfAll_28 : decode cX0_paperOfAll 28 = .ok (.iload_n 1, 1) := by decide +kernel
theorem dX0_paperOfAll_29 : decode cX0_paperOfAll 29 = .ok (.ireturn, 1) := by decide +kernel
def k_X0_paperOfAll : List pEn := [oConst (0), oIstore 1, oConst (0), oIstore 2, oIload 2, oAload 0, oGet 0 5, oAlen, oCge 18, oIload 1, oAload 0, oGet 0 5, oIload 2, oIald, oAdd, oIstore 1, oIinc 2 (1), oGoto 4, oIload 1, oIret]
def pc_X0_paperOfAll (i : Nat) : Nat := ([0, 1, 2, 3, 4, 5, 6, 9, 10, 13, 14, 15, 18, 19, 20, 21, 22, 25, 28, 29] : List Nat).getD i 0
abbrev rm_X0_paperOfAll : Room := { frames := 0, cells := 0, slots := 0, locals := 0 }
theorem pl_X0_paperOfAll : pPlain yX0_paperOfAll 0 := by decide +kernel
set_option maxRecDepth 100000 in
set_option maxHeartbeats 4000000 in
theorem ok_k_X0_paperOfAll (l : Launch) : ∀ (i : Nat) (en : pEn), k_X0_paperOfAll[i]? = some en → EOK l cX0_paperOfAll yX0_paperOfAll.cls 3 ((some FieldType.int)) rm_X0_paperOfAll 0 pc_X0_paperOfAll i en := by
  refine allOK_at ?_
  refine And.intro (okIconst dX0_paperOfAll_0 rfl (by first | rfl | decide)) ?_
  refine And.intro (okIstore_n dX0_paperOfAll_1 rfl rfl (by decide)) ?_
  refine And.intro (okIconst dX0_paperOfAll_2 rfl (by first | rfl | decide)) ?_
  refine And.intro (okIstore_n dX0_paperOfAll_3 rfl rfl (by decide)) ?_
  refine And.intro (okIload_n dX0_paperOfAll_4 rfl rfl) ?_
  refine And.intro (okAload_n dX0_paperOfAll_5 rfl rfl) ?_
  refine And.intro (okGet (C := RX0) (T := TX0) (N := 6) dX0_paperOfAll_6 rfl rfl (by decide) inX0 wm_1_68) ?_
  refine And.intro (okAlen dX0_paperOfAll_9 rfl) ?_
  refine And.intro (okCge dX0_paperOfAll_10 rfl (by rfl)) ?_
  refine And.intro (okIload_n dX0_paperOfAll_13 rfl rfl) ?_
  refine And.intro (okAload_n dX0_paperOfAll_14 rfl rfl) ?_
  refine And.intro (okGet (C := RX0) (T := TX0) (N := 6) dX0_paperOfAll_15 rfl rfl (by decide) inX0 wm_1_68) ?_
  refine And.intro (okIload_n dX0_paperOfAll_18 rfl rfl) ?_
  refine And.intro (okIald dX0_paperOfAll_19 rfl) ?_
  refine And.intro (okAdd dX0_paperOfAll_20 rfl) ?_
  refine And.intro (okIstore_n dX0_paperOfAll_21 rfl rfl (by decide)) ?_
  refine And.intro (okIinc dX0_paperOfAll_22 rfl (by first | rfl | decide) (by decide)) ?_
  refine And.intro (okGoto dX0_paperOfAll_25 (by rfl)) ?_
  refine And.intro (okIload_n dX0_paperOfAll_28 rfl rfl) ?_
  refine And.intro (okIret dX0_paperOfAll_29 rfl) ?_
  exact trivial
set_option maxHeartbeats 1000000 in
theorem lp_paper (rg : pRg) (e : va_E) (p : Nat → Int32) (a0 a1 a2 a3 a4 : Int32) : ∀ (d k : Nat), k + d = 4 → ∃ m, ex k_X0_paperOfAll m 4 [(2, .int (nI k)), (1, .int (sumP p k)), (0, .ref 0)] [] [.inr (0, [.int a0, .int a1, .int a2, .int a3, .int a4, .ref 1]), .inl (0, 4, .inl p)] rg = some (some (.int (sumP p 4)), [.inr (0, [.int a0, .int a1, .int a2, .int a3, .int a4, .ref 1]), .inl (0, 4, .inl p)], rg) := by
  intro d
  induction d with
  | zero =>
    intro k hk
    obtain rfl : k = 4 := by omega
    refine ⟨5, ?_⟩
    conv => lhs; whnf
    refine (pif_t (by decide)).trans ?_
    rfl
  | succ d ih =>
    intro k hk
    obtain ⟨m, hm⟩ := ih (k + 1) (by omega)
    refine ⟨m + 1, ?_⟩
    conv => lhs; whnf
    refine (pif_f (nI_ge (a := k) (b := 4) (by omega) (by omega))).trans ?_
    conv => lhs; whnf
    refine (pif_f (nI_in (c := k) (N := 4) (by omega) (by omega))).trans ?_
    conv => lhs; whnf
    rw [nI_clamp (by omega : k < 2 ^ 31), nI_1]
    exact hm
def G_X0_paperOfAll : pG := fun args w => match args, w with
  | [.ref 0], [.inr (0, [.int a0, .int a1, .int a2, .int a3, .int a4, .ref 1]), .inl (0, 4, .inl p)] => some (some (.int (sumP p 4)), [.inr (0, [.int a0, .int a1, .int a2, .int a3, .int a4, .ref 1]), .inl (0, 4, .inl p)])
  | _, _ => none
set_option maxHeartbeats 400000 in
set_option maxRecDepth 100000 in
theorem run_X0_paperOfAll (rg : pRg) (a0 a1 a2 a3 a4 : Int32) (p : Nat → Int32) : ∃ fu, ex k_X0_paperOfAll fu 0 [(0, .ref 0)] [] [.inr (0, [.int a0, .int a1, .int a2, .int a3, .int a4, .ref 1]), .inl (0, 4, .inl p)] rg = some (some (.int (sumP p 4)), [.inr (0, [.int a0, .int a1, .int a2, .int a3, .int a4, .ref 1]), .inl (0, 4, .inl p)], rg) := by
  exact ex_at (lp_paper rg (.inl (0, 4, .inl p)) p a0 a1 a2 a3 a4 4 0 (by omega)) (fun _ => rfl)
theorem ct_X0_paperOfAll (l : Launch) : ∀ args0 w0 v0 w1 rg, G_X0_paperOfAll args0 w0 = some (v0, w1) → pCT l yX0_paperOfAll (pWs yX0_paperOfAll cX0_paperOfAll 3 ((some FieldType.int))) rm_X0_paperOfAll args0 w0 rg (v0, w1, rg) := by
  intro args0 w0 v0 w1 rg h
  unfold G_X0_paperOfAll at h
  split at h
  next =>
    cases h
    exact met_of_ex (by decide) (ok_k_X0_paperOfAll l) rfl (run_X0_paperOfAll rg _ _ _ _ _ _) (Nat.le_of_ble_eq_true rfl) rfl (Nat.le_refl _) (Nat.le_of_ble_eq_true rfl) (Nat.zero_le _) rfl rfl
  next => cases h
def F_X0_paperOfAll : pF := frN G_X0_paperOfAll
theorem ok_F_X0_paperOfAll (l : Launch) : pFOK l yX0_paperOfAll (pWs yX0_paperOfAll cX0_paperOfAll 3 ((some FieldType.int))) rm_X0_paperOfAll F_X0_paperOfAll := pFOK_fr (fun a b c d h => ct_X0_paperOfAll l a b c d rg00 h) (fun a b c d h => by
  unfold G_X0_paperOfAll at h
  split at h
  next => simp
  next => cases h)
theorem rc_F_X0_paperOfAll : pRcv 0 F_X0_paperOfAll := pRcv_fr (fun a b c d h => by
  unfold G_X0_paperOfAll at h
  split at h
  next => simp
  next => cases h) (fun a b c d h => by
  unfold G_X0_paperOfAll at h
  split at h
  next => exact ⟨_, _, _, rfl, rfl⟩
  next => cases h)
theorem dX2_clear_0 : decode cX2_clear 0 = .ok (.aload_n 0, 1) := by decide +kernel
theorem dX2_clear_1 : decode cX2_clear 1 = .ok (.iconst 0, 1) := by decide +kernel
theorem dX2_clear_2 : decode cX2_clear 2 = .ok (.putfield 9, 3) := by decide +kernel
theorem dX2_clear_5 : decode cX2_clear 5 = .ok (.aload_n 0, 1) := by decide +kernel
theorem dX2_clear_6 : decode cX2_clear 6 = .ok (.iconst 0, 1) := by decide +kernel
theorem dX2_clear_7 : decode cX2_clear 7 = .ok (.putfield 19, 3) := by decide +kernel
theorem dX2_clear_10 : decode cX2_clear 10 = .ok (.return_, 1) := by decide +kernel
def k_X2_clear : List pEn := [oAload 0, oConst (0), oPut 2 0, oAload 0, oConst (0), oPut 2 2, oVret]
def pc_X2_clear (i : Nat) : Nat := ([0, 1, 2, 5, 6, 7, 10] : List Nat).getD i 0
abbrev rm_X2_clear : Room := { frames := 0, cells := 0, slots := 0, locals := 0 }
theorem pl_X2_clear : pPlain yX2_clear 0 := by decide +kernel
set_option maxRecDepth 100000 in
set_option maxHeartbeats 4000000 in
theorem ok_k_X2_clear (l : Launch) : ∀ (i : Nat) (en : pEn), k_X2_clear[i]? = some en → EOK l cX2_clear yX2_clear.cls 1 (none) rm_X2_clear 0 pc_X2_clear i en := by
  refine allOK_at ?_
  refine And.intro (okAload_n dX2_clear_0 rfl rfl) ?_
  refine And.intro (okIconst dX2_clear_1 rfl (by first | rfl | decide)) ?_
  refine And.intro (okPut (C := RX2) (T := TX2) (N := 3) dX2_clear_2 rfl rfl (by decide) inX2 tyX2_ok nmX2 rfl rfl wm_1_91) ?_
  refine And.intro (okAload_n dX2_clear_5 rfl rfl) ?_
  refine And.intro (okIconst dX2_clear_6 rfl (by first | rfl | decide)) ?_
  refine And.intro (okPut (C := RX2) (T := TX2) (N := 3) dX2_clear_7 rfl rfl (by decide) inX2 tyX2_ok nmX2 rfl rfl wm_1_95) ?_
  refine And.intro (okVret dX2_clear_10 rfl) ?_
  exact trivial
def G_X2_clear : pG := fun args w => match args, w with
  | [.ref 0], [.inr (2, [.int v, .ref 1, .int z]), .inl (0, 9, .inl f)] => some (none, [.inr (2, [.int 0, .ref 1, .int 0]), .inl (0, 9, .inl f)])
  | _, _ => none
set_option maxHeartbeats 400000 in
set_option maxRecDepth 100000 in
theorem run_X2_clear (rg : pRg) (v z : Int32) (f : Nat → Int32) : ∃ fu, ex k_X2_clear fu 0 [(0, .ref 0)] [] [.inr (2, [.int v, .ref 1, .int z]), .inl (0, 9, .inl f)] rg = some (none, [.inr (2, [.int 0, .ref 1, .int 0]), .inl (0, 9, .inl f)], rg) := by
  refine ⟨40, ?_⟩
  rfl
theorem ct_X2_clear (l : Launch) : ∀ args0 w0 v0 w1 rg, G_X2_clear args0 w0 = some (v0, w1) → pCT l yX2_clear (pWs yX2_clear cX2_clear 1 (none)) rm_X2_clear args0 w0 rg (v0, w1, rg) := by
  intro args0 w0 v0 w1 rg h
  unfold G_X2_clear at h
  split at h
  next =>
    cases h
    exact met_of_ex (by decide) (ok_k_X2_clear l) rfl (run_X2_clear rg _ _ _) (Nat.le_of_ble_eq_true rfl) rfl (Nat.le_refl _) (Nat.le_of_ble_eq_true rfl) (Nat.zero_le _) rfl rfl
  next => cases h
def F_X2_clear : pF := frN G_X2_clear
theorem ok_F_X2_clear (l : Launch) : pFOK l yX2_clear (pWs yX2_clear cX2_clear 1 (none)) rm_X2_clear F_X2_clear := pFOK_fr (fun a b c d h => ct_X2_clear l a b c d rg00 h) (fun a b c d h => by
  unfold G_X2_clear at h
  split at h
  next => simp
  next => cases h)
theorem rc_F_X2_clear : pRcv 2 F_X2_clear := pRcv_fr (fun a b c d h => by
  unfold G_X2_clear at h
  split at h
  next => simp
  next => cases h) (fun a b c d h => by
  unfold G_X2_clear at h
  split at h
  next => exact ⟨_, _, _, rfl, rfl⟩
  next => cases h)
theorem dX2_copyFrom_0 : decode cX2_copyFrom 0 = .ok (.aload_n 0, 1) := by decide +kernel
theorem dX2_copyFrom_1 : decode cX2_copyFrom 1 = .ok (.aload_n 1, 1) := by decide +kernel
theorem dX2_copyFrom_2 : decode cX2_copyFrom 2 = .ok (.getfield 9, 3) := by decide +kernel
theorem dX2_copyFrom_5 : decode cX2_copyFrom 5 = .ok (.putfield 9, 3) := by decide +kernel
theorem dX2_copyFrom_8 : decode cX2_copyFrom 8 = .ok (.aload_n 0, 1) := by decide +kernel
theorem dX2_copyFrom_9 : decode cX2_copyFrom 9 = .ok (.aload_n 1, 1) := by decide +kernel
theorem dX2_copyFrom_10 : decode cX2_copyFrom 10 = .ok (.getfield 19, 3) := by decide +kernel
theorem dX2_copyFrom_13 : decode cX2_copyFrom 13 = .ok (.putfield 19, 3) := by decide +kernel
theorem dX2_copyFrom_16 : decode cX2_copyFrom 16 = .ok (.aload_n 1, 1) := by decide +kernel
theorem dX2_copyFrom_17 : decode cX2_copyFrom 17 = .ok (.getfield 15, 3) := by decide +kernel
theorem dX2_copyFrom_20 : decode cX2_copyFrom 20 = .ok (.aload_n 0, 1) := by decide +kernel
theorem dX2_copyFrom_21 : decode cX2_copyFrom 21 = .ok (.getfield 15, 3) := by decide +kernel
theorem dX2_copyFrom_24 : decode cX2_copyFrom 24 = .ok (.invokestatic 22, 3) := by decide +kernel
theorem dX2_copyFrom_27 : decode cX2_copyFrom 27 = .ok (.return_, 1) := by decide +kernel
def k_X2_copyFrom : List pEn := [oAload 0, oAload 1, oGet 2 0, oPut 2 0, oAload 0, oAload 1, oGet 2 2, oPut 2 2, oAload 1, oGet 2 1, oAload 0, oGet 2 1, oCall 2 F_X8_copyNumbers, oVret]
def pc_X2_copyFrom (i : Nat) : Nat := ([0, 1, 2, 5, 8, 9, 10, 13, 16, 17, 20, 21, 24, 27] : List Nat).getD i 0
abbrev rm_X2_copyFrom : Room := { frames := 1, cells := 0, slots := 0, locals := 22 }
theorem pl_X2_copyFrom : pPlain yX2_copyFrom 1 := by decide +kernel
set_option maxRecDepth 100000 in
set_option maxHeartbeats 4000000 in
theorem ok_k_X2_copyFrom (l : Launch) : ∀ (i : Nat) (en : pEn), k_X2_copyFrom[i]? = some en → EOK l cX2_copyFrom yX2_copyFrom.cls 2 (none) rm_X2_copyFrom 0 pc_X2_copyFrom i en := by
  refine allOK_at ?_
  refine And.intro (okAload_n dX2_copyFrom_0 rfl rfl) ?_
  refine And.intro (okAload_n dX2_copyFrom_1 rfl rfl) ?_
  refine And.intro (okGet (C := RX2) (T := TX2) (N := 3) dX2_copyFrom_2 rfl rfl (by decide) inX2 wm_1_91) ?_
  refine And.intro (okPut (C := RX2) (T := TX2) (N := 3) dX2_copyFrom_5 rfl rfl (by decide) inX2 tyX2_ok nmX2 rfl rfl wm_1_91) ?_
  refine And.intro (okAload_n dX2_copyFrom_8 rfl rfl) ?_
  refine And.intro (okAload_n dX2_copyFrom_9 rfl rfl) ?_
  refine And.intro (okGet (C := RX2) (T := TX2) (N := 3) dX2_copyFrom_10 rfl rfl (by decide) inX2 wm_1_95) ?_
  refine And.intro (okPut (C := RX2) (T := TX2) (N := 3) dX2_copyFrom_13 rfl rfl (by decide) inX2 tyX2_ok nmX2 rfl rfl wm_1_95) ?_
  refine And.intro (okAload_n dX2_copyFrom_16 rfl rfl) ?_
  refine And.intro (okGet (C := RX2) (T := TX2) (N := 3) dX2_copyFrom_17 rfl rfl (by decide) inX2 wm_1_94) ?_
  refine And.intro (okAload_n dX2_copyFrom_20 rfl rfl) ?_
  refine And.intro (okGet (C := RX2) (T := TX2) (N := 3) dX2_copyFrom_21 rfl rfl (by decide) inX2 wm_1_94) ?_
  refine And.intro (okCallSN (y := yX8_copyNumbers) (host := "BrokeLoop") (oCall_is _ _ _) dX2_copyFrom_24 rfl (ok_F_X8_copyNumbers l) (by decide) wm_1_134 wm_1_1 wm_1_135 pl_X8_copyNumbers (by decide)) ?_
  refine And.intro (okVret dX2_copyFrom_27 rfl) ?_
  exact trivial
def G_X2_copyFrom : pG := fun args w => match args, w with
  | [.ref 0, .ref 2], [.inr (2, [.int v, .ref 1, .int z]), .inl (0, 9, .inl f), .inr (2, [.int v2, .ref 3, .int z2]), .inl (0, 9, .inl f2)] => some (none, [.inr (2, [.int v2, .ref 1, .int z2]), .inl (0, 9, .inl f2), .inr (2, [.int v2, .ref 3, .int z2]), .inl (0, 9, .inl f2)])
  | _, _ => none
set_option maxHeartbeats 400000 in
set_option maxRecDepth 100000 in
theorem run_X2_copyFrom (rg : pRg) (v z : Int32) (f : Nat → Int32) (v2 z2 : Int32) (f2 : Nat → Int32) : ∃ fu, ex k_X2_copyFrom fu 0 [(0, .ref 0), (1, .ref 2)] [] [.inr (2, [.int v, .ref 1, .int z]), .inl (0, 9, .inl f), .inr (2, [.int v2, .ref 3, .int z2]), .inl (0, 9, .inl f2)] rg = some (none, [.inr (2, [.int v2, .ref 1, .int z2]), .inl (0, 9, .inl f2), .inr (2, [.int v2, .ref 3, .int z2]), .inl (0, 9, .inl f2)], rg) := by
  refine ⟨40, ?_⟩
  rfl
theorem ct_X2_copyFrom (l : Launch) : ∀ args0 w0 v0 w1 rg, G_X2_copyFrom args0 w0 = some (v0, w1) → pCT l yX2_copyFrom (pWs yX2_copyFrom cX2_copyFrom 2 (none)) rm_X2_copyFrom args0 w0 rg (v0, w1, rg) := by
  intro args0 w0 v0 w1 rg h
  unfold G_X2_copyFrom at h
  split at h
  next =>
    cases h
    exact met_of_ex (by decide) (ok_k_X2_copyFrom l) rfl (run_X2_copyFrom rg _ _ _ _ _ _) (Nat.le_of_ble_eq_true rfl) rfl (Nat.le_refl _) (Nat.le_of_ble_eq_true rfl) (Nat.zero_le _) rfl rfl
  next => cases h
def F_X2_copyFrom : pF := frN G_X2_copyFrom
theorem ok_F_X2_copyFrom (l : Launch) : pFOK l yX2_copyFrom (pWs yX2_copyFrom cX2_copyFrom 2 (none)) rm_X2_copyFrom F_X2_copyFrom := pFOK_fr (fun a b c d h => ct_X2_copyFrom l a b c d rg00 h) (fun a b c d h => by
  unfold G_X2_copyFrom at h
  split at h
  next => simp
  next => cases h)
theorem rc_F_X2_copyFrom : pRcv 2 F_X2_copyFrom := pRcv_fr (fun a b c d h => by
  unfold G_X2_copyFrom at h
  split at h
  next => simp
  next => cases h) (fun a b c d h => by
  unfold G_X2_copyFrom at h
  split at h
  next => exact ⟨_, _, _, rfl, rfl⟩
  next => cases h)
def ltC (z x : Int32) : Int32 := if 0 < z then x else -9
theorem dX2_latest_0 : decode cX2_latest 0 = .ok (.aload_n 0, 1) := by decide +kernel
theorem dX2_latest_1 : decode cX2_latest 1 = .ok (.getfield 19, 3) := by decide +kernel
theorem dX2_latest_4 : decode cX2_latest 4 = .ok (.ifCond .gt 8, 3) := by decide +kernel
theorem dX2_latest_7 : decode cX2_latest 7 = .ok (.bipush (-9), 2) := by decide +kernel
theorem dX2_latest_9 : decode cX2_latest 9 = .ok (.goto 9, 3) := by decide +kernel
theorem dX2_latest_12 : decode cX2_latest 12 = .ok (.aload_n 0, 1) := by decide +kernel
theorem dX2_latest_13 : decode cX2_latest 13 = .ok (.getfield 15, 3) := by decide +kernel
theorem dX2_latest_16 : decode cX2_latest 16 = .ok (.iconst 0, 1) := by decide +kernel
theorem dX2_latest_17 : decode cX2_latest 17 = .ok (.iaload, 1) := by decide +kernel
theorem dX2_latest_18 : decode cX2_latest 18 = .ok (.ireturn, 1) := by decide +kernel
def k_X2_latest : List pEn := [oAload 0, oGet 2 2, oIfgt 5, oConst (-9), oGoto 9, oAload 0, oGet 2 1, oConst (0), oIaldN 0, oIret]
def pc_X2_latest (i : Nat) : Nat := ([0, 1, 4, 7, 9, 12, 13, 16, 17, 18] : List Nat).getD i 0
abbrev rm_X2_latest : Room := { frames := 0, cells := 0, slots := 0, locals := 0 }
theorem pl_X2_latest : pPlain yX2_latest 0 := by decide +kernel
set_option maxRecDepth 100000 in
set_option maxHeartbeats 4000000 in
theorem ok_k_X2_latest (l : Launch) : ∀ (i : Nat) (en : pEn), k_X2_latest[i]? = some en → EOK l cX2_latest yX2_latest.cls 1 ((some FieldType.int)) rm_X2_latest 0 pc_X2_latest i en := by
  refine allOK_at ?_
  refine And.intro (okAload_n dX2_latest_0 rfl rfl) ?_
  refine And.intro (okGet (C := RX2) (T := TX2) (N := 3) dX2_latest_1 rfl rfl (by decide) inX2 wm_1_95) ?_
  refine And.intro (okIfgt dX2_latest_4 rfl (by rfl)) ?_
  refine And.intro (okBipush dX2_latest_7 rfl (by first | rfl | decide)) ?_
  refine And.intro (okGoto dX2_latest_9 (by rfl)) ?_
  refine And.intro (okAload_n dX2_latest_12 rfl rfl) ?_
  refine And.intro (okGet (C := RX2) (T := TX2) (N := 3) dX2_latest_13 rfl rfl (by decide) inX2 wm_1_94) ?_
  refine And.intro (okIconst dX2_latest_16 rfl (by first | rfl | decide)) ?_
  refine And.intro (okIaldN dX2_latest_17 rfl) ?_
  refine And.intro (okIret dX2_latest_18 rfl) ?_
  exact trivial
def G_X2_latest : pG := fun args w => match args, w with
  | [.ref 0], [.inr (2, [.int v, .ref 1, .int z]), .inl (0, 9, .inl f)] => some (some (.int (ltC z (f 0))), [.inr (2, [.int v, .ref 1, .int z]), .inl (0, 9, .inl f)])
  | _, _ => none
set_option maxHeartbeats 400000 in
set_option maxRecDepth 100000 in
theorem run_X2_latest (rg : pRg) (v z : Int32) (f : Nat → Int32) : ∃ fu, ex k_X2_latest fu 0 [(0, .ref 0)] [] [.inr (2, [.int v, .ref 1, .int z]), .inl (0, 9, .inl f)] rg = some (some (.int (ltC z (f 0))), [.inr (2, [.int v, .ref 1, .int z]), .inl (0, 9, .inl f)], rg) := by
  refine ⟨40, ?_⟩
  conv => lhs; whnf
  refine pif_c (fun h => ?_) (fun h => ?_)
  · simp only [ltC, if_pos h]; rfl
  · simp only [ltC, if_neg h]; rfl
theorem ct_X2_latest (l : Launch) : ∀ args0 w0 v0 w1 rg, G_X2_latest args0 w0 = some (v0, w1) → pCT l yX2_latest (pWs yX2_latest cX2_latest 1 ((some FieldType.int))) rm_X2_latest args0 w0 rg (v0, w1, rg) := by
  intro args0 w0 v0 w1 rg h
  unfold G_X2_latest at h
  split at h
  next =>
    cases h
    exact met_of_ex (by decide) (ok_k_X2_latest l) rfl (run_X2_latest rg _ _ _) (Nat.le_of_ble_eq_true rfl) rfl (Nat.le_refl _) (Nat.le_of_ble_eq_true rfl) (Nat.zero_le _) rfl rfl
  next => cases h
def F_X2_latest : pF := frN G_X2_latest
theorem ok_F_X2_latest (l : Launch) : pFOK l yX2_latest (pWs yX2_latest cX2_latest 1 ((some FieldType.int))) rm_X2_latest F_X2_latest := pFOK_fr (fun a b c d h => ct_X2_latest l a b c d rg00 h) (fun a b c d h => by
  unfold G_X2_latest at h
  split at h
  next => simp
  next => cases h)
theorem rc_F_X2_latest : pRcv 2 F_X2_latest := pRcv_fr (fun a b c d h => by
  unfold G_X2_latest at h
  split at h
  next => simp
  next => cases h) (fun a b c d h => by
  unfold G_X2_latest at h
  split at h
  next => exact ⟨_, _, _, rfl, rfl⟩
  next => cases h)
/-- the measurements move on, x is the latest -/
def shM (f : Nat → Int32) (x : Int32) : Nat → Int32 := fun j => if j = 0 then x else if j < 9 then f (j - 1) else f j
def shL (f : Nat → Int32) : Nat → Nat → Int32
  | 0 => f
  | k + 1 => upd (shL f k) (8 - k) (shL f k (7 - k))
theorem shL_eq (f : Nat → Int32) (x : Int32) : upd (shL f 8) 0 x = shM f x := by
  funext j
  match j with
  | 0 => rfl
  | 1 => rfl
  | 2 => rfl
  | 3 => rfl
  | 4 => rfl
  | 5 => rfl
  | 6 => rfl
  | 7 => rfl
  | 8 => rfl
  | j + 9 =>
    have h1 : ¬ j + 9 < 9 := by omega
    simp [shL, shM, upd, h1]
theorem dX2_measure_0 : decode cX2_measure 0 = .ok (.aload_n 0, 1) := by decide +kernel
theorem dX2_measure_1 : decode cX2_measure 1 = .ok (.getfield 15, 3) := by decide +kernel
theorem dX2_measure_4 : decode cX2_measure 4 = .ok (.arraylength, 1) := by decide +kernel
theorem dX2_measure_5 : decode cX2_measure 5 = .ok (.iconst 1, 1) := by decide +kernel
theorem dX2_measure_6 : decode cX2_measure 6 = .ok (.isub, 1) := by decide +kernel
theorem dX2_measure_7 : decode cX2_measure 7 = .ok (.istore_n 2, 1) := by decide +kernel
theorem dX2_measure_8 : decode cX2_measure 8 = .ok (.iload_n 2, 1) := by decide +kernel
theorem dX2_measure_9 : decode cX2_measure 9 = .ok (.ifCond .le 23, 3) := by decide +kernel
theorem dX2_measure_12 : decode cX2_measure 12 = .ok (.aload_n 0, 1) := by decide +kernel
theorem dX2_measure_13 : decode cX2_measure 13 = .ok (.getfield 15, 3) := by decide +kernel
theorem dX2_measure_16 : decode cX2_measure 16 = .ok (.iload_n 2, 1) := by decide +kernel
theorem dX2_measure_17 : decode cX2_measure 17 = .ok (.aload_n 0, 1) := by decide +kernel
theorem dX2_measure_18 : decode cX2_measure 18 = .ok (.getfield 15, 3) := by decide +kernel
theorem dX2_measure_21 : decode cX2_measure 21 = .ok (.iload_n 2, 1) := by decide +kernel
theorem dX2_measure_22 : decode cX2_measure 22 = .ok (.iconst 1, 1) := by decide +kernel
theorem dX2_measure_23 : decode cX2_measure 23 = .ok (.isub, 1) := by decide +kernel
theorem dX2_measure_24 : decode cX2_measure 24 = .ok (.iaload, 1) := by decide +kernel
theorem dX2_measure_25 : decode cX2_measure 25 = .ok (.iastore, 1) := by decide +kernel
theorem dX2_measure_26 : decode cX2_measure 26 = .ok (.iinc 2 (-1), 3) := by decide +kernel
theorem dX2_measure_29 : decode cX2_measure 29 = .ok (.goto (-21), 3) := by decide +kernel
theorem dX2_measure_32 : decode cX2_measure 32 = .ok (.aload_n 0, 1) := by decide +kernel
theorem dX2_measure_33 : decode cX2_measure 33 = .ok (.getfield 15, 3) := by decide +kernel
theorem dX2_measure_36 : decode cX2_measure 36 = .ok (.iconst 0, 1) := by decide +kernel
theorem dX2_measure_37 : decode cX2_measure 37 = .ok (.iload_n 1, 1) := by decide +kernel
theorem dX2_measure_38 : decode cX2_measure 38 = .ok (.iastore, 1) := by decide +kernel
theorem dX2_measure_39 : decode cX2_measure 39 = .ok (.aload_n 0, 1) := by decide +kernel
theorem dX2_measure_40 : decode cX2_measure 40 = .ok (.aload_n 0, 1) := by decide +kernel
theorem dX2_measure_41 : decode cX2_measure 41 = .ok (.getfield 19, 3) := by decide +kernel
theorem dX2_measure_44 : decode cX2_measure 44 = .ok (.iconst 1, 1) := by decide +kernel
theorem dX2_measure_45 : decode cX2_measure 45 = .ok (.iadd, 1) := by decide +kernel
theorem dX2_measure_46 : decode cX2_measure 46 = .ok (.aload_n 0, 1) := by decide +kernel
theorem dX2_measure_47 : decode cX2_measure 47 = .ok (.getfield 15, 3) := by decide +kernel
theorem dX2_measure_50 : decode cX2_measure 50 = .ok (.arraylength, 1) := by decide +kernel
theorem dX2_measure_51 : decode cX2_measure 51 = .ok (.invokestatic 26, 3) := by decide +kernel
theorem dX2_measure_54 : decode cX2_measure 54 = .ok (.putfield 19, 3) := by decide +kernel
theorem dX2_measure_57 : decode cX2_measure 57 = .ok (.return_, 1) := by decide +kernel
def k_X2_measure : List pEn := [oAload 0, oGet 2 1, oAlen, oConst (1), oSub, oIstore 2, oIload 2, oIfle 20, oAload 0, oGet 2 1, oIload 2, oAload 0, oGet 2 1, oIload 2, oConst (1), oSub, oIald, oIast, oIinc 2 (-1), oGoto 6, oAload 0, oGet 2 1, oConst (0), oIload 1, oIastN 0, oAload 0, oAload 0, oGet 2 2, oConst (1), oAdd, oAload 0, oGet 2 1, oAlen, oMin, oPut 2 2, oVret]
def pc_X2_measure (i : Nat) : Nat := ([0, 1, 4, 5, 6, 7, 8, 9, 12, 13, 16, 17, 18, 21, 22, 23, 24, 25, 26, 29, 32, 33, 36, 37, 38, 39, 40, 41, 44, 45, 46, 47, 50, 51, 54, 57] : List Nat).getD i 0
abbrev rm_X2_measure : Room := { frames := 1, cells := 0, slots := 0, locals := 21 }
theorem pl_X2_measure : pPlain yX2_measure 1 := by decide +kernel
set_option maxRecDepth 100000 in
set_option maxHeartbeats 4000000 in
theorem ok_k_X2_measure (l : Launch) : ∀ (i : Nat) (en : pEn), k_X2_measure[i]? = some en → EOK l cX2_measure yX2_measure.cls 3 (none) rm_X2_measure 0 pc_X2_measure i en := by
  refine allOK_at ?_
  refine And.intro (okAload_n dX2_measure_0 rfl rfl) ?_
  refine And.intro (okGet (C := RX2) (T := TX2) (N := 3) dX2_measure_1 rfl rfl (by decide) inX2 wm_1_94) ?_
  refine And.intro (okAlen dX2_measure_4 rfl) ?_
  refine And.intro (okIconst dX2_measure_5 rfl (by first | rfl | decide)) ?_
  refine And.intro (okSub dX2_measure_6 rfl) ?_
  refine And.intro (okIstore_n dX2_measure_7 rfl rfl (by decide)) ?_
  refine And.intro (okIload_n dX2_measure_8 rfl rfl) ?_
  refine And.intro (okIfle dX2_measure_9 rfl (by rfl)) ?_
  refine And.intro (okAload_n dX2_measure_12 rfl rfl) ?_
  refine And.intro (okGet (C := RX2) (T := TX2) (N := 3) dX2_measure_13 rfl rfl (by decide) inX2 wm_1_94) ?_
  refine And.intro (okIload_n dX2_measure_16 rfl rfl) ?_
  refine And.intro (okAload_n dX2_measure_17 rfl rfl) ?_
  refine And.intro (okGet (C := RX2) (T := TX2) (N := 3) dX2_measure_18 rfl rfl (by decide) inX2 wm_1_94) ?_
  refine And.intro (okIload_n dX2_measure_21 rfl rfl) ?_
  refine And.intro (okIconst dX2_measure_22 rfl (by first | rfl | decide)) ?_
  refine And.intro (okSub dX2_measure_23 rfl) ?_
  refine And.intro (okIald dX2_measure_24 rfl) ?_
  refine And.intro (okIast dX2_measure_25 rfl) ?_
  refine And.intro (okIinc dX2_measure_26 rfl (by first | rfl | decide) (by decide)) ?_
  refine And.intro (okGoto dX2_measure_29 (by rfl)) ?_
  refine And.intro (okAload_n dX2_measure_32 rfl rfl) ?_
  refine And.intro (okGet (C := RX2) (T := TX2) (N := 3) dX2_measure_33 rfl rfl (by decide) inX2 wm_1_94) ?_
  refine And.intro (okIconst dX2_measure_36 rfl (by first | rfl | decide)) ?_
  refine And.intro (okIload_n dX2_measure_37 rfl rfl) ?_
  refine And.intro (okIastN dX2_measure_38 rfl) ?_
  refine And.intro (okAload_n dX2_measure_39 rfl rfl) ?_
  refine And.intro (okAload_n dX2_measure_40 rfl rfl) ?_
  refine And.intro (okGet (C := RX2) (T := TX2) (N := 3) dX2_measure_41 rfl rfl (by decide) inX2 wm_1_95) ?_
  refine And.intro (okIconst dX2_measure_44 rfl (by first | rfl | decide)) ?_
  refine And.intro (okAdd dX2_measure_45 rfl) ?_
  refine And.intro (okAload_n dX2_measure_46 rfl rfl) ?_
  refine And.intro (okGet (C := RX2) (T := TX2) (N := 3) dX2_measure_47 rfl rfl (by decide) inX2 wm_1_94) ?_
  refine And.intro (okAlen dX2_measure_50 rfl) ?_
  refine And.intro (okMin dX2_measure_51 rfl wm_3_19 wm_2_95 wm_1_11 wm_2_96 (by decide) (by decide)) ?_
  refine And.intro (okPut (C := RX2) (T := TX2) (N := 3) dX2_measure_54 rfl rfl (by decide) inX2 tyX2_ok nmX2 rfl rfl wm_1_95) ?_
  refine And.intro (okVret dX2_measure_57 rfl) ?_
  exact trivial
def G_X2_measure : pG := fun args w => match args, w with
  | [.ref 0, .int x], [.inr (2, [.int v, .ref 1, .int z]), .inl (0, 9, .inl f)] => some (none, [.inr (2, [.int v, .ref 1, .int (mnI (z + 1) 9)]), .inl (0, 9, .inl (shM f x))])
  | _, _ => none
set_option maxHeartbeats 400000 in
set_option maxRecDepth 100000 in
theorem run_X2_measure (rg : pRg) (v z : Int32) (f : Nat → Int32) (x : Int32) : ∃ fu, ex k_X2_measure fu 0 [(0, .ref 0), (1, .int x)] [] [.inr (2, [.int v, .ref 1, .int z]), .inl (0, 9, .inl f)] rg = some (none, [.inr (2, [.int v, .ref 1, .int (mnI (z + 1) 9)]), .inl (0, 9, .inl (shM f x))], rg) := by
  refine ⟨40, ?_⟩
  rw [← shL_eq]
  conv => lhs; whnf
  repeat (first | (refine (pif_f (by decide)).trans ?_; conv => lhs; whnf) | (refine (pif_t (by decide)).trans ?_; conv => lhs; whnf))
  rfl
theorem ct_X2_measure (l : Launch) : ∀ args0 w0 v0 w1 rg, G_X2_measure args0 w0 = some (v0, w1) → pCT l yX2_measure (pWs yX2_measure cX2_measure 3 (none)) rm_X2_measure args0 w0 rg (v0, w1, rg) := by
  intro args0 w0 v0 w1 rg h
  unfold G_X2_measure at h
  split at h
  next =>
    cases h
    exact met_of_ex (by decide) (ok_k_X2_measure l) rfl (run_X2_measure rg _ _ _ _) (Nat.le_of_ble_eq_true rfl) rfl (Nat.le_refl _) (Nat.le_of_ble_eq_true rfl) (Nat.zero_le _) rfl rfl
  next => cases h
def F_X2_measure : pF := frN G_X2_measure
theorem ok_F_X2_measure (l : Launch) : pFOK l yX2_measure (pWs yX2_measure cX2_measure 3 (none)) rm_X2_measure F_X2_measure := pFOK_fr (fun a b c d h => ct_X2_measure l a b c d rg00 h) (fun a b c d h => by
  unfold G_X2_measure at h
  split at h
  next => simp
  next => cases h)
theorem rc_F_X2_measure : pRcv 2 F_X2_measure := pRcv_fr (fun a b c d h => by
  unfold G_X2_measure at h
  split at h
  next => simp
  next => cases h) (fun a b c d h => by
  unfold G_X2_measure at h
  split at h
  next => exact ⟨_, _, _, rfl, rfl⟩
  next => cases h)
/-- the valve that is steered -/
def ctV (v z : Int32) (f : Nat → Int32) (d t g : Int32) : Int32 := if d < 0 then v else if z ≤ d then v else if ¬ d < 9 then v else mxI 0 (mnI (v + (f d.toNatClampNeg - t) * g) 3000)
theorem dX2_control_0 : decode cX2_control 0 = .ok (.iload_n 1, 1) := by decide +kernel
theorem dX2_control_1 : decode cX2_control 1 = .ok (.ifCond .lt 20, 3) := by decide +kernel
theorem dX2_control_4 : decode cX2_control 4 = .ok (.iload_n 1, 1) := by decide +kernel
theorem dX2_control_5 : decode cX2_control 5 = .ok (.aload_n 0, 1) := by decide +kernel
theorem dX2_control_6 : decode cX2_control 6 = .ok (.getfield 19, 3) := by decide +kernel
theorem dX2_control_9 : decode cX2_control 9 = .ok (.if_icmp .ge 12, 3) := by decide +kernel
theorem dX2_control_12 : decode cX2_control 12 = .ok (.iload_n 1, 1) := by decide +kernel
theorem dX2_control_13 : decode cX2_control 13 = .ok (.aload_n 0, 1) := by decide +kernel
theorem dX2_control_14 : decode cX2_control 14 = .ok (.getfield 15, 3) := by decide +kernel
theorem dX2_control_17 : decode cX2_control 17 = .ok (.arraylength, 1) := by decide +kernel
theorem dX2_control_18 : decode cX2_control 18 = .ok (.if_icmp .lt 4, 3) := by decide +kernel
theorem dX2_control_21 : decode cX2_control 21 = .ok (.return_, 1) := by decide +kernel
theorem dX2_control_22 : decode cX2_control 22 = .ok (.aload_n 0, 1) := by decide +kernel
theorem dX2_control_23 : decode cX2_control 23 = .ok (.getfield 9, 3) := by decide +kernel
theorem dX2_control_26 : decode cX2_control 26 = .ok (.aload_n 0, 1) := by decide +kernel
theorem dX2_control_27 : decode cX2_control 27 = .ok (.getfield 15, 3) := by decide +kernel
theorem dX2_control_30 : decode cX2_control 30 = .ok (.iload_n 1, 1) := by decide +kernel
theorem dX2_control_31 : decode cX2_control 31 = .ok (.iaload, 1) := by decide +kernel
theorem dX2_control_32 : decode cX2_control 32 = .ok (.iload_n 2, 1) := by decide +kernel
theorem dX2_control_33 : decode cX2_control 33 = .ok (.isub, 1) := by decide +kernel
theorem dX2_control_34 : decode cX2_control 34 = .ok (.iload_n 3, 1) := by decide +kernel
theorem dX2_control_35 : decode cX2_control 35 = .ok (.imul, 1) := by decide +kernel
theorem dX2_control_36 : decode cX2_control 36 = .ok (.iadd, 1) := by decide +kernel
theorem dX2_control_37 : decode cX2_control 37 = .ok (.istore 4, 2) := by decide +kernel
theorem dX2_control_39 : decode cX2_control 39 = .ok (.aload_n 0, 1) := by decide +kernel
theorem dX2_control_40 : decode cX2_control 40 = .ok (.iconst 0, 1) := by decide +kernel
theorem dX2_control_41 : decode cX2_control 41 = .ok (.iload 4, 2) := by decide +kernel
theorem dX2_control_43 : decode cX2_control 43 = .ok (.sipush 3000, 3) := by decide +kernel
theorem dX2_control_46 : decode cX2_control 46 = .ok (.invokestatic 26, 3) := by decide +kernel
theorem dX2_control_49 : decode cX2_control 49 = .ok (.invokestatic 32, 3) := by decide +kernel
theorem dX2_control_52 : decode cX2_control 52 = .ok (.putfield 9, 3) := by decide +kernel
theorem dX2_control_55 : decode cX2_control 55 = .ok (.return_, 1) := by decide +kernel
def k_X2_control : List pEn := [oIload 1, oIflt 11, oIload 1, oAload 0, oGet 2 2, oCge 11, oIload 1, oAload 0, oGet 2 1, oAlen, oClt 12, oVret, oAload 0, oGet 2 0, oAload 0, oGet 2 1, oIload 1, oIald, oIload 2, oSub, oIload 3, oMul, oAdd, oIstore 4, oAload 0, oConst (0), oIload 4, oConst (3000), oMin, oMax, oPut 2 0, oVret]
def pc_X2_control (i : Nat) : Nat := ([0, 1, 4, 5, 6, 9, 12, 13, 14, 17, 18, 21, 22, 23, 26, 27, 30, 31, 32, 33, 34, 35, 36, 37, 39, 40, 41, 43, 46, 49, 52, 55] : List Nat).getD i 0
abbrev rm_X2_control : Room := { frames := 1, cells := 0, slots := 0, locals := 21 }
theorem pl_X2_control : pPlain yX2_control 3 := by decide +kernel
set_option maxRecDepth 100000 in
set_option maxHeartbeats 4000000 in
theorem ok_k_X2_control (l : Launch) : ∀ (i : Nat) (en : pEn), k_X2_control[i]? = some en → EOK l cX2_control yX2_control.cls 5 (none) rm_X2_control 0 pc_X2_control i en := by
  refine allOK_at ?_
  refine And.intro (okIload_n dX2_control_0 rfl rfl) ?_
  refine And.intro (okIflt dX2_control_1 rfl (by rfl)) ?_
  refine And.intro (okIload_n dX2_control_4 rfl rfl) ?_
  refine And.intro (okAload_n dX2_control_5 rfl rfl) ?_
  refine And.intro (okGet (C := RX2) (T := TX2) (N := 3) dX2_control_6 rfl rfl (by decide) inX2 wm_1_95) ?_
  refine And.intro (okCge dX2_control_9 rfl (by rfl)) ?_
  refine And.intro (okIload_n dX2_control_12 rfl rfl) ?_
  refine And.intro (okAload_n dX2_control_13 rfl rfl) ?_
  refine And.intro (okGet (C := RX2) (T := TX2) (N := 3) dX2_control_14 rfl rfl (by decide) inX2 wm_1_94) ?_
  refine And.intro (okAlen dX2_control_17 rfl) ?_
  refine And.intro (okClt dX2_control_18 rfl (by rfl)) ?_
  refine And.intro (okVret dX2_control_21 rfl) ?_
  refine And.intro (okAload_n dX2_control_22 rfl rfl) ?_
  refine And.intro (okGet (C := RX2) (T := TX2) (N := 3) dX2_control_23 rfl rfl (by decide) inX2 wm_1_91) ?_
  refine And.intro (okAload_n dX2_control_26 rfl rfl) ?_
  refine And.intro (okGet (C := RX2) (T := TX2) (N := 3) dX2_control_27 rfl rfl (by decide) inX2 wm_1_94) ?_
  refine And.intro (okIload_n dX2_control_30 rfl rfl) ?_
  refine And.intro (okIald dX2_control_31 rfl) ?_
  refine And.intro (okIload_n dX2_control_32 rfl rfl) ?_
  refine And.intro (okSub dX2_control_33 rfl) ?_
  refine And.intro (okIload_n dX2_control_34 rfl rfl) ?_
  refine And.intro (okMul dX2_control_35 rfl) ?_
  refine And.intro (okAdd dX2_control_36 rfl) ?_
  refine And.intro (okIstore dX2_control_37 rfl (by decide)) ?_
  refine And.intro (okAload_n dX2_control_39 rfl rfl) ?_
  refine And.intro (okIconst dX2_control_40 rfl (by first | rfl | decide)) ?_
  refine And.intro (okIload dX2_control_41 rfl) ?_
  refine And.intro (okSipush dX2_control_43 rfl (by first | rfl | decide)) ?_
  refine And.intro (okMin dX2_control_46 rfl wm_3_19 wm_2_95 wm_1_11 wm_2_96 (by decide) (by decide)) ?_
  refine And.intro (okMax dX2_control_49 rfl wm_3_24 wm_2_115 wm_1_11 wm_2_116 (by decide) (by decide)) ?_
  refine And.intro (okPut (C := RX2) (T := TX2) (N := 3) dX2_control_52 rfl rfl (by decide) inX2 tyX2_ok nmX2 rfl rfl wm_1_91) ?_
  refine And.intro (okVret dX2_control_55 rfl) ?_
  exact trivial
def G_X2_control : pG := fun args w => match args, w with
  | [.ref 0, .int d, .int t, .int g], [.inr (2, [.int v, .ref 1, .int z]), .inl (0, 9, .inl f)] => some (none, [.inr (2, [.int (ctV v z f d t g), .ref 1, .int z]), .inl (0, 9, .inl f)])
  | _, _ => none
set_option maxHeartbeats 400000 in
set_option maxRecDepth 100000 in
theorem run_X2_control (rg : pRg) (v z : Int32) (f : Nat → Int32) (d t g : Int32) : ∃ fu, ex k_X2_control fu 0 [(0, .ref 0), (1, .int d), (2, .int t), (3, .int g)] [] [.inr (2, [.int v, .ref 1, .int z]), .inl (0, 9, .inl f)] rg = some (none, [.inr (2, [.int (ctV v z f d t g), .ref 1, .int z]), .inl (0, 9, .inl f)], rg) := by
  refine ⟨40, ?_⟩
  conv => lhs; whnf
  refine pif_c (fun h => ?_) (fun h => ?_)
  · simp only [ctV, if_pos h]; rfl
  · conv => lhs; whnf
    refine pif_c (fun h2 => ?_) (fun h2 => ?_)
    · simp only [ctV, if_neg h, if_pos h2]; rfl
    · conv => lhs; whnf
      refine pif_c (fun h3 => ?_) (fun h3 => ?_)
      · conv => lhs; whnf
        refine (pif_f (fun e => ?_)).trans ?_
        · rcases e with e | e
          · exact h e
          · have h4 := Int32.lt_iff_toInt_lt.mp h3
            have h5 : (Int32.ofNat 9).toInt = 9 := by decide
            rw [h5] at h4
            have h6 : d.toNatClampNeg = d.toInt.toNat := rfl
            omega
        · have h4 : ¬ ¬ d < 9 := fun q => q h3
          simp only [ctV, if_neg h, if_neg h2, if_neg h4]; rfl
      · have h4 : ¬ d < 9 := h3
        simp only [ctV, if_neg h, if_neg h2, if_pos h4]; rfl
theorem ct_X2_control (l : Launch) : ∀ args0 w0 v0 w1 rg, G_X2_control args0 w0 = some (v0, w1) → pCT l yX2_control (pWs yX2_control cX2_control 5 (none)) rm_X2_control args0 w0 rg (v0, w1, rg) := by
  intro args0 w0 v0 w1 rg h
  unfold G_X2_control at h
  split at h
  next =>
    cases h
    exact met_of_ex (by decide) (ok_k_X2_control l) rfl (run_X2_control rg _ _ _ _ _ _) (Nat.le_of_ble_eq_true rfl) rfl (Nat.le_refl _) (Nat.le_of_ble_eq_true rfl) (Nat.zero_le _) rfl rfl
  next => cases h
def F_X2_control : pF := frN G_X2_control
theorem ok_F_X2_control (l : Launch) : pFOK l yX2_control (pWs yX2_control cX2_control 5 (none)) rm_X2_control F_X2_control := pFOK_fr (fun a b c d h => ct_X2_control l a b c d rg00 h) (fun a b c d h => by
  unfold G_X2_control at h
  split at h
  next => simp
  next => cases h)
theorem rc_F_X2_control : pRcv 2 F_X2_control := pRcv_fr (fun a b c d h => by
  unfold G_X2_control at h
  split at h
  next => simp
  next => cases h) (fun a b c d h => by
  unfold G_X2_control at h
  split at h
  next => exact ⟨_, _, _, rfl, rfl⟩
  next => cases h)
theorem dX7_copyFrom_0 : decode cX7_copyFrom 0 = .ok (.aload_n 0, 1) := by decide +kernel
theorem dX7_copyFrom_1 : decode cX7_copyFrom 1 = .ok (.aload_n 1, 1) := by decide +kernel
theorem dX7_copyFrom_2 : decode cX7_copyFrom 2 = .ok (.getfield 21, 3) := by decide +kernel
theorem dX7_copyFrom_5 : decode cX7_copyFrom 5 = .ok (.putfield 21, 3) := by decide +kernel
theorem dX7_copyFrom_8 : decode cX7_copyFrom 8 = .ok (.aload_n 1, 1) := by decide +kernel
theorem dX7_copyFrom_9 : decode cX7_copyFrom 9 = .ok (.getfield 9, 3) := by decide +kernel
theorem dX7_copyFrom_12 : decode cX7_copyFrom 12 = .ok (.aload_n 0, 1) := by decide +kernel
theorem dX7_copyFrom_13 : decode cX7_copyFrom 13 = .ok (.getfield 9, 3) := by decide +kernel
theorem dX7_copyFrom_16 : decode cX7_copyFrom 16 = .ok (.invokestatic 25, 3) := by decide +kernel
theorem dX7_copyFrom_19 : decode cX7_copyFrom 19 = .ok (.aload_n 1, 1) := by decide +kernel
theorem dX7_copyFrom_20 : decode cX7_copyFrom 20 = .ok (.getfield 15, 3) := by decide +kernel
theorem dX7_copyFrom_23 : decode cX7_copyFrom 23 = .ok (.aload_n 0, 1) := by decide +kernel
theorem dX7_copyFrom_24 : decode cX7_copyFrom 24 = .ok (.getfield 15, 3) := by decide +kernel
theorem dX7_copyFrom_27 : decode cX7_copyFrom 27 = .ok (.invokestatic 25, 3) := by decide +kernel
theorem dX7_copyFrom_30 : decode cX7_copyFrom 30 = .ok (.aload_n 1, 1) := by decide +kernel
theorem dX7_copyFrom_31 : decode cX7_copyFrom 31 = .ok (.getfield 18, 3) := by decide +kernel
theorem dX7_copyFrom_34 : decode cX7_copyFrom 34 = .ok (.aload_n 0, 1) := by decide +kernel
theorem dX7_copyFrom_35 : decode cX7_copyFrom 35 = .ok (.getfield 18, 3) := by decide +kernel
theorem dX7_copyFrom_38 : decode cX7_copyFrom 38 = .ok (.invokestatic 25, 3) := by decide +kernel
theorem dX7_copyFrom_41 : decode cX7_copyFrom 41 = .ok (.return_, 1) := by decide +kernel
def k_X7_copyFrom : List pEn := [oAload 0, oAload 1, oGet 7 3, oPut 7 3, oAload 1, oGet 7 0, oAload 0, oGet 7 0, oCall 2 F_X8_copyNumbers, oAload 1, oGet 7 1, oAload 0, oGet 7 1, oCall 2 F_X8_copyNumbers, oAload 1, oGet 7 2, oAload 0, oGet 7 2, oCall 2 F_X8_copyNumbers, oVret]
def pc_X7_copyFrom (i : Nat) : Nat := ([0, 1, 2, 5, 8, 9, 12, 13, 16, 19, 20, 23, 24, 27, 30, 31, 34, 35, 38, 41] : List Nat).getD i 0
abbrev rm_X7_copyFrom : Room := { frames := 1, cells := 0, slots := 0, locals := 22 }
theorem pl_X7_copyFrom : pPlain yX7_copyFrom 1 := by decide +kernel
set_option maxRecDepth 100000 in
set_option maxHeartbeats 4000000 in
theorem ok_k_X7_copyFrom (l : Launch) : ∀ (i : Nat) (en : pEn), k_X7_copyFrom[i]? = some en → EOK l cX7_copyFrom yX7_copyFrom.cls 2 (none) rm_X7_copyFrom 0 pc_X7_copyFrom i en := by
  refine allOK_at ?_
  refine And.intro (okAload_n dX7_copyFrom_0 rfl rfl) ?_
  refine And.intro (okAload_n dX7_copyFrom_1 rfl rfl) ?_
  refine And.intro (okGet (C := RX7) (T := TX7) (N := 4) dX7_copyFrom_2 rfl rfl (by decide) inX7 wm_1_118) ?_
  refine And.intro (okPut (C := RX7) (T := TX7) (N := 4) dX7_copyFrom_5 rfl rfl (by decide) inX7 tyX7_ok nmX7 rfl rfl wm_1_118) ?_
  refine And.intro (okAload_n dX7_copyFrom_8 rfl rfl) ?_
  refine And.intro (okGet (C := RX7) (T := TX7) (N := 4) dX7_copyFrom_9 rfl rfl (by decide) inX7 wm_1_109) ?_
  refine And.intro (okAload_n dX7_copyFrom_12 rfl rfl) ?_
  refine And.intro (okGet (C := RX7) (T := TX7) (N := 4) dX7_copyFrom_13 rfl rfl (by decide) inX7 wm_1_109) ?_
  refine And.intro (okCallSN (y := yX8_copyNumbers) (host := "BrokeLoop") (oCall_is _ _ _) dX7_copyFrom_16 rfl (ok_F_X8_copyNumbers l) (by decide) wm_1_134 wm_1_1 wm_1_135 pl_X8_copyNumbers (by decide)) ?_
  refine And.intro (okAload_n dX7_copyFrom_19 rfl rfl) ?_
  refine And.intro (okGet (C := RX7) (T := TX7) (N := 4) dX7_copyFrom_20 rfl rfl (by decide) inX7 wm_1_112) ?_
  refine And.intro (okAload_n dX7_copyFrom_23 rfl rfl) ?_
  refine And.intro (okGet (C := RX7) (T := TX7) (N := 4) dX7_copyFrom_24 rfl rfl (by decide) inX7 wm_1_112) ?_
  refine And.intro (okCallSN (y := yX8_copyNumbers) (host := "BrokeLoop") (oCall_is _ _ _) dX7_copyFrom_27 rfl (ok_F_X8_copyNumbers l) (by decide) wm_1_134 wm_1_1 wm_1_135 pl_X8_copyNumbers (by decide)) ?_
  refine And.intro (okAload_n dX7_copyFrom_30 rfl rfl) ?_
  refine And.intro (okGet (C := RX7) (T := TX7) (N := 4) dX7_copyFrom_31 rfl rfl (by decide) inX7 wm_1_115) ?_
  refine And.intro (okAload_n dX7_copyFrom_34 rfl rfl) ?_
  refine And.intro (okGet (C := RX7) (T := TX7) (N := 4) dX7_copyFrom_35 rfl rfl (by decide) inX7 wm_1_115) ?_
  refine And.intro (okCallSN (y := yX8_copyNumbers) (host := "BrokeLoop") (oCall_is _ _ _) dX7_copyFrom_38 rfl (ok_F_X8_copyNumbers l) (by decide) wm_1_134 wm_1_1 wm_1_135 pl_X8_copyNumbers (by decide)) ?_
  refine And.intro (okVret dX7_copyFrom_41 rfl) ?_
  exact trivial
def G_X7_copyFrom : pG := fun args w => match args, w with
  | [.ref 0, .ref 4], [.inr (7, [.ref 1, .ref 2, .ref 3, .int n]), .inl (0, 20, .inl f), .inl (0, 20, .inl g), .inl (0, 20, .inl h), .inr (7, [.ref 5, .ref 6, .ref 7, .int n2]), .inl (0, 20, .inl f2), .inl (0, 20, .inl g2), .inl (0, 20, .inl h2)] => some (none, [.inr (7, [.ref 1, .ref 2, .ref 3, .int n2]), .inl (0, 20, .inl f2), .inl (0, 20, .inl g2), .inl (0, 20, .inl h2), .inr (7, [.ref 5, .ref 6, .ref 7, .int n2]), .inl (0, 20, .inl f2), .inl (0, 20, .inl g2), .inl (0, 20, .inl h2)])
  | _, _ => none
set_option maxHeartbeats 400000 in
set_option maxRecDepth 100000 in
theorem run_X7_copyFrom (rg : pRg) (n : Int32) (f g h : Nat → Int32) (n2 : Int32) (f2 g2 h2 : Nat → Int32) : ∃ fu, ex k_X7_copyFrom fu 0 [(0, .ref 0), (1, .ref 4)] [] [.inr (7, [.ref 1, .ref 2, .ref 3, .int n]), .inl (0, 20, .inl f), .inl (0, 20, .inl g), .inl (0, 20, .inl h), .inr (7, [.ref 5, .ref 6, .ref 7, .int n2]), .inl (0, 20, .inl f2), .inl (0, 20, .inl g2), .inl (0, 20, .inl h2)] rg = some (none, [.inr (7, [.ref 1, .ref 2, .ref 3, .int n2]), .inl (0, 20, .inl f2), .inl (0, 20, .inl g2), .inl (0, 20, .inl h2), .inr (7, [.ref 5, .ref 6, .ref 7, .int n2]), .inl (0, 20, .inl f2), .inl (0, 20, .inl g2), .inl (0, 20, .inl h2)], rg) := by
  refine ⟨40, ?_⟩
  rfl
theorem ct_X7_copyFrom (l : Launch) : ∀ args0 w0 v0 w1 rg, G_X7_copyFrom args0 w0 = some (v0, w1) → pCT l yX7_copyFrom (pWs yX7_copyFrom cX7_copyFrom 2 (none)) rm_X7_copyFrom args0 w0 rg (v0, w1, rg) := by
  intro args0 w0 v0 w1 rg h
  unfold G_X7_copyFrom at h
  split at h
  next =>
    cases h
    exact met_of_ex (by decide) (ok_k_X7_copyFrom l) rfl (run_X7_copyFrom rg _ _ _ _ _ _ _ _) (Nat.le_of_ble_eq_true rfl) rfl (Nat.le_refl _) (Nat.le_of_ble_eq_true rfl) (Nat.zero_le _) rfl rfl
  next => cases h
def F_X7_copyFrom : pF := frN G_X7_copyFrom
theorem ok_F_X7_copyFrom (l : Launch) : pFOK l yX7_copyFrom (pWs yX7_copyFrom cX7_copyFrom 2 (none)) rm_X7_copyFrom F_X7_copyFrom := pFOK_fr (fun a b c d h => ct_X7_copyFrom l a b c d rg00 h) (fun a b c d h => by
  unfold G_X7_copyFrom at h
  split at h
  next => simp
  next => cases h)
theorem rc_F_X7_copyFrom : pRcv 7 F_X7_copyFrom := pRcv_fr (fun a b c d h => by
  unfold G_X7_copyFrom at h
  split at h
  next => simp
  next => cases h) (fun a b c d h => by
  unfold G_X7_copyFrom at h
  split at h
  next => exact ⟨_, _, _, rfl, rfl⟩
  next => cases h)
end
end
section
noncomputable section
/-! THE LOOP'S CELLS AS ONE VALUE: v 0 its numbers, v 1 the settings, v 2 the paper, v 3 the measurements, v 4, v 5, v 6 the schedule -/
def vS (v : pLV) (k : Nat) (x : Int32) : pLV := fun a j => match a with
  | 0 => match Nat.beq j k with
    | true => x
    | false => v 0 j
  | a + 1 => v (a + 1) j
def vA (v : pLV) (a : Nat) (f : Nat → Int32) : pLV := fun b => match Nat.beq b a with
  | true => f
  | false => v b
def sget : List Int32 → Nat → Int32
  | [], _ => 0
  | x :: _, 0 => x
  | _ :: l, k + 1 => sget l k
def mkL (s : List Int32) (f1 f2 f3 f4 f5 f6 : Nat → Int32) : pLV := fun a => match a with
  | 0 => sget s
  | 1 => f1
  | 2 => f2
  | 3 => f3
  | 4 => f4
  | 5 => f5
  | _ => f6
def NL (v : pLV) : pLV := mkL [v 0 0, v 0 1, v 0 2, v 0 3, v 0 4, v 0 5, v 0 6, 0, 0, 0, v 0 10, v 0 11, v 0 12, v 0 13, v 0 14, v 0 15, v 0 16, v 0 17, v 0 18, v 0 19, v 0 20, v 0 21, v 0 22, v 0 23, v 0 24, v 0 25, v 0 26, v 0 27, v 0 28, v 0 29, v 0 30, v 0 31, v 0 32, v 0 33] (v 1) (v 2) (v 3) (v 4) (v 5) (v 6)
theorem NL_NL (v : pLV) : NL (NL v) = NL v := rfl
theorem NL_cells (b : Nat) (v : pLV) : loopCells b (NL v) = loopCells b v := rfl
def chk : List Nat → List Nat → Bool
  | [], [] => true
  | a :: l, b :: m => match Nat.beq a b with
    | true => chk l m
    | false => false
  | _, _ => false
theorem chk_eq : ∀ {l m : List Nat}, chk l m = true → l = m
  | [], [], _ => rfl
  | [], _ :: _, h => by cases h
  | _ :: _, [], h => by cases h
  | a :: l, b :: m, h => by
    unfold chk at h
    split at h
    next hb => rw [Nat.eq_of_beq_eq_true hb, chk_eq h]
    next => cases h
def unL {X : Type} (b : Nat) (w : pWd) (c : pLV → Option X) : Option X := match w with
  | [c0, c1, c2, c3, c4, c5, c6, c7, c8, c9, c10, c11, c12, c13] => (match c0 with | .inr (i0, [.int s0, .int s1, .int s2, .int s3, .int s4, .int s5, .int s6, .ref q0, .ref q1, .ref q2, .ref q3, .ref q4, .ref q5, .ref q6, .ref q7]) => (match c1 with | .inr (i1, [.int s30, .int s10, .int s11, .int s12]) => (match c2 with | .inr (i2, [.int s31, .int s13, .int s14, .int s15]) => (match c3 with | .inr (i3, [.int s32, .int s16, .int s17, .int s18]) => (match c4 with | .inr (i4, [.int s33, .int s19, .int s20, .int s21]) => (match c5 with | .inr (i5, [.int s22, .int s23, .int s24, .int s25, .int s26, .ref q8]) => (match c6 with | .inl (i6, n6, .inl f2) => (match c7 with | .inr (i7, [.int s27, .ref q9, .int s28]) => (match c8 with | .inl (i8, n8, .inl f3) => (match c9 with | .inr (i9, [.ref q10, .ref q11, .ref q12, .int s29]) => (match c10 with | .inl (i10, n10, .inl f4) => (match c11 with | .inl (i11, n11, .inl f5) => (match c12 with | .inl (i12, n12, .inl f6) => (match c13 with | .inl (i13, n13, .inl f1) => (match chk [i0, q0, q1, q2, q3, q4, q5, q6, q7, i1, i2, i3, i4, i5, q8, i6, n6, i7, q9, i8, n8, i9, q10, q11, q12, i10, n10, i11, n11, i12, n12, i13, n13] [5, b + 1, b + 2, b + 3, b + 4, b + 5, b + 7, b + 9, b + 13, 1, 1, 1, 1, 0, b + 6, 0, 4, 2, b + 8, 0, 9, 7, b + 10, b + 11, b + 12, 0, 20, 0, 20, 0, 20, 0, 9] with | true => c (mkL [s0, s1, s2, s3, s4, s5, s6, 0, 0, 0, s10, s11, s12, s13, s14, s15, s16, s17, s18, s19, s20, s21, s22, s23, s24, s25, s26, s27, s28, s29, s30, s31, s32, s33] f1 f2 f3 f4 f5 f6) | false => none) | _ => none) | _ => none) | _ => none) | _ => none) | _ => none) | _ => none) | _ => none) | _ => none) | _ => none) | _ => none) | _ => none) | _ => none) | _ => none) | _ => none)
  | _ => none
set_option maxHeartbeats 4000000 in
theorem unL_some {X : Type} {b : Nat} {w : pWd} {c : pLV → Option X} {o : X} (h : unL b w c = some o) : ∃ v, w = loopCells b v ∧ c v = some o := by
  unfold unL at h
  split at h
  next c0 c1 c2 c3 c4 c5 c6 c7 c8 c9 c10 c11 c12 c13 =>
    split at h
    next i0 s0 s1 s2 s3 s4 s5 s6 q0 q1 q2 q3 q4 q5 q6 q7 =>
      split at h
      next i1 s30 s10 s11 s12 =>
        split at h
        next i2 s31 s13 s14 s15 =>
          split at h
          next i3 s32 s16 s17 s18 =>
            split at h
            next i4 s33 s19 s20 s21 =>
              split at h
              next i5 s22 s23 s24 s25 s26 q8 =>
                split at h
                next i6 n6 f2 =>
                  split at h
                  next i7 s27 q9 s28 =>
                    split at h
                    next i8 n8 f3 =>
                      split at h
                      next i9 q10 q11 q12 s29 =>
                        split at h
                        next i10 n10 f4 =>
                          split at h
                          next i11 n11 f5 =>
                            split at h
                            next i12 n12 f6 =>
                              split at h
                              next i13 n13 f1 =>
                                split at h
                                next hc =>
                                  have hc := chk_eq hc
                                  simp only [List.cons.injEq, and_true] at hc
                                  obtain ⟨rfl, rfl, rfl, rfl, rfl, rfl, rfl, rfl, rfl, rfl, rfl, rfl, rfl, rfl, rfl, rfl, rfl, rfl, rfl, rfl, rfl, rfl, rfl, rfl, rfl, rfl, rfl, rfl, rfl, rfl, rfl, rfl, rfl⟩ := hc
                                  exact ⟨_, rfl, h⟩
                                next => cases h
                              next => cases h
                            next => cases h
                          next => cases h
                        next => cases h
                      next => cases h
                    next => cases h
                  next => cases h
                next => cases h
              next => cases h
            next => cases h
          next => cases h
        next => cases h
      next => cases h
    next => cases h
  next => cases h
theorem lc_len (b : Nat) (v : pLV) : (loopCells b v).length = 14 := rfl
theorem met_of_exL {l : Launch} {y : MethodName} {cc : ByteArray} {nL : Nat} {ret : Option FieldType} {rm : Room} {pcOf : Nat → Nat} {code : List pEn} (hy : plainName y.cls = true)
    (hc : ∀ (i : Nat) (en : pEn), code[i]? = some en → EOK l cc y.cls nL ret rm 0 pcOf i en) (hp0 : pcOf 0 = 0)
    {args : List Value} {v v' : pLV} {rg : pRg} {res : Option Value} (hrun : ∃ n, ex code n 0 (lv_args 0 args) [] (loopCells 0 v) rg = some (res, loopCells 0 v', rg)) (hsl : (lg_sl args).length ≤ nL) (hrc : rm.cells = 0) (hrs : rm.slots = 0) :
    pCT l y (pWs y cc nL ret) rm args (loopCells 0 v) rg (res, loopCells 0 v', rg) :=
  met_of_ex hy hc hp0 hrun hsl rfl (by dsimp only; rw [lc_len, lc_len]; exact Nat.le_refl _) (by dsimp only; rw [lc_len]; omega) (Nat.zero_le _) (by dsimp only; rw [lc_len, lc_len]; exact hrc) (by dsimp only; rw [lc_len, lc_len]; exact hrs)
end
end
section
noncomputable section
/-! THE LOOP -/
def startV (v : pLV) : pLV := vA (mkL [0, 0, 0, 0, 0, -9, 0, 0, 0, 0, 400, 9600, 0, 0, 0, 0, 0, 0, 0, 0, 0, 0, 0, 0, 0, 0, 0, 0, 0, v 0 29, v 0 30, v 0 31, v 0 32, v 0 33] (v 1) (v 2) (v 3) (v 4) (v 5) (v 6)) 2 (zr 4 (v 2))
theorem dX5_startAnew_0 : decode cX5_startAnew 0 = .ok (.aload_n 0, 1) := by decide +kernel
theorem dX5_startAnew_1 : decode cX5_startAnew 1 = .ok (.iconst 0, 1) := by decide +kernel
theorem dX5_startAnew_2 : decode cX5_startAnew 2 = .ok (.putfield 9, 3) := by decide +kernel
theorem dX5_startAnew_5 : decode cX5_startAnew 5 = .ok (.aload_n 0, 1) := by decide +kernel
theorem dX5_startAnew_6 : decode cX5_startAnew 6 = .ok (.iconst 0, 1) := by decide +kernel
theorem dX5_startAnew_7 : decode cX5_startAnew 7 = .ok (.putfield 15, 3) := by decide +kernel
theorem dX5_startAnew_10 : decode cX5_startAnew 10 = .ok (.aload_n 0, 1) := by decide +kernel
theorem dX5_startAnew_11 : decode cX5_startAnew 11 = .ok (.iconst 0, 1) := by decide +kernel
theorem dX5_startAnew_12 : decode cX5_startAnew 12 = .ok (.putfield 18, 3) := by decide +kernel
theorem dX5_startAnew_15 : decode cX5_startAnew 15 = .ok (.aload_n 0, 1) := by decide +kernel
theorem dX5_startAnew_16 : decode cX5_startAnew 16 = .ok (.iconst 0, 1) := by decide +kernel
theorem dX5_startAnew_17 : decode cX5_startAnew 17 = .ok (.putfield 21, 3) := by decide +kernel
theorem dX5_startAnew_20 : decode cX5_startAnew 20 = .ok (.aload_n 0, 1) := by decide +kernel
theorem dX5_startAnew_21 : decode cX5_startAnew 21 = .ok (.iconst 0, 1) := by decide +kernel
theorem dX5_startAnew_22 : decode cX5_startAnew 22 = .ok (.putfield 24, 3) := by decide +kernel
theorem dX5_startAnew_25 : decode cX5_startAnew 25 = .ok (.aload_n 0, 1) := by decide +kernel
theorem dX5_startAnew_26 : decode cX5_startAnew 26 = .ok (.bipush (-9), 2) := by decide +kernel
theorem dX5_startAnew_28 : decode cX5_startAnew 28 = .ok (.putfield 27, 3) := by decide +kernel
theorem dX5_startAnew_31 : decode cX5_startAnew 31 = .ok (.aload_n 0, 1) := by decide +kernel
theorem dX5_startAnew_32 : decode cX5_startAnew 32 = .ok (.iconst 0, 1) := by decide +kernel
theorem dX5_startAnew_33 : decode cX5_startAnew 33 = .ok (.putfield 30, 3) := by decide +kernel
theorem dX5_startAnew_36 : decode cX5_startAnew 36 = .ok (.aload_n 0, 1) := by decide +kernel
theorem dX5_startAnew_37 : decode cX5_startAnew 37 = .ok (.getfield 38, 3) := by decide +kernel
theorem dX5_startAnew_40 : decode cX5_startAnew 40 = .ok (.sipush 400, 3) := by decide +kernel
theorem dX5_startAnew_43 : decode cX5_startAnew 43 = .ok (.sipush 9600, 3) := by decide +kernel
theorem dX5_startAnew_46 : decode cX5_startAnew 46 = .ok (.invokevirtual 86, 3) := by decide +kernel
theorem dX5_startAnew_49 : decode cX5_startAnew 49 = .ok (.aload_n 0, 1) := by decide +kernel
theorem dX5_startAnew_50 : decode cX5_startAnew 50 = .ok (.getfield 42, 3) := by decide +kernel
theorem dX5_startAnew_53 : decode cX5_startAnew 53 = .ok (.iconst 0, 1) := by decide +kernel
theorem dX5_startAnew_54 : decode cX5_startAnew 54 = .ok (.iconst 0, 1) := by decide +kernel
theorem dX5_startAnew_55 : decode cX5_startAnew 55 = .ok (.invokevirtual 86, 3) := by decide +kernel
theorem dX5_startAnew_58 : decode cX5_startAnew 58 = .ok (.aload_n 0, 1) := by decide +kernel
theorem dX5_startAnew_59 : decode cX5_startAnew 59 = .ok (.getfield 45, 3) := by decide +kernel
theorem dX5_startAnew_62 : decode cX5_startAnew 62 = .ok (.iconst 0, 1) := by decide +kernel
theorem dX5_startAnew_63 : decode cX5_startAnew 63 = .ok (.iconst 0, 1) := by decide +kernel
theorem dX5_startAnew_64 : decode cX5_startAnew 64 = .ok (.invokevirtual 86, 3) := by decide +kernel
theorem dX5_startAnew_67 : decode cX5_startAnew 67 = .ok (.aload_n 0, 1) := by decide +kernel
theorem dX5_startAnew_68 : decode cX5_startAnew 68 = .ok (.getfield 48, 3) := by decide +kernel
theorem dX5_startAnew_71 : decode cX5_startAnew 71 = .ok (.iconst 0, 1) := by decide +kernel
theorem dX5_startAnew_72 : decode cX5_startAnew 72 = .ok (.iconst 0, 1) := by decide +kernel
theorem dX5_startAnew_73 : decode cX5_startAnew 73 = .ok (.invokevirtual 86, 3) := by decide +kernel
theorem dX5_startAnew_76 : decode cX5_startAnew 76 = .ok (.aload_n 0, 1) := by decide +kernel
theorem dX5_startAnew_77 : decode cX5_startAnew 77 = .ok (.getfield 54, 3) := by decide +kernel
theorem dX5_startAnew_80 : decode cX5_startAnew 80 = .ok (.invokevirtual 90, 3) := by decide +kernel
theorem dX5_startAnew_83 : decode cX5_startAnew 83 = .ok (.aload_n 0, 1) := by decide +kernel
theorem dX5_startAnew_84 : decode cX5_startAnew 84 = .ok (.getfield 61, 3) := by decide +kernel
theorem dX5_startAnew_87 : decode cX5_startAnew 87 = .ok (.invokevirtual 93, 3) := by decide +kernel
theorem dX5_startAnew_90 : decode cX5_startAnew 90 = .ok (.return_, 1) := by decide +kernel
def k_X5_startAnew : List pEn := [oAload 0, oConst (0), oPut 5 0, oAload 0, oConst (0), oPut 5 1, oAload 0, oConst (0), oPut 5 2, oAload 0, oConst (0), oPut 5 3, oAload 0, oConst (0), oPut 5 4, oAload 0, oConst (-9), oPut 5 5, oAload 0, oConst (0), oPut 5 6, oAload 0, oGet 5 7, oConst (400), oConst (9600), oCall 3 F_X1_startWith, oAload 0, oGet 5 8, oConst (0), oConst (0), oCall 3 F_X1_startWith, oAload 0, oGet 5 9, oConst (0), oConst (0), oCall 3 F_X1_startWith, oAload 0, oGet 5 10, oConst (0), oConst (0), oCall 3 F_X1_startWith, oAload 0, oGet 5 11, oCall 1 F_X0_clear, oAload 0, oGet 5 12, oCall 1 F_X2_clear, oVret]
def pc_X5_startAnew (i : Nat) : Nat := ([0, 1, 2, 5, 6, 7, 10, 11, 12, 15, 16, 17, 20, 21, 22, 25, 26, 28, 31, 32, 33, 36, 37, 40, 43, 46, 49, 50, 53, 54, 55, 58, 59, 62, 63, 64, 67, 68, 71, 72, 73, 76, 77, 80, 83, 84, 87, 90] : List Nat).getD i 0
abbrev rm_X5_startAnew : Room := { frames := 1, cells := 0, slots := 0, locals := 22 }
theorem pl_X5_startAnew : pPlain yX5_startAnew 0 := by decide +kernel
set_option maxRecDepth 100000 in
set_option maxHeartbeats 4000000 in
theorem ok_k_X5_startAnew (l : Launch) : ∀ (i : Nat) (en : pEn), k_X5_startAnew[i]? = some en → EOK l cX5_startAnew yX5_startAnew.cls 1 (none) rm_X5_startAnew 0 pc_X5_startAnew i en := by
  refine allOK_at ?_
  refine And.intro (okAload_n dX5_startAnew_0 rfl rfl) ?_
  refine And.intro (okIconst dX5_startAnew_1 rfl (by first | rfl | decide)) ?_
  refine And.intro (okPut (C := RX5) (T := TX5) (N := 15) dX5_startAnew_2 rfl rfl (by decide) inX5 tyX5_ok nmX5 rfl rfl wm_1_152) ?_
  refine And.intro (okAload_n dX5_startAnew_5 rfl rfl) ?_
  refine And.intro (okIconst dX5_startAnew_6 rfl (by first | rfl | decide)) ?_
  refine And.intro (okPut (C := RX5) (T := TX5) (N := 15) dX5_startAnew_7 rfl rfl (by decide) inX5 tyX5_ok nmX5 rfl rfl wm_1_154) ?_
  refine And.intro (okAload_n dX5_startAnew_10 rfl rfl) ?_
  refine And.intro (okIconst dX5_startAnew_11 rfl (by first | rfl | decide)) ?_
  refine And.intro (okPut (C := RX5) (T := TX5) (N := 15) dX5_startAnew_12 rfl rfl (by decide) inX5 tyX5_ok nmX5 rfl rfl wm_1_156) ?_
  refine And.intro (okAload_n dX5_startAnew_15 rfl rfl) ?_
  refine And.intro (okIconst dX5_startAnew_16 rfl (by first | rfl | decide)) ?_
  refine And.intro (okPut (C := RX5) (T := TX5) (N := 15) dX5_startAnew_17 rfl rfl (by decide) inX5 tyX5_ok nmX5 rfl rfl wm_1_158) ?_
  refine And.intro (okAload_n dX5_startAnew_20 rfl rfl) ?_
  refine And.intro (okIconst dX5_startAnew_21 rfl (by first | rfl | decide)) ?_
  refine And.intro (okPut (C := RX5) (T := TX5) (N := 15) dX5_startAnew_22 rfl rfl (by decide) inX5 tyX5_ok nmX5 rfl rfl wm_1_160) ?_
  refine And.intro (okAload_n dX5_startAnew_25 rfl rfl) ?_
  refine And.intro (okBipush dX5_startAnew_26 rfl (by first | rfl | decide)) ?_
  refine And.intro (okPut (C := RX5) (T := TX5) (N := 15) dX5_startAnew_28 rfl rfl (by decide) inX5 tyX5_ok nmX5 rfl rfl wm_1_162) ?_
  refine And.intro (okAload_n dX5_startAnew_31 rfl rfl) ?_
  refine And.intro (okIconst dX5_startAnew_32 rfl (by first | rfl | decide)) ?_
  refine And.intro (okPut (C := RX5) (T := TX5) (N := 15) dX5_startAnew_33 rfl rfl (by decide) inX5 tyX5_ok nmX5 rfl rfl wm_1_164) ?_
  refine And.intro (okAload_n dX5_startAnew_36 rfl rfl) ?_
  refine And.intro (okGet (C := RX5) (T := TX5) (N := 15) dX5_startAnew_37 rfl rfl (by decide) inX5 wm_1_166) ?_
  refine And.intro (okSipush dX5_startAnew_40 rfl (by first | rfl | decide)) ?_
  refine And.intro (okSipush dX5_startAnew_43 rfl (by first | rfl | decide)) ?_
  refine And.intro (okCallV (y := yX1_startWith) (T := TX1) (oCall_is _ _ _) dX5_startAnew_46 rfl (ok_F_X1_startWith l) rc_F_X1_startWith rfl wm_1_140 wm_1_141 wm_1_142 wm_1_3 wm_1_143 pl_X1_startWith (by decide)) ?_
  refine And.intro (okAload_n dX5_startAnew_49 rfl rfl) ?_
  refine And.intro (okGet (C := RX5) (T := TX5) (N := 15) dX5_startAnew_50 rfl rfl (by decide) inX5 wm_1_167) ?_
  refine And.intro (okIconst dX5_startAnew_53 rfl (by first | rfl | decide)) ?_
  refine And.intro (okIconst dX5_startAnew_54 rfl (by first | rfl | decide)) ?_
  refine And.intro (okCallV (y := yX1_startWith) (T := TX1) (oCall_is _ _ _) dX5_startAnew_55 rfl (ok_F_X1_startWith l) rc_F_X1_startWith rfl wm_1_140 wm_1_141 wm_1_142 wm_1_3 wm_1_143 pl_X1_startWith (by decide)) ?_
  refine And.intro (okAload_n dX5_startAnew_58 rfl rfl) ?_
  refine And.intro (okGet (C := RX5) (T := TX5) (N := 15) dX5_startAnew_59 rfl rfl (by decide) inX5 wm_1_169) ?_
  refine And.intro (okIconst dX5_startAnew_62 rfl (by first | rfl | decide)) ?_
  refine And.intro (okIconst dX5_startAnew_63 rfl (by first | rfl | decide)) ?_
  refine And.intro (okCallV (y := yX1_startWith) (T := TX1) (oCall_is _ _ _) dX5_startAnew_64 rfl (ok_F_X1_startWith l) rc_F_X1_startWith rfl wm_1_140 wm_1_141 wm_1_142 wm_1_3 wm_1_143 pl_X1_startWith (by decide)) ?_
  refine And.intro (okAload_n dX5_startAnew_67 rfl rfl) ?_
  refine And.intro (okGet (C := RX5) (T := TX5) (N := 15) dX5_startAnew_68 rfl rfl (by decide) inX5 wm_1_170) ?_
  refine And.intro (okIconst dX5_startAnew_71 rfl (by first | rfl | decide)) ?_
  refine And.intro (okIconst dX5_startAnew_72 rfl (by first | rfl | decide)) ?_
  refine And.intro (okCallV (y := yX1_startWith) (T := TX1) (oCall_is _ _ _) dX5_startAnew_73 rfl (ok_F_X1_startWith l) rc_F_X1_startWith rfl wm_1_140 wm_1_141 wm_1_142 wm_1_3 wm_1_143 pl_X1_startWith (by decide)) ?_
  refine And.intro (okAload_n dX5_startAnew_76 rfl rfl) ?_
  refine And.intro (okGet (C := RX5) (T := TX5) (N := 15) dX5_startAnew_77 rfl rfl (by decide) inX5 wm_1_172) ?_
  refine And.intro (okCallV (y := yX0_clear) (T := TX0) (oCall_is _ _ _) dX5_startAnew_80 rfl (ok_F_X0_clear l) rc_F_X0_clear rfl wm_1_144 wm_1_145 wm_1_146 wm_1_4 wm_1_147 pl_X0_clear (by decide)) ?_
  refine And.intro (okAload_n dX5_startAnew_83 rfl rfl) ?_
  refine And.intro (okGet (C := RX5) (T := TX5) (N := 15) dX5_startAnew_84 rfl rfl (by decide) inX5 wm_1_174) ?_
  refine And.intro (okCallV (y := yX2_clear) (T := TX2) (oCall_is _ _ _) dX5_startAnew_87 rfl (ok_F_X2_clear l) rc_F_X2_clear rfl wm_1_148 wm_1_149 wm_1_150 wm_1_5 wm_1_151 pl_X2_clear (by decide)) ?_
  refine And.intro (okVret dX5_startAnew_90 rfl) ?_
  exact trivial
def G_X5_startAnew : pG := fun args w => match args with
  | [.ref 0] => unL 0 w (fun v => some (none, loopCells 0 (startV v)))
  | _ => none
set_option maxHeartbeats 400000 in
set_option maxRecDepth 100000 in
theorem run_X5_startAnew (rg : pRg) (v : pLV)  : ∃ fu, ex k_X5_startAnew fu 0 [(0, .ref 0)] [] (loopCells 0 v) rg = some (none, loopCells 0 (startV v), rg) := by
  refine ⟨60, ?_⟩
  rfl
theorem ct_X5_startAnew (l : Launch) : ∀ args0 w0 v0 w1 rg, G_X5_startAnew args0 w0 = some (v0, w1) → pCT l yX5_startAnew (pWs yX5_startAnew cX5_startAnew 1 (none)) rm_X5_startAnew args0 w0 rg (v0, w1, rg) := by
  intro args0 w0 v0 w1 rg h
  unfold G_X5_startAnew at h
  split at h
  next  =>
    obtain ⟨v, hw, h2⟩ := unL_some h
    clear h
    subst hw
    cases h2
    exact met_of_exL (by decide) (ok_k_X5_startAnew l) rfl (run_X5_startAnew rg v ) (Nat.le_of_ble_eq_true rfl) rfl rfl
  next => cases h
def F_X5_startAnew : pF := fz (faN G_X5_startAnew)
theorem ok_F_X5_startAnew (l : Launch) : pFOK l yX5_startAnew (pWs yX5_startAnew cX5_startAnew 1 (none)) rm_X5_startAnew F_X5_startAnew := pFOK_fz (pFOK_fa (fun a b c d rg h => ct_X5_startAnew l a b c d rg h))
theorem rc_F_X5_startAnew : pRcv 5 F_X5_startAnew := pRcv_fz (pRcv_fa (fun a b c d h => by
  unfold G_X5_startAnew at h
  split at h
  next =>
    obtain ⟨v, rfl, h⟩ := unL_some h
    exact ⟨_, _, _, rfl, rfl⟩
  next => cases h))
theorem cl_X5_startAnew (v : pLV)  (rg : pRg) : F_X5_startAnew [.ref 0] (loopCells 0 v) rg = some (none, loopCells 0 (startV (NL v)), rg) := (fz_eq _ _ _ _).trans rfl
def Fb_X5_startAnew : pF := frN G_X5_startAnew
theorem ok_Fb_X5_startAnew (l : Launch) : pFOK l yX5_startAnew (pWs yX5_startAnew cX5_startAnew 1 (none)) rm_X5_startAnew Fb_X5_startAnew := pFOK_fr (fun a b c d h => ct_X5_startAnew l a b c d rg00 h) (fun a b c d h => by
  unfold G_X5_startAnew at h
  split at h
  next =>
    obtain ⟨v, rfl, h⟩ := unL_some h
    exact Nat.le_of_ble_eq_true rfl
  next => cases h)
theorem rc_Fb_X5_startAnew : pRcv 5 Fb_X5_startAnew := pRcv_fr (fun a b c d h => by
  unfold G_X5_startAnew at h
  split at h
  next =>
    obtain ⟨v, rfl, h⟩ := unL_some h
    exact Nat.le_of_ble_eq_true rfl
  next => cases h) (fun a b c d h => by
  unfold G_X5_startAnew at h
  split at h
  next =>
    obtain ⟨v, rfl, h⟩ := unL_some h
    exact ⟨_, _, _, rfl, rfl⟩
  next => cases h)
end
end
section
noncomputable section
def fibV (v : pLV) : Int32 := v 0 10 + v 0 13 + v 0 16 + v 0 19
theorem dX5_fibreNow_0 : decode cX5_fibreNow 0 = .ok (.aload_n 0, 1) := by decide +kernel
theorem dX5_fibreNow_1 : decode cX5_fibreNow 1 = .ok (.getfield 38, 3) := by decide +kernel
theorem dX5_fibreNow_4 : decode cX5_fibreNow 4 = .ok (.getfield 107, 3) := by decide +kernel
theorem dX5_fibreNow_7 : decode cX5_fibreNow 7 = .ok (.aload_n 0, 1) := by decide +kernel
theorem dX5_fibreNow_8 : decode cX5_fibreNow 8 = .ok (.getfield 42, 3) := by decide +kernel
theorem dX5_fibreNow_11 : decode cX5_fibreNow 11 = .ok (.getfield 107, 3) := by decide +kernel
theorem dX5_fibreNow_14 : decode cX5_fibreNow 14 = .ok (.iadd, 1) := by decide +kernel
theorem dX5_fibreNow_15 : decode cX5_fibreNow 15 = .ok (.aload_n 0, 1) := by decide +kernel
theorem dX5_fibreNow_16 : decode cX5_fibreNow 16 = .ok (.getfield 45, 3) := by decide +kernel
theorem dX5_fibreNow_19 : decode cX5_fibreNow 19 = .ok (.getfield 107, 3) := by decide +kernel
theorem dX5_fibreNow_22 : decode cX5_fibreNow 22 = .ok (.iadd, 1) := by decide +kernel
theorem dX5_fibreNow_23 : decode cX5_fibreNow 23 = .ok (.aload_n 0, 1) := by decide +kernel
theorem dX5_fibreNow_24 : decode cX5_fibreNow 24 = .ok (.getfield 48, 3) := by decide +kernel
theorem dX5_fibreNow_27 : decode cX5_fibreNow 27 = .ok (.getfield 107, 3) := by decide +kernel
theorem dX5_fibreNow_30 : decode cX5_fibreNow 30 = .ok (.iadd, 1) := by decide +kernel
theorem dX5_fibreNow_31 : decode cX5_fibreNow 31 = .ok (.ireturn, 1) := by decide +kernel
def k_X5_fibreNow : List pEn := [oAload 0, oGet 5 7, oGet 1 1, oAload 0, oGet 5 8, oGet 1 1, oAdd, oAload 0, oGet 5 9, oGet 1 1, oAdd, oAload 0, oGet 5 10, oGet 1 1, oAdd, oIret]
def pc_X5_fibreNow (i : Nat) : Nat := ([0, 1, 4, 7, 8, 11, 14, 15, 16, 19, 22, 23, 24, 27, 30, 31] : List Nat).getD i 0
abbrev rm_X5_fibreNow : Room := { frames := 0, cells := 0, slots := 0, locals := 0 }
theorem pl_X5_fibreNow : pPlain yX5_fibreNow 0 := by decide +kernel
set_option maxRecDepth 100000 in
set_option maxHeartbeats 4000000 in
theorem ok_k_X5_fibreNow (l : Launch) : ∀ (i : Nat) (en : pEn), k_X5_fibreNow[i]? = some en → EOK l cX5_fibreNow yX5_fibreNow.cls 1 ((some FieldType.int)) rm_X5_fibreNow 0 pc_X5_fibreNow i en := by
  refine allOK_at ?_
  refine And.intro (okAload_n dX5_fibreNow_0 rfl rfl) ?_
  refine And.intro (okGet (C := RX5) (T := TX5) (N := 15) dX5_fibreNow_1 rfl rfl (by decide) inX5 wm_1_166) ?_
  refine And.intro (okGet (C := RX1) (T := TX1) (N := 4) dX5_fibreNow_4 rfl rfl (by decide) inX1 wm_1_34) ?_
  refine And.intro (okAload_n dX5_fibreNow_7 rfl rfl) ?_
  refine And.intro (okGet (C := RX5) (T := TX5) (N := 15) dX5_fibreNow_8 rfl rfl (by decide) inX5 wm_1_167) ?_
  refine And.intro (okGet (C := RX1) (T := TX1) (N := 4) dX5_fibreNow_11 rfl rfl (by decide) inX1 wm_1_34) ?_
  refine And.intro (okAdd dX5_fibreNow_14 rfl) ?_
  refine And.intro (okAload_n dX5_fibreNow_15 rfl rfl) ?_
  refine And.intro (okGet (C := RX5) (T := TX5) (N := 15) dX5_fibreNow_16 rfl rfl (by decide) inX5 wm_1_169) ?_
  refine And.intro (okGet (C := RX1) (T := TX1) (N := 4) dX5_fibreNow_19 rfl rfl (by decide) inX1 wm_1_34) ?_
  refine And.intro (okAdd dX5_fibreNow_22 rfl) ?_
  refine And.intro (okAload_n dX5_fibreNow_23 rfl rfl) ?_
  refine And.intro (okGet (C := RX5) (T := TX5) (N := 15) dX5_fibreNow_24 rfl rfl (by decide) inX5 wm_1_170) ?_
  refine And.intro (okGet (C := RX1) (T := TX1) (N := 4) dX5_fibreNow_27 rfl rfl (by decide) inX1 wm_1_34) ?_
  refine And.intro (okAdd dX5_fibreNow_30 rfl) ?_
  refine And.intro (okIret dX5_fibreNow_31 rfl) ?_
  exact trivial
def G_X5_fibreNow : pG := fun args w => match args with
  | [.ref 0] => unL 0 w (fun v => some (some (.int (fibV v)), loopCells 0 (v)))
  | _ => none
set_option maxHeartbeats 400000 in
set_option maxRecDepth 100000 in
theorem run_X5_fibreNow (rg : pRg) (v : pLV)  : ∃ fu, ex k_X5_fibreNow fu 0 [(0, .ref 0)] [] (loopCells 0 v) rg = some (some (.int (fibV v)), loopCells 0 (v), rg) := by
  refine ⟨60, ?_⟩
  rfl
theorem ct_X5_fibreNow (l : Launch) : ∀ args0 w0 v0 w1 rg, G_X5_fibreNow args0 w0 = some (v0, w1) → pCT l yX5_fibreNow (pWs yX5_fibreNow cX5_fibreNow 1 ((some FieldType.int))) rm_X5_fibreNow args0 w0 rg (v0, w1, rg) := by
  intro args0 w0 v0 w1 rg h
  unfold G_X5_fibreNow at h
  split at h
  next  =>
    obtain ⟨v, hw, h2⟩ := unL_some h
    clear h
    subst hw
    cases h2
    exact met_of_exL (by decide) (ok_k_X5_fibreNow l) rfl (run_X5_fibreNow rg v ) (Nat.le_of_ble_eq_true rfl) rfl rfl
  next => cases h
def F_X5_fibreNow : pF := fz (faN G_X5_fibreNow)
theorem ok_F_X5_fibreNow (l : Launch) : pFOK l yX5_fibreNow (pWs yX5_fibreNow cX5_fibreNow 1 ((some FieldType.int))) rm_X5_fibreNow F_X5_fibreNow := pFOK_fz (pFOK_fa (fun a b c d rg h => ct_X5_fibreNow l a b c d rg h))
theorem rc_F_X5_fibreNow : pRcv 5 F_X5_fibreNow := pRcv_fz (pRcv_fa (fun a b c d h => by
  unfold G_X5_fibreNow at h
  split at h
  next =>
    obtain ⟨v, rfl, h⟩ := unL_some h
    exact ⟨_, _, _, rfl, rfl⟩
  next => cases h))
theorem cl_X5_fibreNow (v : pLV)  (rg : pRg) : F_X5_fibreNow [.ref 0] (loopCells 0 v) rg = some (some (.int (fibV (NL v))), loopCells 0 ((NL v)), rg) := (fz_eq _ _ _ _).trans rfl
def Fb_X5_fibreNow : pF := frN G_X5_fibreNow
theorem ok_Fb_X5_fibreNow (l : Launch) : pFOK l yX5_fibreNow (pWs yX5_fibreNow cX5_fibreNow 1 ((some FieldType.int))) rm_X5_fibreNow Fb_X5_fibreNow := pFOK_fr (fun a b c d h => ct_X5_fibreNow l a b c d rg00 h) (fun a b c d h => by
  unfold G_X5_fibreNow at h
  split at h
  next =>
    obtain ⟨v, rfl, h⟩ := unL_some h
    exact Nat.le_of_ble_eq_true rfl
  next => cases h)
theorem rc_Fb_X5_fibreNow : pRcv 5 Fb_X5_fibreNow := pRcv_fr (fun a b c d h => by
  unfold G_X5_fibreNow at h
  split at h
  next =>
    obtain ⟨v, rfl, h⟩ := unL_some h
    exact Nat.le_of_ble_eq_true rfl
  next => cases h) (fun a b c d h => by
  unfold G_X5_fibreNow at h
  split at h
  next =>
    obtain ⟨v, rfl, h⟩ := unL_some h
    exact ⟨_, _, _, rfl, rfl⟩
  next => cases h)
end
end
section
noncomputable section
def brkV (v : pLV) (t : Int32) : pLV := vS v 2 (mxI (v 0 2) t)
theorem dX5_breakSheet_0 : decode cX5_breakSheet 0 = .ok (.aload_n 0, 1) := by decide +kernel
theorem dX5_breakSheet_1 : decode cX5_breakSheet 1 = .ok (.aload_n 0, 1) := by decide +kernel
theorem dX5_breakSheet_2 : decode cX5_breakSheet 2 = .ok (.getfield 18, 3) := by decide +kernel
theorem dX5_breakSheet_5 : decode cX5_breakSheet 5 = .ok (.iload_n 1, 1) := by decide +kernel
theorem dX5_breakSheet_6 : decode cX5_breakSheet 6 = .ok (.invokestatic 110, 3) := by decide +kernel
theorem dX5_breakSheet_9 : decode cX5_breakSheet 9 = .ok (.putfield 18, 3) := by decide +kernel
theorem dX5_breakSheet_12 : decode cX5_breakSheet 12 = .ok (.return_, 1) := by decide +kernel
def k_X5_breakSheet : List pEn := [oAload 0, oAload 0, oGet 5 2, oIload 1, oMax, oPut 5 2, oVret]
def pc_X5_breakSheet (i : Nat) : Nat := ([0, 1, 2, 5, 6, 9, 12] : List Nat).getD i 0
abbrev rm_X5_breakSheet : Room := { frames := 1, cells := 0, slots := 0, locals := 21 }
theorem pl_X5_breakSheet : pPlain yX5_breakSheet 1 := by decide +kernel
set_option maxRecDepth 100000 in
set_option maxHeartbeats 4000000 in
theorem ok_k_X5_breakSheet (l : Launch) : ∀ (i : Nat) (en : pEn), k_X5_breakSheet[i]? = some en → EOK l cX5_breakSheet yX5_breakSheet.cls 2 (none) rm_X5_breakSheet 0 pc_X5_breakSheet i en := by
  refine allOK_at ?_
  refine And.intro (okAload_n dX5_breakSheet_0 rfl rfl) ?_
  refine And.intro (okAload_n dX5_breakSheet_1 rfl rfl) ?_
  refine And.intro (okGet (C := RX5) (T := TX5) (N := 15) dX5_breakSheet_2 rfl rfl (by decide) inX5 wm_1_156) ?_
  refine And.intro (okIload_n dX5_breakSheet_5 rfl rfl) ?_
  refine And.intro (okMax dX5_breakSheet_6 rfl wm_2_114 wm_2_115 wm_1_11 wm_2_116 (by decide) (by decide)) ?_
  refine And.intro (okPut (C := RX5) (T := TX5) (N := 15) dX5_breakSheet_9 rfl rfl (by decide) inX5 tyX5_ok nmX5 rfl rfl wm_1_156) ?_
  refine And.intro (okVret dX5_breakSheet_12 rfl) ?_
  exact trivial
def G_X5_breakSheet : pG := fun args w => match args with
  | [.ref 0, .int t] => unL 0 w (fun v => some (none, loopCells 0 (brkV v t)))
  | _ => none
set_option maxHeartbeats 400000 in
set_option maxRecDepth 100000 in
theorem run_X5_breakSheet (rg : pRg) (v : pLV) (t : Int32) : ∃ fu, ex k_X5_breakSheet fu 0 [(0, .ref 0), (1, .int t)] [] (loopCells 0 v) rg = some (none, loopCells 0 (brkV v t), rg) := by
  refine ⟨60, ?_⟩
  rfl
theorem ct_X5_breakSheet (l : Launch) : ∀ args0 w0 v0 w1 rg, G_X5_breakSheet args0 w0 = some (v0, w1) → pCT l yX5_breakSheet (pWs yX5_breakSheet cX5_breakSheet 2 (none)) rm_X5_breakSheet args0 w0 rg (v0, w1, rg) := by
  intro args0 w0 v0 w1 rg h
  unfold G_X5_breakSheet at h
  split at h
  next t =>
    obtain ⟨v, hw, h2⟩ := unL_some h
    clear h
    subst hw
    cases h2
    exact met_of_exL (by decide) (ok_k_X5_breakSheet l) rfl (run_X5_breakSheet rg v t) (Nat.le_of_ble_eq_true rfl) rfl rfl
  next => cases h
def F_X5_breakSheet : pF := fz (faN G_X5_breakSheet)
theorem ok_F_X5_breakSheet (l : Launch) : pFOK l yX5_breakSheet (pWs yX5_breakSheet cX5_breakSheet 2 (none)) rm_X5_breakSheet F_X5_breakSheet := pFOK_fz (pFOK_fa (fun a b c d rg h => ct_X5_breakSheet l a b c d rg h))
theorem rc_F_X5_breakSheet : pRcv 5 F_X5_breakSheet := pRcv_fz (pRcv_fa (fun a b c d h => by
  unfold G_X5_breakSheet at h
  split at h
  next =>
    obtain ⟨v, rfl, h⟩ := unL_some h
    exact ⟨_, _, _, rfl, rfl⟩
  next => cases h))
theorem cl_X5_breakSheet (v : pLV) (t : Int32) (rg : pRg) : F_X5_breakSheet [.ref 0, .int t] (loopCells 0 v) rg = some (none, loopCells 0 (brkV (NL v) t), rg) := (fz_eq _ _ _ _).trans rfl
def Fb_X5_breakSheet : pF := frN G_X5_breakSheet
theorem ok_Fb_X5_breakSheet (l : Launch) : pFOK l yX5_breakSheet (pWs yX5_breakSheet cX5_breakSheet 2 (none)) rm_X5_breakSheet Fb_X5_breakSheet := pFOK_fr (fun a b c d h => ct_X5_breakSheet l a b c d rg00 h) (fun a b c d h => by
  unfold G_X5_breakSheet at h
  split at h
  next =>
    obtain ⟨v, rfl, h⟩ := unL_some h
    exact Nat.le_of_ble_eq_true rfl
  next => cases h)
theorem rc_Fb_X5_breakSheet : pRcv 5 Fb_X5_breakSheet := pRcv_fr (fun a b c d h => by
  unfold G_X5_breakSheet at h
  split at h
  next =>
    obtain ⟨v, rfl, h⟩ := unL_some h
    exact Nat.le_of_ble_eq_true rfl
  next => cases h) (fun a b c d h => by
  unfold G_X5_breakSheet at h
  split at h
  next =>
    obtain ⟨v, rfl, h⟩ := unL_some h
    exact ⟨_, _, _, rfl, rfl⟩
  next => cases h)
end
end
section
noncomputable section
def turnV (v : pLV) (g : Int32) : pLV := if g = v 0 1 then v else vS (vS v 1 g) 3 (v 1 8)
theorem dX5_turnTo_0 : decode cX5_turnTo 0 = .ok (.iload_n 1, 1) := by decide +kernel
theorem dX5_turnTo_1 : decode cX5_turnTo 1 = .ok (.aload_n 0, 1) := by decide +kernel
theorem dX5_turnTo_2 : decode cX5_turnTo 2 = .ok (.getfield 15, 3) := by decide +kernel
theorem dX5_turnTo_5 : decode cX5_turnTo 5 = .ok (.if_icmp .eq 19, 3) := by decide +kernel
theorem dX5_turnTo_8 : decode cX5_turnTo 8 = .ok (.aload_n 0, 1) := by decide +kernel
theorem dX5_turnTo_9 : decode cX5_turnTo 9 = .ok (.iload_n 1, 1) := by decide +kernel
theorem dX5_turnTo_10 : decode cX5_turnTo 10 = .ok (.putfield 15, 3) := by decide +kernel
theorem dX5_turnTo_13 : decode cX5_turnTo 13 = .ok (.aload_n 0, 1) := by decide +kernel
theorem dX5_turnTo_14 : decode cX5_turnTo 14 = .ok (.aload_n 0, 1) := by decide +kernel
theorem dX5_turnTo_15 : decode cX5_turnTo 15 = .ok (.getfield 72, 3) := by decide +kernel
theorem dX5_turnTo_18 : decode cX5_turnTo 18 = .ok (.bipush 8, 2) := by decide +kernel
theorem dX5_turnTo_20 : decode cX5_turnTo 20 = .ok (.iaload, 1) := by decide +kernel
theorem dX5_turnTo_21 : decode cX5_turnTo 21 = .ok (.putfield 21, 3) := by decide +kernel
theorem dX5_turnTo_24 : decode cX5_turnTo 24 = .ok (.return_, 1) := by decide +kernel
def k_X5_turnTo : List pEn := [oIload 1, oAload 0, oGet 5 1, oCeq 13, oAload 0, oIload 1, oPut 5 1, oAload 0, oAload 0, oGet 5 14, oConst (8), oIaldN 8, oPut 5 3, oVret]
def pc_X5_turnTo (i : Nat) : Nat := ([0, 1, 2, 5, 8, 9, 10, 13, 14, 15, 18, 20, 21, 24] : List Nat).getD i 0
abbrev rm_X5_turnTo : Room := { frames := 0, cells := 0, slots := 0, locals := 0 }
theorem pl_X5_turnTo : pPlain yX5_turnTo 1 := by decide +kernel
set_option maxRecDepth 100000 in
set_option maxHeartbeats 4000000 in
theorem ok_k_X5_turnTo (l : Launch) : ∀ (i : Nat) (en : pEn), k_X5_turnTo[i]? = some en → EOK l cX5_turnTo yX5_turnTo.cls 2 (none) rm_X5_turnTo 0 pc_X5_turnTo i en := by
  refine allOK_at ?_
  refine And.intro (okIload_n dX5_turnTo_0 rfl rfl) ?_
  refine And.intro (okAload_n dX5_turnTo_1 rfl rfl) ?_
  refine And.intro (okGet (C := RX5) (T := TX5) (N := 15) dX5_turnTo_2 rfl rfl (by decide) inX5 wm_1_154) ?_
  refine And.intro (okCeq dX5_turnTo_5 rfl (by rfl)) ?_
  refine And.intro (okAload_n dX5_turnTo_8 rfl rfl) ?_
  refine And.intro (okIload_n dX5_turnTo_9 rfl rfl) ?_
  refine And.intro (okPut (C := RX5) (T := TX5) (N := 15) dX5_turnTo_10 rfl rfl (by decide) inX5 tyX5_ok nmX5 rfl rfl wm_1_154) ?_
  refine And.intro (okAload_n dX5_turnTo_13 rfl rfl) ?_
  refine And.intro (okAload_n dX5_turnTo_14 rfl rfl) ?_
  refine And.intro (okGet (C := RX5) (T := TX5) (N := 15) dX5_turnTo_15 rfl rfl (by decide) inX5 wm_1_178) ?_
  refine And.intro (okBipush dX5_turnTo_18 rfl (by first | rfl | decide)) ?_
  refine And.intro (okIaldN dX5_turnTo_20 rfl) ?_
  refine And.intro (okPut (C := RX5) (T := TX5) (N := 15) dX5_turnTo_21 rfl rfl (by decide) inX5 tyX5_ok nmX5 rfl rfl wm_1_158) ?_
  refine And.intro (okVret dX5_turnTo_24 rfl) ?_
  exact trivial
def G_X5_turnTo : pG := fun args w => match args with
  | [.ref 0, .int g] => unL 0 w (fun v => some (none, loopCells 0 (turnV v g)))
  | _ => none
set_option maxHeartbeats 400000 in
set_option maxRecDepth 100000 in
theorem run_X5_turnTo (rg : pRg) (v : pLV) (g : Int32) : ∃ fu, ex k_X5_turnTo fu 0 [(0, .ref 0), (1, .int g)] [] (loopCells 0 v) rg = some (none, loopCells 0 (turnV v g), rg) := by
  refine ⟨60, ?_⟩
  conv => lhs; whnf
  refine pif_c (fun h => ?_) (fun h => ?_)
  · simp only [turnV, if_pos h]; rfl
  · simp only [turnV, if_neg h]; rfl
theorem ct_X5_turnTo (l : Launch) : ∀ args0 w0 v0 w1 rg, G_X5_turnTo args0 w0 = some (v0, w1) → pCT l yX5_turnTo (pWs yX5_turnTo cX5_turnTo 2 (none)) rm_X5_turnTo args0 w0 rg (v0, w1, rg) := by
  intro args0 w0 v0 w1 rg h
  unfold G_X5_turnTo at h
  split at h
  next g =>
    obtain ⟨v, hw, h2⟩ := unL_some h
    clear h
    subst hw
    cases h2
    exact met_of_exL (by decide) (ok_k_X5_turnTo l) rfl (run_X5_turnTo rg v g) (Nat.le_of_ble_eq_true rfl) rfl rfl
  next => cases h
def F_X5_turnTo : pF := fz (faN G_X5_turnTo)
theorem ok_F_X5_turnTo (l : Launch) : pFOK l yX5_turnTo (pWs yX5_turnTo cX5_turnTo 2 (none)) rm_X5_turnTo F_X5_turnTo := pFOK_fz (pFOK_fa (fun a b c d rg h => ct_X5_turnTo l a b c d rg h))
theorem rc_F_X5_turnTo : pRcv 5 F_X5_turnTo := pRcv_fz (pRcv_fa (fun a b c d h => by
  unfold G_X5_turnTo at h
  split at h
  next =>
    obtain ⟨v, rfl, h⟩ := unL_some h
    exact ⟨_, _, _, rfl, rfl⟩
  next => cases h))
theorem cl_X5_turnTo (v : pLV) (g : Int32) (rg : pRg) : F_X5_turnTo [.ref 0, .int g] (loopCells 0 v) rg = some (none, loopCells 0 (turnV (NL v) g), rg) := (fz_eq _ _ _ _).trans rfl
def Fb_X5_turnTo : pF := frN G_X5_turnTo
theorem ok_Fb_X5_turnTo (l : Launch) : pFOK l yX5_turnTo (pWs yX5_turnTo cX5_turnTo 2 (none)) rm_X5_turnTo Fb_X5_turnTo := pFOK_fr (fun a b c d h => ct_X5_turnTo l a b c d rg00 h) (fun a b c d h => by
  unfold G_X5_turnTo at h
  split at h
  next =>
    obtain ⟨v, rfl, h⟩ := unL_some h
    exact Nat.le_of_ble_eq_true rfl
  next => cases h)
theorem rc_Fb_X5_turnTo : pRcv 5 Fb_X5_turnTo := pRcv_fr (fun a b c d h => by
  unfold G_X5_turnTo at h
  split at h
  next =>
    obtain ⟨v, rfl, h⟩ := unL_some h
    exact Nat.le_of_ble_eq_true rfl
  next => cases h) (fun a b c d h => by
  unfold G_X5_turnTo at h
  split at h
  next =>
    obtain ⟨v, rfl, h⟩ := unL_some h
    exact ⟨_, _, _, rfl, rfl⟩
  next => cases h)
end
end
section
noncomputable section
/-- the chest at a place -/
def chN : Nat → Option Nat
  | 1 => some 0
  | 2 => some 1
  | 3 => some 2
  | 4 => some 3
  | _ => none
def pourR (c : Nat) (v : pLV) (a b : Int32) : Int32 := puR (v 0 (30 + c)) (v 0 (10 + 3 * c)) (v 0 (11 + 3 * c)) a b
def pourV (c : Nat) (v : pLV) (a b : Int32) : pLV := vS (vS (vS v (10 + 3 * c) (puF (v 0 (30 + c)) (v 0 (10 + 3 * c)) (v 0 (11 + 3 * c)) a b)) (11 + 3 * c) (puG (v 0 (30 + c)) (v 0 (10 + 3 * c)) (v 0 (11 + 3 * c)) a b)) 24 (v 0 24 + pourR c v a b)
theorem dX5_pour_0 : decode cX5_pour 0 = .ok (.aload_n 1, 1) := by decide +kernel
theorem dX5_pour_1 : decode cX5_pour 1 = .ok (.iload_n 2, 1) := by decide +kernel
theorem dX5_pour_2 : decode cX5_pour 2 = .ok (.iload_n 3, 1) := by decide +kernel
theorem dX5_pour_3 : decode cX5_pour 3 = .ok (.invokevirtual 116, 3) := by decide +kernel
theorem dX5_pour_6 : decode cX5_pour 6 = .ok (.istore 4, 2) := by decide +kernel
theorem dX5_pour_8 : decode cX5_pour 8 = .ok (.aload_n 0, 1) := by decide +kernel
theorem dX5_pour_9 : decode cX5_pour 9 = .ok (.getfield 54, 3) := by decide +kernel
theorem dX5_pour_12 : decode cX5_pour 12 = .ok (.dup, 1) := by decide +kernel
theorem dX5_pour_13 : decode cX5_pour 13 = .ok (.getfield 119, 3) := by decide +kernel
theorem dX5_pour_16 : decode cX5_pour 16 = .ok (.iload 4, 2) := by decide +kernel
theorem dX5_pour_18 : decode cX5_pour 18 = .ok (.iadd, 1) := by decide +kernel
theorem dX5_pour_19 : decode cX5_pour 19 = .ok (.putfield 119, 3) := by decide +kernel
theorem dX5_pour_22 : decode cX5_pour 22 = .ok (.iload 4, 2) := by decide +kernel
theorem dX5_pour_24 : decode cX5_pour 24 = .ok (.ireturn, 1) := by decide +kernel
def k_X5_pour : List pEn := [oAload 1, oIload 2, oIload 3, oCall 3 F_X1_putIn, oIstore 4, oAload 0, oGet 5 11, oDup, oGet 0 2, oIload 4, oAdd, oPut 0 2, oIload 4, oIret]
def pc_X5_pour (i : Nat) : Nat := ([0, 1, 2, 3, 6, 8, 9, 12, 13, 16, 18, 19, 22, 24] : List Nat).getD i 0
abbrev rm_X5_pour : Room := { frames := 2, cells := 0, slots := 0, locals := 46 }
theorem pl_X5_pour : pPlain yX5_pour 3 := by decide +kernel
set_option maxRecDepth 100000 in
set_option maxHeartbeats 4000000 in
theorem ok_k_X5_pour (l : Launch) : ∀ (i : Nat) (en : pEn), k_X5_pour[i]? = some en → EOK l cX5_pour yX5_pour.cls 5 ((some FieldType.int)) rm_X5_pour 0 pc_X5_pour i en := by
  refine allOK_at ?_
  refine And.intro (okAload_n dX5_pour_0 rfl rfl) ?_
  refine And.intro (okIload_n dX5_pour_1 rfl rfl) ?_
  refine And.intro (okIload_n dX5_pour_2 rfl rfl) ?_
  refine And.intro (okCallV (y := yX1_putIn) (T := TX1) (oCall_is _ _ _) dX5_pour_3 rfl (ok_F_X1_putIn l) rc_F_X1_putIn rfl wm_2_138 wm_2_139 wm_2_140 wm_1_3 wm_2_141 pl_X1_putIn (by decide)) ?_
  refine And.intro (okIstore dX5_pour_6 rfl (by decide)) ?_
  refine And.intro (okAload_n dX5_pour_8 rfl rfl) ?_
  refine And.intro (okGet (C := RX5) (T := TX5) (N := 15) dX5_pour_9 rfl rfl (by decide) inX5 wm_1_172) ?_
  refine And.intro (okDup dX5_pour_12 rfl) ?_
  refine And.intro (okGet (C := RX0) (T := TX0) (N := 6) dX5_pour_13 rfl rfl (by decide) inX0 wm_1_61) ?_
  refine And.intro (okIload dX5_pour_16 rfl) ?_
  refine And.intro (okAdd dX5_pour_18 rfl) ?_
  refine And.intro (okPut (C := RX0) (T := TX0) (N := 6) dX5_pour_19 rfl rfl (by decide) inX0 tyX0_ok nmX0 rfl rfl wm_1_61) ?_
  refine And.intro (okIload dX5_pour_22 rfl) ?_
  refine And.intro (okIret dX5_pour_24 rfl) ?_
  exact trivial
def G_X5_pour : pG := fun args w => match args with
  | [.ref 0, .ref p, .int a, .int b] => unL 0 w (fun v => match chN p with
    | some c => some (some (.int (pourR c v a b)), loopCells 0 (pourV c v a b))
    | none => none)
  | _ => none
theorem chN_in {p c : Nat} (h : chN p = some c) : (p = 1 ∧ c = 0) ∨ (p = 2 ∧ c = 1) ∨ (p = 3 ∧ c = 2) ∨ (p = 4 ∧ c = 3) := by
  unfold chN at h
  split at h <;> simp at h <;> omega
set_option maxHeartbeats 400000 in
theorem run_X5_pour (rg : pRg) (v : pLV) (p c : Nat) (h : chN p = some c) (a b : Int32) : ∃ fu, ex k_X5_pour fu 0 [(0, .ref 0), (1, .ref p), (2, .int a), (3, .int b)] [] (loopCells 0 v) rg = some (some (.int (pourR c v a b)), loopCells 0 (pourV c v a b), rg) := by
  rcases chN_in h with ⟨rfl, rfl⟩ | ⟨rfl, rfl⟩ | ⟨rfl, rfl⟩ | ⟨rfl, rfl⟩ <;> exact ⟨9, rfl⟩
theorem ct_X5_pour (l : Launch) : ∀ args0 w0 v0 w1 rg, G_X5_pour args0 w0 = some (v0, w1) → pCT l yX5_pour (pWs yX5_pour cX5_pour 5 (some .int)) rm_X5_pour args0 w0 rg (v0, w1, rg) := by
  intro args0 w0 v0 w1 rg h
  unfold G_X5_pour at h
  split at h
  next p a b =>
    obtain ⟨v, hw, h2⟩ := unL_some h
    clear h
    subst hw
    split at h2
    next c hc =>
      cases h2
      exact met_of_exL (by decide) (ok_k_X5_pour l) rfl (run_X5_pour rg v p c hc a b) (Nat.le_of_ble_eq_true rfl) rfl rfl
    next => cases h2
  next => cases h
theorem sh_X5_pour : ∀ a b c d, G_X5_pour a b = some (c, d) → b.length ≤ 64 ∧ ∃ x as' fs, a = .ref x :: as' ∧ wget b x = some (.inr (5, fs)) := by
  intro a b c d h
  unfold G_X5_pour at h
  split at h
  next p a b =>
    obtain ⟨v, rfl, h⟩ := unL_some h
    exact ⟨Nat.le_of_ble_eq_true rfl, _, _, _, rfl, rfl⟩
  next => cases h
def F_X5_pour : pF := fz (faN G_X5_pour)
theorem ok_F_X5_pour (l : Launch) : pFOK l yX5_pour (pWs yX5_pour cX5_pour 5 (some .int)) rm_X5_pour F_X5_pour := pFOK_fz (pFOK_fa (fun a b c d rg h => ct_X5_pour l a b c d rg h))
theorem rc_F_X5_pour : pRcv 5 F_X5_pour := pRcv_fz (pRcv_fa (fun a b c d h => (sh_X5_pour a b c d h).2))
def Fb_X5_pour : pF := frN G_X5_pour
theorem ok_Fb_X5_pour (l : Launch) : pFOK l yX5_pour (pWs yX5_pour cX5_pour 5 (some .int)) rm_X5_pour Fb_X5_pour := pFOK_fr (fun a b c d h => ct_X5_pour l a b c d rg00 h) (fun a b c d h => (sh_X5_pour a b c d h).1)
theorem rc_Fb_X5_pour : pRcv 5 Fb_X5_pour := pRcv_fr (fun a b c d h => (sh_X5_pour a b c d h).1) (fun a b c d h => (sh_X5_pour a b c d h).2)
theorem cl_X5_pour0 (v : pLV) (a b : Int32) (rg : pRg) : F_X5_pour [.ref 0, .ref 1, .int a, .int b] (loopCells 0 v) rg = some (some (.int (pourR 0 (NL v) a b)), loopCells 0 (pourV 0 (NL v) a b), rg) := (fz_eq _ _ _ _).trans rfl
theorem cl_X5_pour1 (v : pLV) (a b : Int32) (rg : pRg) : F_X5_pour [.ref 0, .ref 2, .int a, .int b] (loopCells 0 v) rg = some (some (.int (pourR 1 (NL v) a b)), loopCells 0 (pourV 1 (NL v) a b), rg) := (fz_eq _ _ _ _).trans rfl
theorem cl_X5_pour2 (v : pLV) (a b : Int32) (rg : pRg) : F_X5_pour [.ref 0, .ref 3, .int a, .int b] (loopCells 0 v) rg = some (some (.int (pourR 2 (NL v) a b)), loopCells 0 (pourV 2 (NL v) a b), rg) := (fz_eq _ _ _ _).trans rfl
theorem cl_X5_pour3 (v : pLV) (a b : Int32) (rg : pRg) : F_X5_pour [.ref 0, .ref 4, .int a, .int b] (loopCells 0 v) rg = some (some (.int (pourR 3 (NL v) a b)), loopCells 0 (pourV 3 (NL v) a b), rg) := (fz_eq _ _ _ _).trans rfl
end
end
section
noncomputable section
def coV (v : pLV) (k n : Int32) : pLV := if k = 0 then brkV (NL v) n else if k = 1 then turnV (NL v) n else vA v 1 (upd (v 1) 2 n)
theorem dX5_carryOut_0 : decode cX5_carryOut 0 = .ok (.iload_n 1, 1) := by decide +kernel
theorem dX5_carryOut_1 : decode cX5_carryOut 1 = .ok (.lookupswitch 43 #[(0, 27), (1, 35)], 27) := by decide +kernel
theorem dX5_carryOut_28 : decode cX5_carryOut 28 = .ok (.aload_n 0, 1) := by decide +kernel
theorem dX5_carryOut_29 : decode cX5_carryOut 29 = .ok (.iload_n 2, 1) := by decide +kernel
theorem dX5_carryOut_30 : decode cX5_carryOut 30 = .ok (.invokevirtual 177, 3) := by decide +kernel
theorem dX5_carryOut_33 : decode cX5_carryOut 33 = .ok (.goto 18, 3) := by decide +kernel
theorem dX5_carryOut_36 : decode cX5_carryOut 36 = .ok (.aload_n 0, 1) := by decide +kernel
theorem dX5_carryOut_37 : decode cX5_carryOut 37 = .ok (.iload_n 2, 1) := by decide +kernel
theorem dX5_carryOut_38 : decode cX5_carryOut 38 = .ok (.invokevirtual 180, 3) := by decide +kernel
theorem dX5_carryOut_41 : decode cX5_carryOut 41 = .ok (.goto 10, 3) := by decide +kernel
theorem dX5_carryOut_44 : decode cX5_carryOut 44 = .ok (.aload_n 0, 1) := by decide +kernel
theorem dX5_carryOut_45 : decode cX5_carryOut 45 = .ok (.getfield 72, 3) := by decide +kernel
theorem dX5_carryOut_48 : decode cX5_carryOut 48 = .ok (.iconst 2, 1) := by decide +kernel
theorem dX5_carryOut_49 : decode cX5_carryOut 49 = .ok (.iload_n 2, 1) := by decide +kernel
theorem dX5_carryOut_50 : decode cX5_carryOut 50 = .ok (.iastore, 1) := by decide +kernel
theorem dX5_carryOut_51 : decode cX5_carryOut 51 = .ok (.return_, 1) := by decide +kernel
def k_X5_carryOut : List pEn := [oIload 1, oSw [(0, 2), (1, 6)] 10, oAload 0, oIload 2, oCallZ 2 F_X5_breakSheet, oGoto 15, oAload 0, oIload 2, oCallZ 2 F_X5_turnTo, oGoto 15, oAload 0, oGet 5 14, oConst (2), oIload 2, oIastN 2, oVret]
def pc_X5_carryOut (i : Nat) : Nat := ([0, 1, 28, 29, 30, 33, 36, 37, 38, 41, 44, 45, 48, 49, 50, 51] : List Nat).getD i 0
abbrev rm_X5_carryOut : Room := { frames := 2, cells := 0, slots := 0, locals := 42 }
theorem pl_X5_carryOut : pPlain yX5_carryOut 2 := by decide +kernel
set_option maxRecDepth 100000 in
set_option maxHeartbeats 4000000 in
theorem ok_k_X5_carryOut (l : Launch) : ∀ (i : Nat) (en : pEn), k_X5_carryOut[i]? = some en → EOK l cX5_carryOut yX5_carryOut.cls 3 (none) rm_X5_carryOut 0 pc_X5_carryOut i en := by
  refine allOK_at ?_
  refine And.intro (okIload_n dX5_carryOut_0 rfl rfl) ?_
  refine And.intro (okLsw dX5_carryOut_1 (by decide) (by decide) (by rfl)) ?_
  refine And.intro (okAload_n dX5_carryOut_28 rfl rfl) ?_
  refine And.intro (okIload_n dX5_carryOut_29 rfl rfl) ?_
  refine And.intro (okCallV (y := yX5_breakSheet) (T := TX5) (oCallZ_is _ _ _) dX5_carryOut_30 rfl (ok_F_X5_breakSheet l) rc_F_X5_breakSheet rfl wm_2_229 wm_2_111 wm_2_112 wm_1_2 wm_2_113 pl_X5_breakSheet (by decide)) ?_
  refine And.intro (okGoto dX5_carryOut_33 (by rfl)) ?_
  refine And.intro (okAload_n dX5_carryOut_36 rfl rfl) ?_
  refine And.intro (okIload_n dX5_carryOut_37 rfl rfl) ?_
  refine And.intro (okCallV (y := yX5_turnTo) (T := TX5) (oCallZ_is _ _ _) dX5_carryOut_38 rfl (ok_F_X5_turnTo l) rc_F_X5_turnTo rfl wm_2_230 wm_2_122 wm_2_123 wm_1_2 wm_2_124 pl_X5_turnTo (by decide)) ?_
  refine And.intro (okGoto dX5_carryOut_41 (by rfl)) ?_
  refine And.intro (okAload_n dX5_carryOut_44 rfl rfl) ?_
  refine And.intro (okGet (C := RX5) (T := TX5) (N := 15) dX5_carryOut_45 rfl rfl (by decide) inX5 wm_1_178) ?_
  refine And.intro (okIconst dX5_carryOut_48 rfl (by first | rfl | decide)) ?_
  refine And.intro (okIload_n dX5_carryOut_49 rfl rfl) ?_
  refine And.intro (okIastN dX5_carryOut_50 rfl) ?_
  refine And.intro (okVret dX5_carryOut_51 rfl) ?_
  exact trivial
def G_X5_carryOut : pG := fun args w => match args with
  | [.ref 0, .int k, .int n] => unL 0 w (fun v => some (none, loopCells 0 (coV v k n)))
  | _ => none
set_option maxHeartbeats 400000 in
set_option maxRecDepth 100000 in
theorem run_X5_carryOut (rg : pRg) (v : pLV) (k n : Int32) : ∃ fu, ex k_X5_carryOut fu 0 [(0, .ref 0), (1, .int k), (2, .int n)] [] (loopCells 0 v) rg = some (none, loopCells 0 (coV v k n), rg) := by
  refine ⟨60, ?_⟩
  conv => lhs; whnf
  refine pif_c (fun h => ?_) (fun h => ?_)
  · conv => lhs; whnf
    refine (callK_v (cl_X5_breakSheet v n rg) rfl).trans ?_
    simp only [coV, if_pos h]; rfl
  · conv => lhs; whnf
    refine pif_c (fun h2 => ?_) (fun h2 => ?_)
    · conv => lhs; whnf
      refine (callK_v (cl_X5_turnTo v n rg) rfl).trans ?_
      simp only [coV, if_neg h, if_pos h2]; rfl
    · simp only [coV, if_neg h, if_neg h2]; rfl
theorem ct_X5_carryOut (l : Launch) : ∀ args0 w0 v0 w1 rg, G_X5_carryOut args0 w0 = some (v0, w1) → pCT l yX5_carryOut (pWs yX5_carryOut cX5_carryOut 3 (none)) rm_X5_carryOut args0 w0 rg (v0, w1, rg) := by
  intro args0 w0 v0 w1 rg h
  unfold G_X5_carryOut at h
  split at h
  next k n =>
    obtain ⟨v, hw, h2⟩ := unL_some h
    clear h
    subst hw
    cases h2
    exact met_of_exL (by decide) (ok_k_X5_carryOut l) rfl (run_X5_carryOut rg v k n) (Nat.le_of_ble_eq_true rfl) rfl rfl
  next => cases h
def F_X5_carryOut : pF := fz (faN G_X5_carryOut)
theorem ok_F_X5_carryOut (l : Launch) : pFOK l yX5_carryOut (pWs yX5_carryOut cX5_carryOut 3 (none)) rm_X5_carryOut F_X5_carryOut := pFOK_fz (pFOK_fa (fun a b c d rg h => ct_X5_carryOut l a b c d rg h))
theorem rc_F_X5_carryOut : pRcv 5 F_X5_carryOut := pRcv_fz (pRcv_fa (fun a b c d h => by
  unfold G_X5_carryOut at h
  split at h
  next =>
    obtain ⟨v, rfl, h⟩ := unL_some h
    exact ⟨_, _, _, rfl, rfl⟩
  next => cases h))
theorem cl_X5_carryOut (v : pLV) (k n : Int32) (rg : pRg) : F_X5_carryOut [.ref 0, .int k, .int n] (loopCells 0 v) rg = some (none, loopCells 0 (coV (NL v) k n), rg) := (fz_eq _ _ _ _).trans rfl
end
end
section
noncomputable section
def cstV (v : pLV) (k : Nat) : pLV := if v 4 k = v 0 0 then coV (NL v) (v 5 k) (v 6 k) else v
def cryI : Nat → pLV → pLV
  | 0, v => v
  | k + 1, v => cstV (cryI k v) k
def cryK (v : pLV) : Nat := min 20 (v 0 29).toNatClampNeg
theorem coV_29 (v : pLV) (k n : Int32) : coV v k n 0 29 = v 0 29 := by
  unfold coV
  split
  · rfl
  · split
    · unfold turnV; split <;> rfl
    · rfl
theorem cryI_29 : ∀ (k : Nat) (v : pLV), cryI k v 0 29 = v 0 29
  | 0, _ => rfl
  | k + 1, v => by
    show cstV (cryI k v) k 0 29 = _
    unfold cstV
    split
    · rw [coV_29]; exact cryI_29 k v
    · exact cryI_29 k v
/-- the entries whose time it is, in their order -/
def cryV (v : pLV) : pLV := cryI (cryK v) v
theorem clamp_le {x : Int32} {k : Nat} (h : k < x.toNatClampNeg) : ¬ x ≤ nI k := by
  have h1 : x.toNatClampNeg = x.toInt.toNat := rfl
  intro q
  have h2 := Int32.le_iff_toInt_le.mp q
  have h3 : x.toInt < 2 ^ 31 := Int32.toInt_lt x
  rw [nI_toInt (by omega)] at h2
  omega
theorem clamp_ge {x : Int32} {k : Nat} (h : x.toNatClampNeg ≤ k) (hk : k < 2 ^ 31) : x ≤ nI k := by
  have h1 : x.toNatClampNeg = x.toInt.toNat := rfl
  refine Int32.le_iff_toInt_le.mpr ?_
  rw [nI_toInt hk]
  omega
theorem dX5_carryOutSchedule_0 : decode cX5_carryOutSchedule 0 = .ok (.iconst 0, 1) := by decide +kernel
theorem dX5_carryOutSchedule_1 : decode cX5_carryOutSchedule 1 = .ok (.istore_n 1, 1) := by decide +kernel
theorem dX5_carryOutSchedule_2 : decode cX5_carryOutSchedule 2 = .ok (.iload_n 1, 1) := by decide +kernel
theorem dX5_carryOutSchedule_3 : decode cX5_carryOutSchedule 3 = .ok (.aload_n 0, 1) := by decide +kernel
theorem dX5_carryOutSchedule_4 : decode cX5_carryOutSchedule 4 = .ok (.getfield 68, 3) := by decide +kernel
theorem dX5_carryOutSchedule_7 : decode cX5_carryOutSchedule 7 = .ok (.getfield 162, 3) := by decide +kernel
theorem dX5_carryOutSchedule_10 : decode cX5_carryOutSchedule 10 = .ok (.if_icmp .ge 53, 3) := by decide +kernel
theorem dX5_carryOutSchedule_13 : decode cX5_carryOutSchedule 13 = .ok (.iload_n 1, 1) := by decide +kernel
theorem dX5_carryOutSchedule_14 : decode cX5_carryOutSchedule 14 = .ok (.bipush 20, 2) := by decide +kernel
theorem dX5_carryOutSchedule_16 : decode cX5_carryOutSchedule 16 = .ok (.if_icmp .ge 47, 3) := by decide +kernel
theorem dX5_carryOutSchedule_19 : decode cX5_carryOutSchedule 19 = .ok (.aload_n 0, 1) := by decide +kernel
theorem dX5_carryOutSchedule_20 : decode cX5_carryOutSchedule 20 = .ok (.getfield 68, 3) := by decide +kernel
theorem dX5_carryOutSchedule_23 : decode cX5_carryOutSchedule 23 = .ok (.getfield 165, 3) := by decide +kernel
theorem dX5_carryOutSchedule_26 : decode cX5_carryOutSchedule 26 = .ok (.iload_n 1, 1) := by decide +kernel
theorem dX5_carryOutSchedule_27 : decode cX5_carryOutSchedule 27 = .ok (.iaload, 1) := by decide +kernel
theorem dX5_carryOutSchedule_28 : decode cX5_carryOutSchedule 28 = .ok (.aload_n 0, 1) := by decide +kernel
theorem dX5_carryOutSchedule_29 : decode cX5_carryOutSchedule 29 = .ok (.getfield 9, 3) := by decide +kernel
theorem dX5_carryOutSchedule_32 : decode cX5_carryOutSchedule 32 = .ok (.if_icmp .ne 25, 3) := by decide +kernel
theorem dX5_carryOutSchedule_35 : decode cX5_carryOutSchedule 35 = .ok (.aload_n 0, 1) := by decide +kernel
theorem dX5_carryOutSchedule_36 : decode cX5_carryOutSchedule 36 = .ok (.aload_n 0, 1) := by decide +kernel
theorem dX5_carryOutSchedule_37 : decode cX5_carryOutSchedule 37 = .ok (.getfield 68, 3) := by decide +kernel
theorem dX5_carryOutSchedule_40 : decode cX5_carryOutSchedule 40 = .ok (.getfield 168, 3) := by decide +kernel
theorem dX5_carryOutSchedule_43 : decode cX5_carryOutSchedule 43 = .ok (.iload_n 1, 1) := by decide +kernel
theorem dX5_carryOutSchedule_44 : decode cX5_carryOutSchedule 44 = .ok (.iaload, 1) := by decide +kernel
theorem dX5_carryOutSchedule_45 : decode cX5_carryOutSchedule 45 = .ok (.aload_n 0, 1) := by decide +kernel
theorem dX5_carryOutSchedule_46 : decode cX5_carryOutSchedule 46 = .ok (.getfield 68, 3) := by decide +kernel
theorem dX5_carryOutSchedule_49 : decode cX5_carryOutSchedule 49 = .ok (.getfield 171, 3) := by decide +kernel
theorem dX5_carryOutSchedule_52 : decode cX5_carryOutSchedule 52 = .ok (.iload_n 1, 1) := by decide +kernel
theorem dX5_carryOutSchedule_53 : decode cX5_carryOutSchedule 53 = .ok (.iaload, 1) := by decide +kernel
theorem dX5_carryOutSchedule_54 : decode cX5_carryOutSchedule 54 = .ok (.invokevirtual 174, 3) := by decide +kernel
theorem dX5_carryOutSchedule_57 : decode cX5_carryOutSchedule 57 = .ok (.iinc 1 1, 3) := by decide +kernel
theorem dX5_carryOutSchedule_60 : decode cX5_carryOutSchedule 60 = .ok (.goto (-58), 3) := by decide +kernel
theorem dX5_carryOutSchedule_63 : decode cX5_carryOutSchedule 63 = .ok (.return_, 1) := by decide +kernel
def k_X5_carryOutSchedule : List pEn := [oConst (0), oIstore 1, oIload 1, oAload 0, oGet 5 13, oGet 7 3, oCge 32, oIload 1, oConst (20), oCge 32, oAload 0, oGet 5 13, oGet 7 0, oIload 1, oIald, oAload 0, oGet 5 0, oCne 30, oAload 0, oAload 0, oGet 5 13, oGet 7 1, oIload 1, oIald, oAload 0, oGet 5 13, oGet 7 2, oIload 1, oIald, oCallZ 3 F_X5_carryOut, oIinc 1 (1), oGoto 2, oVret]
def pc_X5_carryOutSchedule (i : Nat) : Nat := ([0, 1, 2, 3, 4, 7, 10, 13, 14, 16, 19, 20, 23, 26, 27, 28, 29, 32, 35, 36, 37, 40, 43, 44, 45, 46, 49, 52, 53, 54, 57, 60, 63] : List Nat).getD i 0
abbrev rm_X5_carryOutSchedule : Room := { frames := 3, cells := 0, slots := 0, locals := 64 }
theorem pl_X5_carryOutSchedule : pPlain yX5_carryOutSchedule 0 := by decide +kernel
set_option maxRecDepth 100000 in
set_option maxHeartbeats 4000000 in
theorem ok_k_X5_carryOutSchedule (l : Launch) : ∀ (i : Nat) (en : pEn), k_X5_carryOutSchedule[i]? = some en → EOK l cX5_carryOutSchedule yX5_carryOutSchedule.cls 2 (none) rm_X5_carryOutSchedule 0 pc_X5_carryOutSchedule i en := by
  refine allOK_at ?_
  refine And.intro (okIconst dX5_carryOutSchedule_0 rfl (by first | rfl | decide)) ?_
  refine And.intro (okIstore_n dX5_carryOutSchedule_1 rfl rfl (by decide)) ?_
  refine And.intro (okIload_n dX5_carryOutSchedule_2 rfl rfl) ?_
  refine And.intro (okAload_n dX5_carryOutSchedule_3 rfl rfl) ?_
  refine And.intro (okGet (C := RX5) (T := TX5) (N := 15) dX5_carryOutSchedule_4 rfl rfl (by decide) inX5 wm_1_176) ?_
  refine And.intro (okGet (C := RX7) (T := TX7) (N := 4) dX5_carryOutSchedule_7 rfl rfl (by decide) inX7 wm_1_121) ?_
  refine And.intro (okCge dX5_carryOutSchedule_10 rfl (by rfl)) ?_
  refine And.intro (okIload_n dX5_carryOutSchedule_13 rfl rfl) ?_
  refine And.intro (okBipush dX5_carryOutSchedule_14 rfl (by first | rfl | decide)) ?_
  refine And.intro (okCge dX5_carryOutSchedule_16 rfl (by rfl)) ?_
  refine And.intro (okAload_n dX5_carryOutSchedule_19 rfl rfl) ?_
  refine And.intro (okGet (C := RX5) (T := TX5) (N := 15) dX5_carryOutSchedule_20 rfl rfl (by decide) inX5 wm_1_176) ?_
  refine And.intro (okGet (C := RX7) (T := TX7) (N := 4) dX5_carryOutSchedule_23 rfl rfl (by decide) inX7 wm_1_110) ?_
  refine And.intro (okIload_n dX5_carryOutSchedule_26 rfl rfl) ?_
  refine And.intro (okIald dX5_carryOutSchedule_27 rfl) ?_
  refine And.intro (okAload_n dX5_carryOutSchedule_28 rfl rfl) ?_
  refine And.intro (okGet (C := RX5) (T := TX5) (N := 15) dX5_carryOutSchedule_29 rfl rfl (by decide) inX5 wm_1_152) ?_
  refine And.intro (okCne dX5_carryOutSchedule_32 rfl (by rfl)) ?_
  refine And.intro (okAload_n dX5_carryOutSchedule_35 rfl rfl) ?_
  refine And.intro (okAload_n dX5_carryOutSchedule_36 rfl rfl) ?_
  refine And.intro (okGet (C := RX5) (T := TX5) (N := 15) dX5_carryOutSchedule_37 rfl rfl (by decide) inX5 wm_1_176) ?_
  refine And.intro (okGet (C := RX7) (T := TX7) (N := 4) dX5_carryOutSchedule_40 rfl rfl (by decide) inX7 wm_1_113) ?_
  refine And.intro (okIload_n dX5_carryOutSchedule_43 rfl rfl) ?_
  refine And.intro (okIald dX5_carryOutSchedule_44 rfl) ?_
  refine And.intro (okAload_n dX5_carryOutSchedule_45 rfl rfl) ?_
  refine And.intro (okGet (C := RX5) (T := TX5) (N := 15) dX5_carryOutSchedule_46 rfl rfl (by decide) inX5 wm_1_176) ?_
  refine And.intro (okGet (C := RX7) (T := TX7) (N := 4) dX5_carryOutSchedule_49 rfl rfl (by decide) inX7 wm_1_116) ?_
  refine And.intro (okIload_n dX5_carryOutSchedule_52 rfl rfl) ?_
  refine And.intro (okIald dX5_carryOutSchedule_53 rfl) ?_
  refine And.intro (okCallV (y := yX5_carryOut) (T := TX5) (oCallZ_is _ _ _) dX5_carryOutSchedule_54 rfl (ok_F_X5_carryOut l) rc_F_X5_carryOut rfl wm_2_225 wm_2_227 wp_7 wm_1_2 wm_2_228 pl_X5_carryOut (by decide)) ?_
  refine And.intro (okIinc dX5_carryOutSchedule_57 rfl (by first | rfl | decide) (by decide)) ?_
  refine And.intro (okGoto dX5_carryOutSchedule_60 (by rfl)) ?_
  refine And.intro (okVret dX5_carryOutSchedule_63 rfl) ?_
  exact trivial
set_option maxHeartbeats 800000 in
theorem lp_cry (rg : pRg) (v : pLV) : ∀ (d k : Nat), k + d = cryK v → ∃ m, ex k_X5_carryOutSchedule m 2 [(1, .int (nI k)), (0, .ref 0)] [] (loopCells 0 (cryI k v)) rg = some (none, loopCells 0 (cryV v), rg) := by
  intro d
  induction d with
  | zero =>
    intro k hk
    obtain rfl : k = cryK v := by omega
    refine ⟨5, ?_⟩
    have hK : cryK v ≤ 20 := Nat.min_le_left _ _
    conv => lhs; whnf
    by_cases h : (v 0 29).toNatClampNeg ≤ cryK v
    · refine (pif_t (by rw [cryI_29]; exact clamp_ge h (by omega))).trans ?_
      rfl
    · have h2 : cryK v = 20 := by unfold cryK at h ⊢; omega
      refine (pif_f (by rw [cryI_29]; exact clamp_le (by omega))).trans ?_
      conv => lhs; whnf
      refine (pif_t (by rw [h2]; decide)).trans ?_
      rfl
  | succ d ih =>
    intro k hk
    obtain ⟨m, hm⟩ := ih (k + 1) (by omega)
    have hK : cryK v ≤ 20 := Nat.min_le_left _ _
    have hK2 : cryK v ≤ (v 0 29).toNatClampNeg := Nat.min_le_right _ _
    by_cases h : cryI k v 4 k = cryI k v 0 0
    · refine ⟨m + 1, ?_⟩
      have e2 : cryI (k + 1) v = coV (NL (cryI k v)) (cryI k v 5 k) (cryI k v 6 k) := if_pos h
      rw [e2] at hm
      conv => lhs; whnf
      refine (pif_f (by rw [cryI_29]; exact clamp_le (by omega))).trans ?_
      conv => lhs; whnf
      refine (pif_f (nI_ge (a := k) (b := 20) (by omega) (by omega))).trans ?_
      conv => lhs; whnf
      refine (pif_f (nI_in (c := k) (N := 20) (by omega) (by omega))).trans ?_
      rw [nI_clamp (by omega : k < 2 ^ 31)]
      conv => lhs; whnf
      refine (pif_t h).trans ?_
      conv => lhs; whnf
      refine (pif_f (nI_in (c := k) (N := 20) (by omega) (by omega))).trans ?_
      rw [nI_clamp (by omega : k < 2 ^ 31)]
      conv => lhs; whnf
      refine (pif_f (nI_in (c := k) (N := 20) (by omega) (by omega))).trans ?_
      rw [nI_clamp (by omega : k < 2 ^ 31)]
      conv => lhs; whnf
      refine (callK_v (cl_X5_carryOut (cryI k v) (cryI k v 5 k) (cryI k v 6 k) rg) rfl).trans ?_
      conv => lhs; whnf
      rw [nI_1]
      exact hm
    · refine ⟨m + 2, ?_⟩
      have e2 : cryI (k + 1) v = cryI k v := if_neg h
      rw [e2] at hm
      conv => lhs; whnf
      refine (pif_f (by rw [cryI_29]; exact clamp_le (by omega))).trans ?_
      conv => lhs; whnf
      refine (pif_f (nI_ge (a := k) (b := 20) (by omega) (by omega))).trans ?_
      conv => lhs; whnf
      refine (pif_f (nI_in (c := k) (N := 20) (by omega) (by omega))).trans ?_
      rw [nI_clamp (by omega : k < 2 ^ 31)]
      conv => lhs; whnf
      refine (pif_f h).trans ?_
      conv => lhs; whnf
      rw [nI_1]
      exact hm
end
end
section
noncomputable section
def G_X5_carryOutSchedule : pG := fun args w => match args with
  | [.ref 0] => unL 0 w (fun v => some (none, loopCells 0 (cryV v)))
  | _ => none
set_option maxHeartbeats 400000 in
set_option maxRecDepth 100000 in
theorem run_X5_carryOutSchedule (rg : pRg) (v : pLV)  : ∃ fu, ex k_X5_carryOutSchedule fu 0 [(0, .ref 0)] [] (loopCells 0 v) rg = some (none, loopCells 0 (cryV v), rg) := by
  have h := lp_cry rg v (cryK v) 0 (by omega)
  exact ex_at h (fun _ => rfl)
theorem ct_X5_carryOutSchedule (l : Launch) : ∀ args0 w0 v0 w1 rg, G_X5_carryOutSchedule args0 w0 = some (v0, w1) → pCT l yX5_carryOutSchedule (pWs yX5_carryOutSchedule cX5_carryOutSchedule 2 (none)) rm_X5_carryOutSchedule args0 w0 rg (v0, w1, rg) := by
  intro args0 w0 v0 w1 rg h
  unfold G_X5_carryOutSchedule at h
  split at h
  next  =>
    obtain ⟨v, hw, h2⟩ := unL_some h
    clear h
    subst hw
    cases h2
    exact met_of_exL (by decide) (ok_k_X5_carryOutSchedule l) rfl (run_X5_carryOutSchedule rg v ) (Nat.le_of_ble_eq_true rfl) rfl rfl
  next => cases h
def F_X5_carryOutSchedule : pF := fz (faN G_X5_carryOutSchedule)
theorem ok_F_X5_carryOutSchedule (l : Launch) : pFOK l yX5_carryOutSchedule (pWs yX5_carryOutSchedule cX5_carryOutSchedule 2 (none)) rm_X5_carryOutSchedule F_X5_carryOutSchedule := pFOK_fz (pFOK_fa (fun a b c d rg h => ct_X5_carryOutSchedule l a b c d rg h))
theorem rc_F_X5_carryOutSchedule : pRcv 5 F_X5_carryOutSchedule := pRcv_fz (pRcv_fa (fun a b c d h => by
  unfold G_X5_carryOutSchedule at h
  split at h
  next =>
    obtain ⟨v, rfl, h⟩ := unL_some h
    exact ⟨_, _, _, rfl, rfl⟩
  next => cases h))
theorem cl_X5_carryOutSchedule (v : pLV)  (rg : pRg) : F_X5_carryOutSchedule [.ref 0] (loopCells 0 v) rg = some (none, loopCells 0 (cryV (NL v)), rg) := (fz_eq _ _ _ _).trans rfl
end
end
section
noncomputable section
def rsnV (v : pLV) (d w b : Int32) : Int32 := if d = 0 then 0 else if ¬ v 0 4 = v 0 1 then 3 else if v 1 3 = 0 then 1 else if b < w then 2 else 0
theorem dX5_reasonOf_0 : decode cX5_reasonOf 0 = .ok (.iload_n 1, 1) := by decide +kernel
theorem dX5_reasonOf_1 : decode cX5_reasonOf 1 = .ok (.ifCond .ne 5, 3) := by decide +kernel
theorem dX5_reasonOf_4 : decode cX5_reasonOf 4 = .ok (.iconst 0, 1) := by decide +kernel
theorem dX5_reasonOf_5 : decode cX5_reasonOf 5 = .ok (.ireturn, 1) := by decide +kernel
theorem dX5_reasonOf_6 : decode cX5_reasonOf 6 = .ok (.aload_n 0, 1) := by decide +kernel
theorem dX5_reasonOf_7 : decode cX5_reasonOf 7 = .ok (.getfield 24, 3) := by decide +kernel
theorem dX5_reasonOf_10 : decode cX5_reasonOf 10 = .ok (.aload_n 0, 1) := by decide +kernel
theorem dX5_reasonOf_11 : decode cX5_reasonOf 11 = .ok (.getfield 15, 3) := by decide +kernel
theorem dX5_reasonOf_14 : decode cX5_reasonOf 14 = .ok (.if_icmp .eq 5, 3) := by decide +kernel
theorem dX5_reasonOf_17 : decode cX5_reasonOf 17 = .ok (.iconst 3, 1) := by decide +kernel
theorem dX5_reasonOf_18 : decode cX5_reasonOf 18 = .ok (.ireturn, 1) := by decide +kernel
theorem dX5_reasonOf_19 : decode cX5_reasonOf 19 = .ok (.aload_n 0, 1) := by decide +kernel
theorem dX5_reasonOf_20 : decode cX5_reasonOf 20 = .ok (.getfield 72, 3) := by decide +kernel
theorem dX5_reasonOf_23 : decode cX5_reasonOf 23 = .ok (.iconst 3, 1) := by decide +kernel
theorem dX5_reasonOf_24 : decode cX5_reasonOf 24 = .ok (.iaload, 1) := by decide +kernel
theorem dX5_reasonOf_25 : decode cX5_reasonOf 25 = .ok (.ifCond .ne 5, 3) := by decide +kernel
theorem dX5_reasonOf_28 : decode cX5_reasonOf 28 = .ok (.iconst 1, 1) := by decide +kernel
theorem dX5_reasonOf_29 : decode cX5_reasonOf 29 = .ok (.ireturn, 1) := by decide +kernel
theorem dX5_reasonOf_30 : decode cX5_reasonOf 30 = .ok (.iload_n 3, 1) := by decide +kernel
theorem dX5_reasonOf_31 : decode cX5_reasonOf 31 = .ok (.iload_n 2, 1) := by decide +kernel
theorem dX5_reasonOf_32 : decode cX5_reasonOf 32 = .ok (.if_icmp .ge 7, 3) := by decide +kernel
theorem dX5_reasonOf_35 : decode cX5_reasonOf 35 = .ok (.iconst 2, 1) := by decide +kernel
theorem dX5_reasonOf_36 : decode cX5_reasonOf 36 = .ok (.goto 4, 3) := by decide +kernel
theorem dX5_reasonOf_39 : decode cX5_reasonOf 39 = .ok (.iconst 0, 1) := by decide +kernel
theorem dX5_reasonOf_40 : decode cX5_reasonOf 40 = .ok (.ireturn, 1) := by decide +kernel
def k_X5_reasonOf : List pEn := [oIload 1, oIfne 4, oConst (0), oIret, oAload 0, oGet 5 4, oAload 0, oGet 5 1, oCeq 11, oConst (3), oIret, oAload 0, oGet 5 14, oConst (3), oIaldN 3, oIfne 18, oConst (1), oIret, oIload 3, oIload 2, oCge 23, oConst (2), oGoto 24, oConst (0), oIret]
def pc_X5_reasonOf (i : Nat) : Nat := ([0, 1, 4, 5, 6, 7, 10, 11, 14, 17, 18, 19, 20, 23, 24, 25, 28, 29, 30, 31, 32, 35, 36, 39, 40] : List Nat).getD i 0
abbrev rm_X5_reasonOf : Room := { frames := 0, cells := 0, slots := 0, locals := 0 }
theorem pl_X5_reasonOf : pPlain yX5_reasonOf 3 := by decide +kernel
set_option maxRecDepth 100000 in
set_option maxHeartbeats 4000000 in
theorem ok_k_X5_reasonOf (l : Launch) : ∀ (i : Nat) (en : pEn), k_X5_reasonOf[i]? = some en → EOK l cX5_reasonOf yX5_reasonOf.cls 4 ((some FieldType.int)) rm_X5_reasonOf 0 pc_X5_reasonOf i en := by
  refine allOK_at ?_
  refine And.intro (okIload_n dX5_reasonOf_0 rfl rfl) ?_
  refine And.intro (okIfne dX5_reasonOf_1 rfl (by rfl)) ?_
  refine And.intro (okIconst dX5_reasonOf_4 rfl (by first | rfl | decide)) ?_
  refine And.intro (okIret dX5_reasonOf_5 rfl) ?_
  refine And.intro (okAload_n dX5_reasonOf_6 rfl rfl) ?_
  refine And.intro (okGet (C := RX5) (T := TX5) (N := 15) dX5_reasonOf_7 rfl rfl (by decide) inX5 wm_1_160) ?_
  refine And.intro (okAload_n dX5_reasonOf_10 rfl rfl) ?_
  refine And.intro (okGet (C := RX5) (T := TX5) (N := 15) dX5_reasonOf_11 rfl rfl (by decide) inX5 wm_1_154) ?_
  refine And.intro (okCeq dX5_reasonOf_14 rfl (by rfl)) ?_
  refine And.intro (okIconst dX5_reasonOf_17 rfl (by first | rfl | decide)) ?_
  refine And.intro (okIret dX5_reasonOf_18 rfl) ?_
  refine And.intro (okAload_n dX5_reasonOf_19 rfl rfl) ?_
  refine And.intro (okGet (C := RX5) (T := TX5) (N := 15) dX5_reasonOf_20 rfl rfl (by decide) inX5 wm_1_178) ?_
  refine And.intro (okIconst dX5_reasonOf_23 rfl (by first | rfl | decide)) ?_
  refine And.intro (okIaldN dX5_reasonOf_24 rfl) ?_
  refine And.intro (okIfne dX5_reasonOf_25 rfl (by rfl)) ?_
  refine And.intro (okIconst dX5_reasonOf_28 rfl (by first | rfl | decide)) ?_
  refine And.intro (okIret dX5_reasonOf_29 rfl) ?_
  refine And.intro (okIload_n dX5_reasonOf_30 rfl rfl) ?_
  refine And.intro (okIload_n dX5_reasonOf_31 rfl rfl) ?_
  refine And.intro (okCge dX5_reasonOf_32 rfl (by rfl)) ?_
  refine And.intro (okIconst dX5_reasonOf_35 rfl (by first | rfl | decide)) ?_
  refine And.intro (okGoto dX5_reasonOf_36 (by rfl)) ?_
  refine And.intro (okIconst dX5_reasonOf_39 rfl (by first | rfl | decide)) ?_
  refine And.intro (okIret dX5_reasonOf_40 rfl) ?_
  exact trivial
def G_X5_reasonOf : pG := fun args w => match args with
  | [.ref 0, .int d, .int y, .int b] => unL 0 w (fun v => some (some (.int (rsnV v d y b)), loopCells 0 (v)))
  | _ => none
set_option maxHeartbeats 400000 in
set_option maxRecDepth 100000 in
theorem run_X5_reasonOf (rg : pRg) (v : pLV) (d y b : Int32) : ∃ fu, ex k_X5_reasonOf fu 0 [(0, .ref 0), (1, .int d), (2, .int y), (3, .int b)] [] (loopCells 0 v) rg = some (some (.int (rsnV v d y b)), loopCells 0 (v), rg) := by
  refine ⟨60, ?_⟩
  conv => lhs; whnf
  refine pif_c (fun h => ?_) (fun h => ?_)
  · simp only [rsnV, if_pos h]; rfl
  · conv => lhs; whnf
    refine pif_c (fun h2 => ?_) (fun h2 => ?_)
    · have h2' : ¬ ¬ v 0 4 = v 0 1 := fun q => q h2
      conv => lhs; whnf
      refine pif_c (fun h3 => ?_) (fun h3 => ?_)
      · simp only [rsnV, if_neg h, if_neg h2', if_pos h3]; rfl
      · conv => lhs; whnf
        refine pif_c (fun h4 => ?_) (fun h4 => ?_)
        · simp only [rsnV, if_neg h, if_neg h2', if_neg h3, if_neg (Int32.not_lt.mpr h4)]; rfl
        · simp only [rsnV, if_neg h, if_neg h2', if_neg h3, if_pos (Int32.not_le.mp h4)]; rfl
    · simp only [rsnV, if_neg h, if_pos h2]; rfl
theorem ct_X5_reasonOf (l : Launch) : ∀ args0 w0 v0 w1 rg, G_X5_reasonOf args0 w0 = some (v0, w1) → pCT l yX5_reasonOf (pWs yX5_reasonOf cX5_reasonOf 4 ((some FieldType.int))) rm_X5_reasonOf args0 w0 rg (v0, w1, rg) := by
  intro args0 w0 v0 w1 rg h
  unfold G_X5_reasonOf at h
  split at h
  next d y b =>
    obtain ⟨v, hw, h2⟩ := unL_some h
    clear h
    subst hw
    cases h2
    exact met_of_exL (by decide) (ok_k_X5_reasonOf l) rfl (run_X5_reasonOf rg v d y b) (Nat.le_of_ble_eq_true rfl) rfl rfl
  next => cases h
def F_X5_reasonOf : pF := fz (faN G_X5_reasonOf)
theorem ok_F_X5_reasonOf (l : Launch) : pFOK l yX5_reasonOf (pWs yX5_reasonOf cX5_reasonOf 4 ((some FieldType.int))) rm_X5_reasonOf F_X5_reasonOf := pFOK_fz (pFOK_fa (fun a b c d rg h => ct_X5_reasonOf l a b c d rg h))
theorem rc_F_X5_reasonOf : pRcv 5 F_X5_reasonOf := pRcv_fz (pRcv_fa (fun a b c d h => by
  unfold G_X5_reasonOf at h
  split at h
  next =>
    obtain ⟨v, rfl, h⟩ := unL_some h
    exact ⟨_, _, _, rfl, rfl⟩
  next => cases h))
theorem cl_X5_reasonOf (v : pLV) (d y b : Int32) (rg : pRg) : F_X5_reasonOf [.ref 0, .int d, .int y, .int b] (loopCells 0 v) rg = some (some (.int (rsnV (NL v) d y b)), loopCells 0 ((NL v)), rg) := (fz_eq _ _ _ _).trans rfl
end
end
section
noncomputable section
def mxD (v : pLV) : Int32 := mnI (v 1 2) (v 0 32 - v 0 16 - v 0 17)
def mxW (v : pLV) : Int32 := if v 0 4 = v 0 1 then mxD v * v 1 3 / 1000 else 0
def mxB (v : pLV) (w : Int32) : Int32 := mnI w (v 0 13 + v 0 14)
def mxP (v : pLV) (w : Int32) : Int32 := mnI (mxD v - mxB v w) (v 0 10 + v 0 11)
def mxT (v : pLV) (w : Int32) : pLV := vS (vS (vS (vS v 13 (v 0 13 - tkR (v 0 13) (v 0 14) (mxB v w))) 14 (tkG (v 0 13) (v 0 14) (mxB v w))) 10 (v 0 10 - tkR (v 0 10) (v 0 11) (mxP v w))) 11 (tkG (v 0 10) (v 0 11) (mxP v w))
def mxF (v : pLV) (w : Int32) : Int32 := tkR (v 0 13) (v 0 14) (mxB v w) + tkR (v 0 10) (v 0 11) (mxP v w)
def mxU (v : pLV) (w : Int32) : pLV := pourV 2 (NL (mxT v w)) (mxF v w) (mxB v w + mxP v w - mxF v w)
def mixU (v : pLV) (w : Int32) : pLV := vS (NL (mxU v w)) 5 (rsnV (NL (mxU v w)) (mxD v) w (mxB v w))
def mixV (v : pLV) : pLV := mixU v (mxW v)
theorem dX5_feedMixing_0 : decode cX5_feedMixing 0 = .ok (.aload_n 0, 1) := by decide +kernel
theorem dX5_feedMixing_1 : decode cX5_feedMixing 1 = .ok (.getfield 72, 3) := by decide +kernel
theorem dX5_feedMixing_4 : decode cX5_feedMixing 4 = .ok (.iconst 2, 1) := by decide +kernel
theorem dX5_feedMixing_5 : decode cX5_feedMixing 5 = .ok (.iaload, 1) := by decide +kernel
theorem dX5_feedMixing_6 : decode cX5_feedMixing 6 = .ok (.aload_n 0, 1) := by decide +kernel
theorem dX5_feedMixing_7 : decode cX5_feedMixing 7 = .ok (.getfield 45, 3) := by decide +kernel
theorem dX5_feedMixing_10 : decode cX5_feedMixing 10 = .ok (.invokevirtual 183, 3) := by decide +kernel
theorem dX5_feedMixing_13 : decode cX5_feedMixing 13 = .ok (.invokestatic 186, 3) := by decide +kernel
theorem dX5_feedMixing_16 : decode cX5_feedMixing 16 = .ok (.istore_n 1, 1) := by decide +kernel
theorem dX5_feedMixing_17 : decode cX5_feedMixing 17 = .ok (.aload_n 0, 1) := by decide +kernel
theorem dX5_feedMixing_18 : decode cX5_feedMixing 18 = .ok (.getfield 24, 3) := by decide +kernel
theorem dX5_feedMixing_21 : decode cX5_feedMixing 21 = .ok (.aload_n 0, 1) := by decide +kernel
theorem dX5_feedMixing_22 : decode cX5_feedMixing 22 = .ok (.getfield 15, 3) := by decide +kernel
theorem dX5_feedMixing_25 : decode cX5_feedMixing 25 = .ok (.if_icmp .ne 18, 3) := by decide +kernel
theorem dX5_feedMixing_28 : decode cX5_feedMixing 28 = .ok (.iload_n 1, 1) := by decide +kernel
theorem dX5_feedMixing_29 : decode cX5_feedMixing 29 = .ok (.aload_n 0, 1) := by decide +kernel
theorem dX5_feedMixing_30 : decode cX5_feedMixing 30 = .ok (.getfield 72, 3) := by decide +kernel
theorem dX5_feedMixing_33 : decode cX5_feedMixing 33 = .ok (.iconst 3, 1) := by decide +kernel
theorem dX5_feedMixing_34 : decode cX5_feedMixing 34 = .ok (.iaload, 1) := by decide +kernel
theorem dX5_feedMixing_35 : decode cX5_feedMixing 35 = .ok (.imul, 1) := by decide +kernel
theorem dX5_feedMixing_36 : decode cX5_feedMixing 36 = .ok (.sipush 1000, 3) := by decide +kernel
theorem dX5_feedMixing_39 : decode cX5_feedMixing 39 = .ok (.idiv, 1) := by decide +kernel
theorem dX5_feedMixing_40 : decode cX5_feedMixing 40 = .ok (.goto 4, 3) := by decide +kernel
theorem dX5_feedMixing_43 : decode cX5_feedMixing 43 = .ok (.iconst 0, 1) := by decide +kernel
theorem dX5_feedMixing_44 : decode cX5_feedMixing 44 = .ok (.istore_n 2, 1) := by decide +kernel
theorem dX5_feedMixing_45 : decode cX5_feedMixing 45 = .ok (.aload_n 0, 1) := by decide +kernel
theorem dX5_feedMixing_46 : decode cX5_feedMixing 46 = .ok (.getfield 42, 3) := by decide +kernel
theorem dX5_feedMixing_49 : decode cX5_feedMixing 49 = .ok (.iload_n 2, 1) := by decide +kernel
theorem dX5_feedMixing_50 : decode cX5_feedMixing 50 = .ok (.invokevirtual 189, 3) := by decide +kernel
theorem dX5_feedMixing_53 : decode cX5_feedMixing 53 = .ok (.istore_n 3, 1) := by decide +kernel
theorem dX5_feedMixing_54 : decode cX5_feedMixing 54 = .ok (.aload_n 0, 1) := by decide +kernel
theorem dX5_feedMixing_55 : decode cX5_feedMixing 55 = .ok (.getfield 38, 3) := by decide +kernel
theorem dX5_feedMixing_58 : decode cX5_feedMixing 58 = .ok (.iload_n 1, 1) := by decide +kernel
theorem dX5_feedMixing_59 : decode cX5_feedMixing 59 = .ok (.iload_n 3, 1) := by decide +kernel
theorem dX5_feedMixing_60 : decode cX5_feedMixing 60 = .ok (.isub, 1) := by decide +kernel
theorem dX5_feedMixing_61 : decode cX5_feedMixing 61 = .ok (.invokevirtual 189, 3) := by decide +kernel
theorem dX5_feedMixing_64 : decode cX5_feedMixing 64 = .ok (.istore 4, 2) := by decide +kernel
theorem dX5_feedMixing_66 : decode cX5_feedMixing 66 = .ok (.aload_n 0, 1) := by decide +kernel
theorem dX5_feedMixing_67 : decode cX5_feedMixing 67 = .ok (.getfield 42, 3) := by decide +kernel
theorem dX5_feedMixing_70 : decode cX5_feedMixing 70 = .ok (.iload_n 3, 1) := by decide +kernel
theorem dX5_feedMixing_71 : decode cX5_feedMixing 71 = .ok (.invokevirtual 193, 3) := by decide +kernel
theorem dX5_feedMixing_74 : decode cX5_feedMixing 74 = .ok (.aload_n 0, 1) := by decide +kernel
theorem dX5_feedMixing_75 : decode cX5_feedMixing 75 = .ok (.getfield 38, 3) := by decide +kernel
theorem dX5_feedMixing_78 : decode cX5_feedMixing 78 = .ok (.iload 4, 2) := by decide +kernel
theorem dX5_feedMixing_80 : decode cX5_feedMixing 80 = .ok (.invokevirtual 193, 3) := by decide +kernel
theorem dX5_feedMixing_83 : decode cX5_feedMixing 83 = .ok (.iadd, 1) := by decide +kernel
theorem dX5_feedMixing_84 : decode cX5_feedMixing 84 = .ok (.istore 5, 2) := by decide +kernel
theorem dX5_feedMixing_86 : decode cX5_feedMixing 86 = .ok (.aload_n 0, 1) := by decide +kernel
theorem dX5_feedMixing_87 : decode cX5_feedMixing 87 = .ok (.aload_n 0, 1) := by decide +kernel
theorem dX5_feedMixing_88 : decode cX5_feedMixing 88 = .ok (.getfield 45, 3) := by decide +kernel
theorem dX5_feedMixing_91 : decode cX5_feedMixing 91 = .ok (.iload 5, 2) := by decide +kernel
theorem dX5_feedMixing_93 : decode cX5_feedMixing 93 = .ok (.iload_n 3, 1) := by decide +kernel
theorem dX5_feedMixing_94 : decode cX5_feedMixing 94 = .ok (.iload 4, 2) := by decide +kernel
theorem dX5_feedMixing_96 : decode cX5_feedMixing 96 = .ok (.iadd, 1) := by decide +kernel
theorem dX5_feedMixing_97 : decode cX5_feedMixing 97 = .ok (.iload 5, 2) := by decide +kernel
theorem dX5_feedMixing_99 : decode cX5_feedMixing 99 = .ok (.isub, 1) := by decide +kernel
theorem dX5_feedMixing_100 : decode cX5_feedMixing 100 = .ok (.invokevirtual 136, 3) := by decide +kernel
theorem dX5_feedMixing_103 : decode cX5_feedMixing 103 = .ok (.pop, 1) := by decide +kernel
theorem dX5_feedMixing_104 : decode cX5_feedMixing 104 = .ok (.aload_n 0, 1) := by decide +kernel
theorem dX5_feedMixing_105 : decode cX5_feedMixing 105 = .ok (.aload_n 0, 1) := by decide +kernel
theorem dX5_feedMixing_106 : decode cX5_feedMixing 106 = .ok (.iload_n 1, 1) := by decide +kernel
theorem dX5_feedMixing_107 : decode cX5_feedMixing 107 = .ok (.iload_n 2, 1) := by decide +kernel
theorem dX5_feedMixing_108 : decode cX5_feedMixing 108 = .ok (.iload_n 3, 1) := by decide +kernel
theorem dX5_feedMixing_109 : decode cX5_feedMixing 109 = .ok (.invokevirtual 196, 3) := by decide +kernel
theorem dX5_feedMixing_112 : decode cX5_feedMixing 112 = .ok (.putfield 27, 3) := by decide +kernel
theorem dX5_feedMixing_115 : decode cX5_feedMixing 115 = .ok (.return_, 1) := by decide +kernel
def k_X5_feedMixing : List pEn := [oAload 0, oGet 5 14, oConst (2), oIaldN 2, oAload 0, oGet 5 9, oCall 1 F_X1_missing, oMin, oIstore 1, oAload 0, oGet 5 4, oAload 0, oGet 5 1, oCne 23, oIload 1, oAload 0, oGet 5 14, oConst (3), oIaldN 3, oMul, oConst (1000), oDivL, oGoto 24, oConst (0), oIstore 2, oAload 0, oGet 5 8, oIload 2, oCall 2 F_X1_there, oIstore 3, oAload 0, oGet 5 7, oIload 1, oIload 3, oSub, oCall 2 F_X1_there, oIstore 4, oAload 0, oGet 5 8, oIload 3, oCall 2 F_X1_takeOut, oAload 0, oGet 5 7, oIload 4, oCall 2 F_X1_takeOut, oAdd, oIstore 5, oAload 0, oAload 0, oGet 5 9, oIload 5, oIload 3, oIload 4, oAdd, oIload 5, oSub, oCallZ 4 F_X5_pour, oPop, oAload 0, oAload 0, oIload 1, oIload 2, oIload 3, oCallZ 4 F_X5_reasonOf, oPut 5 5, oVret]
def pc_X5_feedMixing (i : Nat) : Nat := ([0, 1, 4, 5, 6, 7, 10, 13, 16, 17, 18, 21, 22, 25, 28, 29, 30, 33, 34, 35, 36, 39, 40, 43, 44, 45, 46, 49, 50, 53, 54, 55, 58, 59, 60, 61, 64, 66, 67, 70, 71, 74, 75, 78, 80, 83, 84, 86, 87, 88, 91, 93, 94, 96, 97, 99, 100, 103, 104, 105, 106, 107, 108, 109, 112, 115] : List Nat).getD i 0
abbrev rm_X5_feedMixing : Room := { frames := 3, cells := 0, slots := 0, locals := 70 }
theorem pl_X5_feedMixing : pPlain yX5_feedMixing 0 := by decide +kernel
set_option maxRecDepth 100000 in
set_option maxHeartbeats 4000000 in
theorem ok_k_X5_feedMixing (l : Launch) : ∀ (i : Nat) (en : pEn), k_X5_feedMixing[i]? = some en → EOK l cX5_feedMixing yX5_feedMixing.cls 6 (none) rm_X5_feedMixing 0 pc_X5_feedMixing i en := by
  refine allOK_at ?_
  refine And.intro (okAload_n dX5_feedMixing_0 rfl rfl) ?_
  refine And.intro (okGet (C := RX5) (T := TX5) (N := 15) dX5_feedMixing_1 rfl rfl (by decide) inX5 wm_1_178) ?_
  refine And.intro (okIconst dX5_feedMixing_4 rfl (by first | rfl | decide)) ?_
  refine And.intro (okIaldN dX5_feedMixing_5 rfl) ?_
  refine And.intro (okAload_n dX5_feedMixing_6 rfl rfl) ?_
  refine And.intro (okGet (C := RX5) (T := TX5) (N := 15) dX5_feedMixing_7 rfl rfl (by decide) inX5 wm_1_169) ?_
  refine And.intro (okCallV (y := yX1_missing) (T := TX1) (oCall_is _ _ _) dX5_feedMixing_10 rfl (ok_F_X1_missing l) rc_F_X1_missing rfl wm_2_236 wm_2_237 wm_2_238 wm_1_3 wm_2_239 pl_X1_missing (by decide)) ?_
  refine And.intro (okMin dX5_feedMixing_13 rfl wm_3_0 wm_2_95 wm_1_11 wm_2_96 (by decide) (by decide)) ?_
  refine And.intro (okIstore_n dX5_feedMixing_16 rfl rfl (by decide)) ?_
  refine And.intro (okAload_n dX5_feedMixing_17 rfl rfl) ?_
  refine And.intro (okGet (C := RX5) (T := TX5) (N := 15) dX5_feedMixing_18 rfl rfl (by decide) inX5 wm_1_160) ?_
  refine And.intro (okAload_n dX5_feedMixing_21 rfl rfl) ?_
  refine And.intro (okGet (C := RX5) (T := TX5) (N := 15) dX5_feedMixing_22 rfl rfl (by decide) inX5 wm_1_154) ?_
  refine And.intro (okCne dX5_feedMixing_25 rfl (by rfl)) ?_
  refine And.intro (okIload_n dX5_feedMixing_28 rfl rfl) ?_
  refine And.intro (okAload_n dX5_feedMixing_29 rfl rfl) ?_
  refine And.intro (okGet (C := RX5) (T := TX5) (N := 15) dX5_feedMixing_30 rfl rfl (by decide) inX5 wm_1_178) ?_
  refine And.intro (okIconst dX5_feedMixing_33 rfl (by first | rfl | decide)) ?_
  refine And.intro (okIaldN dX5_feedMixing_34 rfl) ?_
  refine And.intro (okMul dX5_feedMixing_35 rfl) ?_
  refine And.intro (okSipush dX5_feedMixing_36 rfl (by first | rfl | decide)) ?_
  refine And.intro (okDivL dX5_feedMixing_39 rfl) ?_
  refine And.intro (okGoto dX5_feedMixing_40 (by rfl)) ?_
  refine And.intro (okIconst dX5_feedMixing_43 rfl (by first | rfl | decide)) ?_
  refine And.intro (okIstore_n dX5_feedMixing_44 rfl rfl (by decide)) ?_
  refine And.intro (okAload_n dX5_feedMixing_45 rfl rfl) ?_
  refine And.intro (okGet (C := RX5) (T := TX5) (N := 15) dX5_feedMixing_46 rfl rfl (by decide) inX5 wm_1_167) ?_
  refine And.intro (okIload_n dX5_feedMixing_49 rfl rfl) ?_
  refine And.intro (okCallV (y := yX1_there) (T := TX1) (oCall_is _ _ _) dX5_feedMixing_50 rfl (ok_F_X1_there l) rc_F_X1_there rfl wm_3_1 wm_2_151 wm_2_152 wm_1_3 wm_2_153 pl_X1_there (by decide)) ?_
  refine And.intro (okIstore_n dX5_feedMixing_53 rfl rfl (by decide)) ?_
  refine And.intro (okAload_n dX5_feedMixing_54 rfl rfl) ?_
  refine And.intro (okGet (C := RX5) (T := TX5) (N := 15) dX5_feedMixing_55 rfl rfl (by decide) inX5 wm_1_166) ?_
  refine And.intro (okIload_n dX5_feedMixing_58 rfl rfl) ?_
  refine And.intro (okIload_n dX5_feedMixing_59 rfl rfl) ?_
  refine And.intro (okSub dX5_feedMixing_60 rfl) ?_
  refine And.intro (okCallV (y := yX1_there) (T := TX1) (oCall_is _ _ _) dX5_feedMixing_61 rfl (ok_F_X1_there l) rc_F_X1_there rfl wm_3_1 wm_2_151 wm_2_152 wm_1_3 wm_2_153 pl_X1_there (by decide)) ?_
  refine And.intro (okIstore dX5_feedMixing_64 rfl (by decide)) ?_
  refine And.intro (okAload_n dX5_feedMixing_66 rfl rfl) ?_
  refine And.intro (okGet (C := RX5) (T := TX5) (N := 15) dX5_feedMixing_67 rfl rfl (by decide) inX5 wm_1_167) ?_
  refine And.intro (okIload_n dX5_feedMixing_70 rfl rfl) ?_
  refine And.intro (okCallV (y := yX1_takeOut) (T := TX1) (oCall_is _ _ _) dX5_feedMixing_71 rfl (ok_F_X1_takeOut l) rc_F_X1_takeOut rfl wm_3_2 wm_2_143 wm_2_144 wm_1_3 wm_2_145 pl_X1_takeOut (by decide)) ?_
  refine And.intro (okAload_n dX5_feedMixing_74 rfl rfl) ?_
  refine And.intro (okGet (C := RX5) (T := TX5) (N := 15) dX5_feedMixing_75 rfl rfl (by decide) inX5 wm_1_166) ?_
  refine And.intro (okIload dX5_feedMixing_78 rfl) ?_
  refine And.intro (okCallV (y := yX1_takeOut) (T := TX1) (oCall_is _ _ _) dX5_feedMixing_80 rfl (ok_F_X1_takeOut l) rc_F_X1_takeOut rfl wm_3_2 wm_2_143 wm_2_144 wm_1_3 wm_2_145 pl_X1_takeOut (by decide)) ?_
  refine And.intro (okAdd dX5_feedMixing_83 rfl) ?_
  refine And.intro (okIstore dX5_feedMixing_84 rfl (by decide)) ?_
  refine And.intro (okAload_n dX5_feedMixing_86 rfl rfl) ?_
  refine And.intro (okAload_n dX5_feedMixing_87 rfl rfl) ?_
  refine And.intro (okGet (C := RX5) (T := TX5) (N := 15) dX5_feedMixing_88 rfl rfl (by decide) inX5 wm_1_169) ?_
  refine And.intro (okIload dX5_feedMixing_91 rfl) ?_
  refine And.intro (okIload_n dX5_feedMixing_93 rfl rfl) ?_
  refine And.intro (okIload dX5_feedMixing_94 rfl) ?_
  refine And.intro (okAdd dX5_feedMixing_96 rfl) ?_
  refine And.intro (okIload dX5_feedMixing_97 rfl) ?_
  refine And.intro (okSub dX5_feedMixing_99 rfl) ?_
  refine And.intro (okCallV (y := yX5_pour) (T := TX5) (oCallZ_is _ _ _) dX5_feedMixing_100 rfl (ok_F_X5_pour l) rc_F_X5_pour rfl wm_2_231 wm_2_135 wm_2_136 wm_1_2 wm_2_137 pl_X5_pour (by decide)) ?_
  refine And.intro (okPop dX5_feedMixing_103 rfl) ?_
  refine And.intro (okAload_n dX5_feedMixing_104 rfl rfl) ?_
  refine And.intro (okAload_n dX5_feedMixing_105 rfl rfl) ?_
  refine And.intro (okIload_n dX5_feedMixing_106 rfl rfl) ?_
  refine And.intro (okIload_n dX5_feedMixing_107 rfl rfl) ?_
  refine And.intro (okIload_n dX5_feedMixing_108 rfl rfl) ?_
  refine And.intro (okCallV (y := yX5_reasonOf) (T := TX5) (oCallZ_is _ _ _) dX5_feedMixing_109 rfl (ok_F_X5_reasonOf l) rc_F_X5_reasonOf rfl wm_3_3 wm_3_5 wp_9 wm_1_2 wm_3_6 pl_X5_reasonOf (by decide)) ?_
  refine And.intro (okPut (C := RX5) (T := TX5) (N := 15) dX5_feedMixing_112 rfl rfl (by decide) inX5 tyX5_ok nmX5 rfl rfl wm_1_162) ?_
  refine And.intro (okVret dX5_feedMixing_115 rfl) ?_
  exact trivial
def G_X5_feedMixing : pG := fun args w => match args with
  | [.ref 0] => unL 0 w (fun v => some (none, loopCells 0 (mixV v)))
  | _ => none
set_option maxHeartbeats 400000 in
set_option maxRecDepth 100000 in
theorem run_X5_feedMixing (rg : pRg) (v : pLV)  : ∃ fu, ex k_X5_feedMixing fu 0 [(0, .ref 0)] [] (loopCells 0 v) rg = some (none, loopCells 0 (mixV v), rg) := by
  refine ⟨60, ?_⟩
  conv => lhs; whnf
  refine pif_c (fun h => ?_) (fun h => ?_)
  · conv => lhs; whnf
    refine (callK_r (cl_X5_pour2 (mxT v (mxD v * v 1 3 / 1000)) (mxF v (mxD v * v 1 3 / 1000)) (mxB v (mxD v * v 1 3 / 1000) + mxP v (mxD v * v 1 3 / 1000) - mxF v (mxD v * v 1 3 / 1000)) rg) rfl).trans ?_
    conv => lhs; whnf
    refine (callK_r (cl_X5_reasonOf (mxU v (mxD v * v 1 3 / 1000)) (mxD v) (mxD v * v 1 3 / 1000) (mxB v (mxD v * v 1 3 / 1000)) rg) rfl).trans ?_
    rw [show mixV v = mixU v (mxD v * v 1 3 / 1000) from congrArg (mixU v) (if_pos h)]
    unfold mixU
    generalize rsnV (NL (mxU v (mxD v * v 1 3 / 1000))) (mxD v) (mxD v * v 1 3 / 1000) (mxB v (mxD v * v 1 3 / 1000)) = rr
    generalize NL (mxU v (mxD v * v 1 3 / 1000)) = X
    revert X rr; refine id ?_; intro X rr
    rfl
  · conv => lhs; whnf
    refine (callK_r (cl_X5_pour2 (mxT v (0)) (mxF v (0)) (mxB v (0) + mxP v (0) - mxF v (0)) rg) rfl).trans ?_
    conv => lhs; whnf
    refine (callK_r (cl_X5_reasonOf (mxU v (0)) (mxD v) (0) (mxB v (0)) rg) rfl).trans ?_
    rw [show mixV v = mixU v (0) from congrArg (mixU v) (if_neg h)]
    unfold mixU
    generalize rsnV (NL (mxU v (0))) (mxD v) (0) (mxB v (0)) = rr
    generalize NL (mxU v (0)) = X
    revert X rr; refine id ?_; intro X rr
    rfl
theorem ct_X5_feedMixing (l : Launch) : ∀ args0 w0 v0 w1 rg, G_X5_feedMixing args0 w0 = some (v0, w1) → pCT l yX5_feedMixing (pWs yX5_feedMixing cX5_feedMixing 6 (none)) rm_X5_feedMixing args0 w0 rg (v0, w1, rg) := by
  intro args0 w0 v0 w1 rg h
  unfold G_X5_feedMixing at h
  split at h
  next  =>
    obtain ⟨v, hw, h2⟩ := unL_some h
    clear h
    subst hw
    cases h2
    exact met_of_exL (by decide) (ok_k_X5_feedMixing l) rfl (run_X5_feedMixing rg v ) (Nat.le_of_ble_eq_true rfl) rfl rfl
  next => cases h
def F_X5_feedMixing : pF := fz (faN G_X5_feedMixing)
theorem ok_F_X5_feedMixing (l : Launch) : pFOK l yX5_feedMixing (pWs yX5_feedMixing cX5_feedMixing 6 (none)) rm_X5_feedMixing F_X5_feedMixing := pFOK_fz (pFOK_fa (fun a b c d rg h => ct_X5_feedMixing l a b c d rg h))
theorem rc_F_X5_feedMixing : pRcv 5 F_X5_feedMixing := pRcv_fz (pRcv_fa (fun a b c d h => by
  unfold G_X5_feedMixing at h
  split at h
  next =>
    obtain ⟨v, rfl, h⟩ := unL_some h
    exact ⟨_, _, _, rfl, rfl⟩
  next => cases h))
theorem cl_X5_feedMixing (v : pLV)  (rg : pRg) : F_X5_feedMixing [.ref 0] (loopCells 0 v) rg = some (none, loopCells 0 (mixV (NL v)), rg) := (fz_eq _ _ _ _).trans rfl
end
end
section
noncomputable section
def mcT (v : pLV) : Int32 := mnI (v 1 2) (v 0 16 + v 0 17)
def mcF (v : pLV) : Int32 := tkR (v 0 16) (v 0 17) (mcT v)
def mcU (v : pLV) : pLV := vS (vS v 16 (v 0 16 - mcF v)) 17 (tkG (v 0 16) (v 0 17) (mcT v))
def mchV (v : pLV) : pLV := pourV 3 (NL (mcU v)) (mcF v) (mcT v - mcF v + v 0 27 * mcT v / 1000)
theorem dX5_feedMachine_0 : decode cX5_feedMachine 0 = .ok (.aload_n 0, 1) := by decide +kernel
theorem dX5_feedMachine_1 : decode cX5_feedMachine 1 = .ok (.getfield 45, 3) := by decide +kernel
theorem dX5_feedMachine_4 : decode cX5_feedMachine 4 = .ok (.aload_n 0, 1) := by decide +kernel
theorem dX5_feedMachine_5 : decode cX5_feedMachine 5 = .ok (.getfield 72, 3) := by decide +kernel
theorem dX5_feedMachine_8 : decode cX5_feedMachine 8 = .ok (.iconst 2, 1) := by decide +kernel
theorem dX5_feedMachine_9 : decode cX5_feedMachine 9 = .ok (.iaload, 1) := by decide +kernel
theorem dX5_feedMachine_10 : decode cX5_feedMachine 10 = .ok (.invokevirtual 189, 3) := by decide +kernel
theorem dX5_feedMachine_13 : decode cX5_feedMachine 13 = .ok (.istore_n 1, 1) := by decide +kernel
theorem dX5_feedMachine_14 : decode cX5_feedMachine 14 = .ok (.aload_n 0, 1) := by decide +kernel
theorem dX5_feedMachine_15 : decode cX5_feedMachine 15 = .ok (.getfield 45, 3) := by decide +kernel
theorem dX5_feedMachine_18 : decode cX5_feedMachine 18 = .ok (.iload_n 1, 1) := by decide +kernel
theorem dX5_feedMachine_19 : decode cX5_feedMachine 19 = .ok (.invokevirtual 193, 3) := by decide +kernel
theorem dX5_feedMachine_22 : decode cX5_feedMachine 22 = .ok (.istore_n 2, 1) := by decide +kernel
theorem dX5_feedMachine_23 : decode cX5_feedMachine 23 = .ok (.aload_n 0, 1) := by decide +kernel
theorem dX5_feedMachine_24 : decode cX5_feedMachine 24 = .ok (.getfield 61, 3) := by decide +kernel
theorem dX5_feedMachine_27 : decode cX5_feedMachine 27 = .ok (.getfield 200, 3) := by decide +kernel
theorem dX5_feedMachine_30 : decode cX5_feedMachine 30 = .ok (.iload_n 1, 1) := by decide +kernel
theorem dX5_feedMachine_31 : decode cX5_feedMachine 31 = .ok (.imul, 1) := by decide +kernel
theorem dX5_feedMachine_32 : decode cX5_feedMachine 32 = .ok (.sipush 1000, 3) := by decide +kernel
theorem dX5_feedMachine_35 : decode cX5_feedMachine 35 = .ok (.idiv, 1) := by decide +kernel
theorem dX5_feedMachine_36 : decode cX5_feedMachine 36 = .ok (.istore_n 3, 1) := by decide +kernel
theorem dX5_feedMachine_37 : decode cX5_feedMachine 37 = .ok (.aload_n 0, 1) := by decide +kernel
theorem dX5_feedMachine_38 : decode cX5_feedMachine 38 = .ok (.aload_n 0, 1) := by decide +kernel
theorem dX5_feedMachine_39 : decode cX5_feedMachine 39 = .ok (.getfield 48, 3) := by decide +kernel
theorem dX5_feedMachine_42 : decode cX5_feedMachine 42 = .ok (.iload_n 2, 1) := by decide +kernel
theorem dX5_feedMachine_43 : decode cX5_feedMachine 43 = .ok (.iload_n 1, 1) := by decide +kernel
theorem dX5_feedMachine_44 : decode cX5_feedMachine 44 = .ok (.iload_n 2, 1) := by decide +kernel
theorem dX5_feedMachine_45 : decode cX5_feedMachine 45 = .ok (.isub, 1) := by decide +kernel
theorem dX5_feedMachine_46 : decode cX5_feedMachine 46 = .ok (.iload_n 3, 1) := by decide +kernel
theorem dX5_feedMachine_47 : decode cX5_feedMachine 47 = .ok (.iadd, 1) := by decide +kernel
theorem dX5_feedMachine_48 : decode cX5_feedMachine 48 = .ok (.invokevirtual 136, 3) := by decide +kernel
theorem dX5_feedMachine_51 : decode cX5_feedMachine 51 = .ok (.pop, 1) := by decide +kernel
theorem dX5_feedMachine_52 : decode cX5_feedMachine 52 = .ok (.return_, 1) := by decide +kernel
def k_X5_feedMachine : List pEn := [oAload 0, oGet 5 9, oAload 0, oGet 5 14, oConst (2), oIaldN 2, oCall 2 F_X1_there, oIstore 1, oAload 0, oGet 5 9, oIload 1, oCall 2 F_X1_takeOut, oIstore 2, oAload 0, oGet 5 12, oGet 2 0, oIload 1, oMul, oConst (1000), oDivL, oIstore 3, oAload 0, oAload 0, oGet 5 10, oIload 2, oIload 1, oIload 2, oSub, oIload 3, oAdd, oCallZ 4 F_X5_pour, oPop, oVret]
def pc_X5_feedMachine (i : Nat) : Nat := ([0, 1, 4, 5, 8, 9, 10, 13, 14, 15, 18, 19, 22, 23, 24, 27, 30, 31, 32, 35, 36, 37, 38, 39, 42, 43, 44, 45, 46, 47, 48, 51, 52] : List Nat).getD i 0
abbrev rm_X5_feedMachine : Room := { frames := 3, cells := 0, slots := 0, locals := 70 }
theorem pl_X5_feedMachine : pPlain yX5_feedMachine 0 := by decide +kernel
set_option maxRecDepth 100000 in
set_option maxHeartbeats 4000000 in
theorem ok_k_X5_feedMachine (l : Launch) : ∀ (i : Nat) (en : pEn), k_X5_feedMachine[i]? = some en → EOK l cX5_feedMachine yX5_feedMachine.cls 4 (none) rm_X5_feedMachine 0 pc_X5_feedMachine i en := by
  refine allOK_at ?_
  refine And.intro (okAload_n dX5_feedMachine_0 rfl rfl) ?_
  refine And.intro (okGet (C := RX5) (T := TX5) (N := 15) dX5_feedMachine_1 rfl rfl (by decide) inX5 wm_1_169) ?_
  refine And.intro (okAload_n dX5_feedMachine_4 rfl rfl) ?_
  refine And.intro (okGet (C := RX5) (T := TX5) (N := 15) dX5_feedMachine_5 rfl rfl (by decide) inX5 wm_1_178) ?_
  refine And.intro (okIconst dX5_feedMachine_8 rfl (by first | rfl | decide)) ?_
  refine And.intro (okIaldN dX5_feedMachine_9 rfl) ?_
  refine And.intro (okCallV (y := yX1_there) (T := TX1) (oCall_is _ _ _) dX5_feedMachine_10 rfl (ok_F_X1_there l) rc_F_X1_there rfl wm_3_1 wm_2_151 wm_2_152 wm_1_3 wm_2_153 pl_X1_there (by decide)) ?_
  refine And.intro (okIstore_n dX5_feedMachine_13 rfl rfl (by decide)) ?_
  refine And.intro (okAload_n dX5_feedMachine_14 rfl rfl) ?_
  refine And.intro (okGet (C := RX5) (T := TX5) (N := 15) dX5_feedMachine_15 rfl rfl (by decide) inX5 wm_1_169) ?_
  refine And.intro (okIload_n dX5_feedMachine_18 rfl rfl) ?_
  refine And.intro (okCallV (y := yX1_takeOut) (T := TX1) (oCall_is _ _ _) dX5_feedMachine_19 rfl (ok_F_X1_takeOut l) rc_F_X1_takeOut rfl wm_3_2 wm_2_143 wm_2_144 wm_1_3 wm_2_145 pl_X1_takeOut (by decide)) ?_
  refine And.intro (okIstore_n dX5_feedMachine_22 rfl rfl (by decide)) ?_
  refine And.intro (okAload_n dX5_feedMachine_23 rfl rfl) ?_
  refine And.intro (okGet (C := RX5) (T := TX5) (N := 15) dX5_feedMachine_24 rfl rfl (by decide) inX5 wm_1_174) ?_
  refine And.intro (okGet (C := RX2) (T := TX2) (N := 3) dX5_feedMachine_27 rfl rfl (by decide) inX2 wm_1_93) ?_
  refine And.intro (okIload_n dX5_feedMachine_30 rfl rfl) ?_
  refine And.intro (okMul dX5_feedMachine_31 rfl) ?_
  refine And.intro (okSipush dX5_feedMachine_32 rfl (by first | rfl | decide)) ?_
  refine And.intro (okDivL dX5_feedMachine_35 rfl) ?_
  refine And.intro (okIstore_n dX5_feedMachine_36 rfl rfl (by decide)) ?_
  refine And.intro (okAload_n dX5_feedMachine_37 rfl rfl) ?_
  refine And.intro (okAload_n dX5_feedMachine_38 rfl rfl) ?_
  refine And.intro (okGet (C := RX5) (T := TX5) (N := 15) dX5_feedMachine_39 rfl rfl (by decide) inX5 wm_1_170) ?_
  refine And.intro (okIload_n dX5_feedMachine_42 rfl rfl) ?_
  refine And.intro (okIload_n dX5_feedMachine_43 rfl rfl) ?_
  refine And.intro (okIload_n dX5_feedMachine_44 rfl rfl) ?_
  refine And.intro (okSub dX5_feedMachine_45 rfl) ?_
  refine And.intro (okIload_n dX5_feedMachine_46 rfl rfl) ?_
  refine And.intro (okAdd dX5_feedMachine_47 rfl) ?_
  refine And.intro (okCallV (y := yX5_pour) (T := TX5) (oCallZ_is _ _ _) dX5_feedMachine_48 rfl (ok_F_X5_pour l) rc_F_X5_pour rfl wm_2_231 wm_2_135 wm_2_136 wm_1_2 wm_2_137 pl_X5_pour (by decide)) ?_
  refine And.intro (okPop dX5_feedMachine_51 rfl) ?_
  refine And.intro (okVret dX5_feedMachine_52 rfl) ?_
  exact trivial
def G_X5_feedMachine : pG := fun args w => match args with
  | [.ref 0] => unL 0 w (fun v => some (none, loopCells 0 (mchV v)))
  | _ => none
set_option maxHeartbeats 400000 in
set_option maxRecDepth 100000 in
theorem run_X5_feedMachine (rg : pRg) (v : pLV)  : ∃ fu, ex k_X5_feedMachine fu 0 [(0, .ref 0)] [] (loopCells 0 v) rg = some (none, loopCells 0 (mchV v), rg) := by
  refine ⟨60, ?_⟩
  conv => lhs; whnf
  refine (callK_r (cl_X5_pour3 (mcU v) (mcF v) (mcT v - mcF v + v 0 27 * mcT v / 1000) rg) rfl).trans ?_
  rfl
theorem ct_X5_feedMachine (l : Launch) : ∀ args0 w0 v0 w1 rg, G_X5_feedMachine args0 w0 = some (v0, w1) → pCT l yX5_feedMachine (pWs yX5_feedMachine cX5_feedMachine 4 (none)) rm_X5_feedMachine args0 w0 rg (v0, w1, rg) := by
  intro args0 w0 v0 w1 rg h
  unfold G_X5_feedMachine at h
  split at h
  next  =>
    obtain ⟨v, hw, h2⟩ := unL_some h
    clear h
    subst hw
    cases h2
    exact met_of_exL (by decide) (ok_k_X5_feedMachine l) rfl (run_X5_feedMachine rg v ) (Nat.le_of_ble_eq_true rfl) rfl rfl
  next => cases h
def F_X5_feedMachine : pF := fz (faN G_X5_feedMachine)
theorem ok_F_X5_feedMachine (l : Launch) : pFOK l yX5_feedMachine (pWs yX5_feedMachine cX5_feedMachine 4 (none)) rm_X5_feedMachine F_X5_feedMachine := pFOK_fz (pFOK_fa (fun a b c d rg h => ct_X5_feedMachine l a b c d rg h))
theorem rc_F_X5_feedMachine : pRcv 5 F_X5_feedMachine := pRcv_fz (pRcv_fa (fun a b c d h => by
  unfold G_X5_feedMachine at h
  split at h
  next =>
    obtain ⟨v, rfl, h⟩ := unL_some h
    exact ⟨_, _, _, rfl, rfl⟩
  next => cases h))
theorem cl_X5_feedMachine (v : pLV)  (rg : pRg) : F_X5_feedMachine [.ref 0] (loopCells 0 v) rg = some (none, loopCells 0 (mchV (NL v)), rg) := (fz_eq _ _ _ _).trans rfl
end
end
section
noncomputable section
def cpV (v : pLV) (x : Int32) : pLV := if v 0 1 < 0 then v else if ¬ v 0 1 < 4 then v else vA v 2 (upd (v 2) (v 0 1).toNatClampNeg (v 2 (v 0 1).toNatClampNeg + x))
theorem dX5_countPaper_0 : decode cX5_countPaper 0 = .ok (.aload_n 0, 1) := by decide +kernel
theorem dX5_countPaper_1 : decode cX5_countPaper 1 = .ok (.getfield 15, 3) := by decide +kernel
theorem dX5_countPaper_4 : decode cX5_countPaper 4 = .ok (.ifCond .lt 34, 3) := by decide +kernel
theorem dX5_countPaper_7 : decode cX5_countPaper 7 = .ok (.aload_n 0, 1) := by decide +kernel
theorem dX5_countPaper_8 : decode cX5_countPaper 8 = .ok (.getfield 15, 3) := by decide +kernel
theorem dX5_countPaper_11 : decode cX5_countPaper 11 = .ok (.aload_n 0, 1) := by decide +kernel
theorem dX5_countPaper_12 : decode cX5_countPaper 12 = .ok (.getfield 54, 3) := by decide +kernel
theorem dX5_countPaper_15 : decode cX5_countPaper 15 = .ok (.getfield 208, 3) := by decide +kernel
theorem dX5_countPaper_18 : decode cX5_countPaper 18 = .ok (.arraylength, 1) := by decide +kernel
theorem dX5_countPaper_19 : decode cX5_countPaper 19 = .ok (.if_icmp .ge 19, 3) := by decide +kernel
theorem dX5_countPaper_22 : decode cX5_countPaper 22 = .ok (.aload_n 0, 1) := by decide +kernel
theorem dX5_countPaper_23 : decode cX5_countPaper 23 = .ok (.getfield 54, 3) := by decide +kernel
theorem dX5_countPaper_26 : decode cX5_countPaper 26 = .ok (.getfield 208, 3) := by decide +kernel
theorem dX5_countPaper_29 : decode cX5_countPaper 29 = .ok (.aload_n 0, 1) := by decide +kernel
theorem dX5_countPaper_30 : decode cX5_countPaper 30 = .ok (.getfield 15, 3) := by decide +kernel
theorem dX5_countPaper_33 : decode cX5_countPaper 33 = .ok (.dup2, 1) := by decide +kernel
theorem dX5_countPaper_34 : decode cX5_countPaper 34 = .ok (.iaload, 1) := by decide +kernel
theorem dX5_countPaper_35 : decode cX5_countPaper 35 = .ok (.iload_n 1, 1) := by decide +kernel
theorem dX5_countPaper_36 : decode cX5_countPaper 36 = .ok (.iadd, 1) := by decide +kernel
theorem dX5_countPaper_37 : decode cX5_countPaper 37 = .ok (.iastore, 1) := by decide +kernel
theorem dX5_countPaper_38 : decode cX5_countPaper 38 = .ok (.return_, 1) := by decide +kernel
def k_X5_countPaper : List pEn := [oAload 0, oGet 5 1, oIflt 20, oAload 0, oGet 5 1, oAload 0, oGet 5 11, oGet 0 5, oAlen, oCge 20, oAload 0, oGet 5 11, oGet 0 5, oAload 0, oGet 5 1, oDup2, oIald, oIload 1, oAdd, oIast, oVret]
def pc_X5_countPaper (i : Nat) : Nat := ([0, 1, 4, 7, 8, 11, 12, 15, 18, 19, 22, 23, 26, 29, 30, 33, 34, 35, 36, 37, 38] : List Nat).getD i 0
abbrev rm_X5_countPaper : Room := { frames := 0, cells := 0, slots := 0, locals := 0 }
theorem pl_X5_countPaper : pPlain yX5_countPaper 1 := by decide +kernel
set_option maxRecDepth 100000 in
set_option maxHeartbeats 4000000 in
theorem ok_k_X5_countPaper (l : Launch) : ∀ (i : Nat) (en : pEn), k_X5_countPaper[i]? = some en → EOK l cX5_countPaper yX5_countPaper.cls 2 (none) rm_X5_countPaper 0 pc_X5_countPaper i en := by
  refine allOK_at ?_
  refine And.intro (okAload_n dX5_countPaper_0 rfl rfl) ?_
  refine And.intro (okGet (C := RX5) (T := TX5) (N := 15) dX5_countPaper_1 rfl rfl (by decide) inX5 wm_1_154) ?_
  refine And.intro (okIflt dX5_countPaper_4 rfl (by rfl)) ?_
  refine And.intro (okAload_n dX5_countPaper_7 rfl rfl) ?_
  refine And.intro (okGet (C := RX5) (T := TX5) (N := 15) dX5_countPaper_8 rfl rfl (by decide) inX5 wm_1_154) ?_
  refine And.intro (okAload_n dX5_countPaper_11 rfl rfl) ?_
  refine And.intro (okGet (C := RX5) (T := TX5) (N := 15) dX5_countPaper_12 rfl rfl (by decide) inX5 wm_1_172) ?_
  refine And.intro (okGet (C := RX0) (T := TX0) (N := 6) dX5_countPaper_15 rfl rfl (by decide) inX0 wm_1_69) ?_
  refine And.intro (okAlen dX5_countPaper_18 rfl) ?_
  refine And.intro (okCge dX5_countPaper_19 rfl (by rfl)) ?_
  refine And.intro (okAload_n dX5_countPaper_22 rfl rfl) ?_
  refine And.intro (okGet (C := RX5) (T := TX5) (N := 15) dX5_countPaper_23 rfl rfl (by decide) inX5 wm_1_172) ?_
  refine And.intro (okGet (C := RX0) (T := TX0) (N := 6) dX5_countPaper_26 rfl rfl (by decide) inX0 wm_1_69) ?_
  refine And.intro (okAload_n dX5_countPaper_29 rfl rfl) ?_
  refine And.intro (okGet (C := RX5) (T := TX5) (N := 15) dX5_countPaper_30 rfl rfl (by decide) inX5 wm_1_154) ?_
  refine And.intro (okDup2 dX5_countPaper_33 rfl) ?_
  refine And.intro (okIald dX5_countPaper_34 rfl) ?_
  refine And.intro (okIload_n dX5_countPaper_35 rfl rfl) ?_
  refine And.intro (okAdd dX5_countPaper_36 rfl) ?_
  refine And.intro (okIast dX5_countPaper_37 rfl) ?_
  refine And.intro (okVret dX5_countPaper_38 rfl) ?_
  exact trivial
def G_X5_countPaper : pG := fun args w => match args with
  | [.ref 0, .int x] => unL 0 w (fun v => some (none, loopCells 0 (cpV v x)))
  | _ => none
set_option maxHeartbeats 400000 in
set_option maxRecDepth 100000 in
theorem run_X5_countPaper (rg : pRg) (v : pLV) (x : Int32) : ∃ fu, ex k_X5_countPaper fu 0 [(0, .ref 0), (1, .int x)] [] (loopCells 0 v) rg = some (none, loopCells 0 (cpV v x), rg) := by
  refine ⟨60, ?_⟩
  conv => lhs; whnf
  refine pif_c (fun h => ?_) (fun h => ?_)
  · simp only [cpV, if_pos h]; rfl
  · conv => lhs; whnf
    refine pif_c (fun h2 => ?_) (fun h2 => ?_)
    · have h3 : ¬ v 0 1 < 4 := Int32.not_lt.mpr h2
      simp only [cpV, if_neg h, if_pos h3]; rfl
    · have h3 : v 0 1 < 4 := Int32.not_le.mp h2
      have h5 : ¬ (v 0 1 < 0 ∨ 4 ≤ (v 0 1).toNatClampNeg) := by
        rintro (e | e)
        · exact h e
        · have h4 := Int32.lt_iff_toInt_lt.mp h3
          have h6 : (4 : Int32).toInt = 4 := by decide
          have h7 : (v 0 1).toNatClampNeg = (v 0 1).toInt.toNat := rfl
          omega
      have h4 : ¬ ¬ v 0 1 < 4 := fun q => q h3
      conv => lhs; whnf
      refine (pif_f h5).trans ?_
      conv => lhs; whnf
      refine (pif_f h5).trans ?_
      simp only [cpV, if_neg h, if_neg h4]; rfl
theorem ct_X5_countPaper (l : Launch) : ∀ args0 w0 v0 w1 rg, G_X5_countPaper args0 w0 = some (v0, w1) → pCT l yX5_countPaper (pWs yX5_countPaper cX5_countPaper 2 (none)) rm_X5_countPaper args0 w0 rg (v0, w1, rg) := by
  intro args0 w0 v0 w1 rg h
  unfold G_X5_countPaper at h
  split at h
  next x =>
    obtain ⟨v, hw, h2⟩ := unL_some h
    clear h
    subst hw
    cases h2
    exact met_of_exL (by decide) (ok_k_X5_countPaper l) rfl (run_X5_countPaper rg v x) (Nat.le_of_ble_eq_true rfl) rfl rfl
  next => cases h
def F_X5_countPaper : pF := fz (faN G_X5_countPaper)
theorem ok_F_X5_countPaper (l : Launch) : pFOK l yX5_countPaper (pWs yX5_countPaper cX5_countPaper 2 (none)) rm_X5_countPaper F_X5_countPaper := pFOK_fz (pFOK_fa (fun a b c d rg h => ct_X5_countPaper l a b c d rg h))
theorem rc_F_X5_countPaper : pRcv 5 F_X5_countPaper := pRcv_fz (pRcv_fa (fun a b c d h => by
  unfold G_X5_countPaper at h
  split at h
  next =>
    obtain ⟨v, rfl, h⟩ := unL_some h
    exact ⟨_, _, _, rfl, rfl⟩
  next => cases h))
theorem cl_X5_countPaper (v : pLV) (x : Int32) (rg : pRg) : F_X5_countPaper [.ref 0, .int x] (loopCells 0 v) rg = some (none, loopCells 0 (cpV (NL v) x), rg) := (fz_eq _ _ _ _).trans rfl
end
end
section
noncomputable section
def shT (v : pLV) : Int32 := mnI (v 1 2) (v 0 19 + v 0 20)
def shF (v : pLV) : Int32 := tkR (v 0 19) (v 0 20) (shT v)
def shU (v : pLV) : pLV := vS (vS v 19 (v 0 19 - shF v)) 20 (tkG (v 0 19) (v 0 20) (shT v))
def shB (v : pLV) : pLV := vS (vS (vS (shU v) 6 (v 0 6 + 1)) 26 (v 0 26 + shF v)) 4 (v 0 1)
/-- whether what comes from the sheet is spilled -/
def shS (v : pLV) : Int32 := if shF v + v 1 7 ≤ v 0 31 - v 0 13 - v 0 14 then 0 else 1
def shtV (v : pLV) : pLV := if v 0 2 = 0 then (if v 0 3 = 0 then cpV (NL (shU v)) (shF v) else pourV 1 (NL (shB v)) (shF v) (v 1 7)) else pourV 1 (NL (shB v)) (shF v) (v 1 7)
def shtZ (v : pLV) : Int32 := if v 0 2 = 0 then (if v 0 3 = 0 then 0 else shS v) else shS v
theorem dX5_makeSheet_0 : decode cX5_makeSheet 0 = .ok (.aload_n 0, 1) := by decide +kernel
theorem dX5_makeSheet_1 : decode cX5_makeSheet 1 = .ok (.getfield 48, 3) := by decide +kernel
theorem dX5_makeSheet_4 : decode cX5_makeSheet 4 = .ok (.aload_n 0, 1) := by decide +kernel
theorem dX5_makeSheet_5 : decode cX5_makeSheet 5 = .ok (.getfield 48, 3) := by decide +kernel
theorem dX5_makeSheet_8 : decode cX5_makeSheet 8 = .ok (.aload_n 0, 1) := by decide +kernel
theorem dX5_makeSheet_9 : decode cX5_makeSheet 9 = .ok (.getfield 72, 3) := by decide +kernel
theorem dX5_makeSheet_12 : decode cX5_makeSheet 12 = .ok (.iconst 2, 1) := by decide +kernel
theorem dX5_makeSheet_13 : decode cX5_makeSheet 13 = .ok (.iaload, 1) := by decide +kernel
theorem dX5_makeSheet_14 : decode cX5_makeSheet 14 = .ok (.invokevirtual 189, 3) := by decide +kernel
theorem dX5_makeSheet_17 : decode cX5_makeSheet 17 = .ok (.invokevirtual 193, 3) := by decide +kernel
theorem dX5_makeSheet_20 : decode cX5_makeSheet 20 = .ok (.istore_n 1, 1) := by decide +kernel
theorem dX5_makeSheet_21 : decode cX5_makeSheet 21 = .ok (.aload_n 0, 1) := by decide +kernel
theorem dX5_makeSheet_22 : decode cX5_makeSheet 22 = .ok (.getfield 18, 3) := by decide +kernel
theorem dX5_makeSheet_25 : decode cX5_makeSheet 25 = .ok (.ifCond .ne 17, 3) := by decide +kernel
theorem dX5_makeSheet_28 : decode cX5_makeSheet 28 = .ok (.aload_n 0, 1) := by decide +kernel
theorem dX5_makeSheet_29 : decode cX5_makeSheet 29 = .ok (.getfield 21, 3) := by decide +kernel
theorem dX5_makeSheet_32 : decode cX5_makeSheet 32 = .ok (.ifCond .ne 10, 3) := by decide +kernel
theorem dX5_makeSheet_35 : decode cX5_makeSheet 35 = .ok (.aload_n 0, 1) := by decide +kernel
theorem dX5_makeSheet_36 : decode cX5_makeSheet 36 = .ok (.iload_n 1, 1) := by decide +kernel
theorem dX5_makeSheet_37 : decode cX5_makeSheet 37 = .ok (.invokevirtual 203, 3) := by decide +kernel
theorem dX5_makeSheet_40 : decode cX5_makeSheet 40 = .ok (.iconst 0, 1) := by decide +kernel
theorem dX5_makeSheet_41 : decode cX5_makeSheet 41 = .ok (.ireturn, 1) := by decide +kernel
theorem dX5_makeSheet_42 : decode cX5_makeSheet 42 = .ok (.aload_n 0, 1) := by decide +kernel
theorem dX5_makeSheet_43 : decode cX5_makeSheet 43 = .ok (.dup, 1) := by decide +kernel
theorem dX5_makeSheet_44 : decode cX5_makeSheet 44 = .ok (.getfield 30, 3) := by decide +kernel
theorem dX5_makeSheet_47 : decode cX5_makeSheet 47 = .ok (.iconst 1, 1) := by decide +kernel
theorem dX5_makeSheet_48 : decode cX5_makeSheet 48 = .ok (.iadd, 1) := by decide +kernel
theorem dX5_makeSheet_49 : decode cX5_makeSheet 49 = .ok (.putfield 30, 3) := by decide +kernel
theorem dX5_makeSheet_52 : decode cX5_makeSheet 52 = .ok (.aload_n 0, 1) := by decide +kernel
theorem dX5_makeSheet_53 : decode cX5_makeSheet 53 = .ok (.getfield 54, 3) := by decide +kernel
theorem dX5_makeSheet_56 : decode cX5_makeSheet 56 = .ok (.dup, 1) := by decide +kernel
theorem dX5_makeSheet_57 : decode cX5_makeSheet 57 = .ok (.getfield 206, 3) := by decide +kernel
theorem dX5_makeSheet_60 : decode cX5_makeSheet 60 = .ok (.iload_n 1, 1) := by decide +kernel
theorem dX5_makeSheet_61 : decode cX5_makeSheet 61 = .ok (.iadd, 1) := by decide +kernel
theorem dX5_makeSheet_62 : decode cX5_makeSheet 62 = .ok (.putfield 206, 3) := by decide +kernel
theorem dX5_makeSheet_65 : decode cX5_makeSheet 65 = .ok (.aload_n 0, 1) := by decide +kernel
theorem dX5_makeSheet_66 : decode cX5_makeSheet 66 = .ok (.aload_n 0, 1) := by decide +kernel
theorem dX5_makeSheet_67 : decode cX5_makeSheet 67 = .ok (.getfield 15, 3) := by decide +kernel
theorem dX5_makeSheet_70 : decode cX5_makeSheet 70 = .ok (.putfield 24, 3) := by decide +kernel
theorem dX5_makeSheet_73 : decode cX5_makeSheet 73 = .ok (.iload_n 1, 1) := by decide +kernel
theorem dX5_makeSheet_74 : decode cX5_makeSheet 74 = .ok (.aload_n 0, 1) := by decide +kernel
theorem dX5_makeSheet_75 : decode cX5_makeSheet 75 = .ok (.getfield 72, 3) := by decide +kernel
theorem dX5_makeSheet_78 : decode cX5_makeSheet 78 = .ok (.bipush 7, 2) := by decide +kernel
theorem dX5_makeSheet_80 : decode cX5_makeSheet 80 = .ok (.iaload, 1) := by decide +kernel
theorem dX5_makeSheet_81 : decode cX5_makeSheet 81 = .ok (.iadd, 1) := by decide +kernel
theorem dX5_makeSheet_82 : decode cX5_makeSheet 82 = .ok (.aload_n 0, 1) := by decide +kernel
theorem dX5_makeSheet_83 : decode cX5_makeSheet 83 = .ok (.getfield 42, 3) := by decide +kernel
theorem dX5_makeSheet_86 : decode cX5_makeSheet 86 = .ok (.invokevirtual 183, 3) := by decide +kernel
theorem dX5_makeSheet_89 : decode cX5_makeSheet 89 = .ok (.if_icmp .le 7, 3) := by decide +kernel
theorem dX5_makeSheet_92 : decode cX5_makeSheet 92 = .ok (.iconst 1, 1) := by decide +kernel
theorem dX5_makeSheet_93 : decode cX5_makeSheet 93 = .ok (.goto 4, 3) := by decide +kernel
theorem dX5_makeSheet_96 : decode cX5_makeSheet 96 = .ok (.iconst 0, 1) := by decide +kernel
theorem dX5_makeSheet_97 : decode cX5_makeSheet 97 = .ok (.istore_n 2, 1) := by decide +kernel
theorem dX5_makeSheet_98 : decode cX5_makeSheet 98 = .ok (.aload_n 0, 1) := by decide +kernel
theorem dX5_makeSheet_99 : decode cX5_makeSheet 99 = .ok (.aload_n 0, 1) := by decide +kernel
theorem dX5_makeSheet_100 : decode cX5_makeSheet 100 = .ok (.getfield 42, 3) := by decide +kernel
theorem dX5_makeSheet_103 : decode cX5_makeSheet 103 = .ok (.iload_n 1, 1) := by decide +kernel
theorem dX5_makeSheet_104 : decode cX5_makeSheet 104 = .ok (.aload_n 0, 1) := by decide +kernel
theorem dX5_makeSheet_105 : decode cX5_makeSheet 105 = .ok (.getfield 72, 3) := by decide +kernel
theorem dX5_makeSheet_108 : decode cX5_makeSheet 108 = .ok (.bipush 7, 2) := by decide +kernel
theorem dX5_makeSheet_110 : decode cX5_makeSheet 110 = .ok (.iaload, 1) := by decide +kernel
theorem dX5_makeSheet_111 : decode cX5_makeSheet 111 = .ok (.invokevirtual 136, 3) := by decide +kernel
theorem dX5_makeSheet_114 : decode cX5_makeSheet 114 = .ok (.pop, 1) := by decide +kernel
theorem dX5_makeSheet_115 : decode cX5_makeSheet 115 = .ok (.iload_n 2, 1) := by decide +kernel
theorem dX5_makeSheet_116 : decode cX5_makeSheet 116 = .ok (.ireturn, 1) := by decide +kernel
def k_X5_makeSheet : List pEn := [oAload 0, oGet 5 10, oAload 0, oGet 5 10, oAload 0, oGet 5 14, oConst (2), oIaldN 2, oCall 2 F_X1_there, oCall 2 F_X1_takeOut, oIstore 1, oAload 0, oGet 5 2, oIfne 22, oAload 0, oGet 5 3, oIfne 22, oAload 0, oIload 1, oCallZ 2 F_X5_countPaper, oConst (0), oZret, oAload 0, oDup, oGet 5 6, oConst (1), oAdd, oPut 5 6, oAload 0, oGet 5 11, oDup, oGet 0 4, oIload 1, oAdd, oPut 0 4, oAload 0, oAload 0, oGet 5 1, oPut 5 4, oIload 1, oAload 0, oGet 5 14, oConst (7), oIaldN 7, oAdd, oAload 0, oGet 5 8, oCall 1 F_X1_missing, oCle 51, oConst (1), oGoto 52, oConst (0), oIstore 2, oAload 0, oAload 0, oGet 5 8, oIload 1, oAload 0, oGet 5 14, oConst (7), oIaldN 7, oCallZ 4 F_X5_pour, oPop, oIload 2, oZret]
def pc_X5_makeSheet (i : Nat) : Nat := ([0, 1, 4, 5, 8, 9, 12, 13, 14, 17, 20, 21, 22, 25, 28, 29, 32, 35, 36, 37, 40, 41, 42, 43, 44, 47, 48, 49, 52, 53, 56, 57, 60, 61, 62, 65, 66, 67, 70, 73, 74, 75, 78, 80, 81, 82, 83, 86, 89, 92, 93, 96, 97, 98, 99, 100, 103, 104, 105, 108, 110, 111, 114, 115, 116] : List Nat).getD i 0
abbrev rm_X5_makeSheet : Room := { frames := 3, cells := 0, slots := 0, locals := 70 }
theorem pl_X5_makeSheet : pPlain yX5_makeSheet 0 := by decide +kernel
set_option maxRecDepth 100000 in
set_option maxHeartbeats 4000000 in
theorem ok_k_X5_makeSheet (l : Launch) : ∀ (i : Nat) (en : pEn), k_X5_makeSheet[i]? = some en → EOK l cX5_makeSheet yX5_makeSheet.cls 3 ((some FieldType.boolean)) rm_X5_makeSheet 0 pc_X5_makeSheet i en := by
  refine allOK_at ?_
  refine And.intro (okAload_n dX5_makeSheet_0 rfl rfl) ?_
  refine And.intro (okGet (C := RX5) (T := TX5) (N := 15) dX5_makeSheet_1 rfl rfl (by decide) inX5 wm_1_170) ?_
  refine And.intro (okAload_n dX5_makeSheet_4 rfl rfl) ?_
  refine And.intro (okGet (C := RX5) (T := TX5) (N := 15) dX5_makeSheet_5 rfl rfl (by decide) inX5 wm_1_170) ?_
  refine And.intro (okAload_n dX5_makeSheet_8 rfl rfl) ?_
  refine And.intro (okGet (C := RX5) (T := TX5) (N := 15) dX5_makeSheet_9 rfl rfl (by decide) inX5 wm_1_178) ?_
  refine And.intro (okIconst dX5_makeSheet_12 rfl (by first | rfl | decide)) ?_
  refine And.intro (okIaldN dX5_makeSheet_13 rfl) ?_
  refine And.intro (okCallV (y := yX1_there) (T := TX1) (oCall_is _ _ _) dX5_makeSheet_14 rfl (ok_F_X1_there l) rc_F_X1_there rfl wm_3_1 wm_2_151 wm_2_152 wm_1_3 wm_2_153 pl_X1_there (by decide)) ?_
  refine And.intro (okCallV (y := yX1_takeOut) (T := TX1) (oCall_is _ _ _) dX5_makeSheet_17 rfl (ok_F_X1_takeOut l) rc_F_X1_takeOut rfl wm_3_2 wm_2_143 wm_2_144 wm_1_3 wm_2_145 pl_X1_takeOut (by decide)) ?_
  refine And.intro (okIstore_n dX5_makeSheet_20 rfl rfl (by decide)) ?_
  refine And.intro (okAload_n dX5_makeSheet_21 rfl rfl) ?_
  refine And.intro (okGet (C := RX5) (T := TX5) (N := 15) dX5_makeSheet_22 rfl rfl (by decide) inX5 wm_1_156) ?_
  refine And.intro (okIfne dX5_makeSheet_25 rfl (by rfl)) ?_
  refine And.intro (okAload_n dX5_makeSheet_28 rfl rfl) ?_
  refine And.intro (okGet (C := RX5) (T := TX5) (N := 15) dX5_makeSheet_29 rfl rfl (by decide) inX5 wm_1_158) ?_
  refine And.intro (okIfne dX5_makeSheet_32 rfl (by rfl)) ?_
  refine And.intro (okAload_n dX5_makeSheet_35 rfl rfl) ?_
  refine And.intro (okIload_n dX5_makeSheet_36 rfl rfl) ?_
  refine And.intro (okCallV (y := yX5_countPaper) (T := TX5) (oCallZ_is _ _ _) dX5_makeSheet_37 rfl (ok_F_X5_countPaper l) rc_F_X5_countPaper rfl wm_3_29 wm_3_31 wp_12 wm_1_2 wm_3_32 pl_X5_countPaper (by decide)) ?_
  refine And.intro (okIconst dX5_makeSheet_40 rfl (by first | rfl | decide)) ?_
  refine And.intro (okZret dX5_makeSheet_41 rfl) ?_
  refine And.intro (okAload_n dX5_makeSheet_42 rfl rfl) ?_
  refine And.intro (okDup dX5_makeSheet_43 rfl) ?_
  refine And.intro (okGet (C := RX5) (T := TX5) (N := 15) dX5_makeSheet_44 rfl rfl (by decide) inX5 wm_1_164) ?_
  refine And.intro (okIconst dX5_makeSheet_47 rfl (by first | rfl | decide)) ?_
  refine And.intro (okAdd dX5_makeSheet_48 rfl) ?_
  refine And.intro (okPut (C := RX5) (T := TX5) (N := 15) dX5_makeSheet_49 rfl rfl (by decide) inX5 tyX5_ok nmX5 rfl rfl wm_1_164) ?_
  refine And.intro (okAload_n dX5_makeSheet_52 rfl rfl) ?_
  refine And.intro (okGet (C := RX5) (T := TX5) (N := 15) dX5_makeSheet_53 rfl rfl (by decide) inX5 wm_1_172) ?_
  refine And.intro (okDup dX5_makeSheet_56 rfl) ?_
  refine And.intro (okGet (C := RX0) (T := TX0) (N := 6) dX5_makeSheet_57 rfl rfl (by decide) inX0 wm_1_66) ?_
  refine And.intro (okIload_n dX5_makeSheet_60 rfl rfl) ?_
  refine And.intro (okAdd dX5_makeSheet_61 rfl) ?_
  refine And.intro (okPut (C := RX0) (T := TX0) (N := 6) dX5_makeSheet_62 rfl rfl (by decide) inX0 tyX0_ok nmX0 rfl rfl wm_1_66) ?_
  refine And.intro (okAload_n dX5_makeSheet_65 rfl rfl) ?_
  refine And.intro (okAload_n dX5_makeSheet_66 rfl rfl) ?_
  refine And.intro (okGet (C := RX5) (T := TX5) (N := 15) dX5_makeSheet_67 rfl rfl (by decide) inX5 wm_1_154) ?_
  refine And.intro (okPut (C := RX5) (T := TX5) (N := 15) dX5_makeSheet_70 rfl rfl (by decide) inX5 tyX5_ok nmX5 rfl rfl wm_1_160) ?_
  refine And.intro (okIload_n dX5_makeSheet_73 rfl rfl) ?_
  refine And.intro (okAload_n dX5_makeSheet_74 rfl rfl) ?_
  refine And.intro (okGet (C := RX5) (T := TX5) (N := 15) dX5_makeSheet_75 rfl rfl (by decide) inX5 wm_1_178) ?_
  refine And.intro (okBipush dX5_makeSheet_78 rfl (by first | rfl | decide)) ?_
  refine And.intro (okIaldN dX5_makeSheet_80 rfl) ?_
  refine And.intro (okAdd dX5_makeSheet_81 rfl) ?_
  refine And.intro (okAload_n dX5_makeSheet_82 rfl rfl) ?_
  refine And.intro (okGet (C := RX5) (T := TX5) (N := 15) dX5_makeSheet_83 rfl rfl (by decide) inX5 wm_1_167) ?_
  refine And.intro (okCallV (y := yX1_missing) (T := TX1) (oCall_is _ _ _) dX5_makeSheet_86 rfl (ok_F_X1_missing l) rc_F_X1_missing rfl wm_2_236 wm_2_237 wm_2_238 wm_1_3 wm_2_239 pl_X1_missing (by decide)) ?_
  refine And.intro (okCle dX5_makeSheet_89 rfl (by rfl)) ?_
  refine And.intro (okIconst dX5_makeSheet_92 rfl (by first | rfl | decide)) ?_
  refine And.intro (okGoto dX5_makeSheet_93 (by rfl)) ?_
  refine And.intro (okIconst dX5_makeSheet_96 rfl (by first | rfl | decide)) ?_
  refine And.intro (okIstore_n dX5_makeSheet_97 rfl rfl (by decide)) ?_
  refine And.intro (okAload_n dX5_makeSheet_98 rfl rfl) ?_
  refine And.intro (okAload_n dX5_makeSheet_99 rfl rfl) ?_
  refine And.intro (okGet (C := RX5) (T := TX5) (N := 15) dX5_makeSheet_100 rfl rfl (by decide) inX5 wm_1_167) ?_
  refine And.intro (okIload_n dX5_makeSheet_103 rfl rfl) ?_
  refine And.intro (okAload_n dX5_makeSheet_104 rfl rfl) ?_
  refine And.intro (okGet (C := RX5) (T := TX5) (N := 15) dX5_makeSheet_105 rfl rfl (by decide) inX5 wm_1_178) ?_
  refine And.intro (okBipush dX5_makeSheet_108 rfl (by first | rfl | decide)) ?_
  refine And.intro (okIaldN dX5_makeSheet_110 rfl) ?_
  refine And.intro (okCallV (y := yX5_pour) (T := TX5) (oCallZ_is _ _ _) dX5_makeSheet_111 rfl (ok_F_X5_pour l) rc_F_X5_pour rfl wm_2_231 wm_2_135 wm_2_136 wm_1_2 wm_2_137 pl_X5_pour (by decide)) ?_
  refine And.intro (okPop dX5_makeSheet_114 rfl) ?_
  refine And.intro (okIload_n dX5_makeSheet_115 rfl rfl) ?_
  refine And.intro (okZret dX5_makeSheet_116 rfl) ?_
  exact trivial
def G_X5_makeSheet : pG := fun args w => match args with
  | [.ref 0] => unL 0 w (fun v => some (some (.int (shtZ v)), loopCells 0 (shtV v)))
  | _ => none
set_option maxHeartbeats 400000 in
set_option maxRecDepth 100000 in
theorem run_X5_makeSheet (rg : pRg) (v : pLV)  : ∃ fu, ex k_X5_makeSheet fu 0 [(0, .ref 0)] [] (loopCells 0 v) rg = some (some (.int (shtZ v)), loopCells 0 (shtV v), rg) := by
  refine ⟨60, ?_⟩
  conv => lhs; whnf
  refine pif_c (fun h => ?_) (fun h => ?_)
  · conv => lhs; whnf
    refine pif_c (fun h2 => ?_) (fun h2 => ?_)
    · conv => lhs; whnf
      refine (callK_v (cl_X5_countPaper (shU v) (shF v) rg) rfl).trans ?_
      conv => lhs; whnf
      refine (pif_t (by decide)).trans ?_
      simp only [shtV, shtZ, if_pos h, if_pos h2] <;> rfl
    · conv => lhs; whnf
      refine pif_c (fun h3 => ?_) (fun h3 => ?_)
      · have e : shS v = 0 := if_pos h3
        conv => lhs; whnf
        refine (callK_r (cl_X5_pour1 (shB v) (shF v) (v 1 7) rg) rfl).trans ?_
        conv => lhs; whnf
        refine (pif_t (by decide)).trans ?_
        simp only [shtV, shtZ, if_pos h, if_neg h2, e] <;> rfl
      · have e : shS v = 1 := if_neg h3
        conv => lhs; whnf
        refine (callK_r (cl_X5_pour1 (shB v) (shF v) (v 1 7) rg) rfl).trans ?_
        conv => lhs; whnf
        refine (pif_t (by decide)).trans ?_
        simp only [shtV, shtZ, if_pos h, if_neg h2, e] <;> rfl
  · conv => lhs; whnf
    refine pif_c (fun h3 => ?_) (fun h3 => ?_)
    · have e : shS v = 0 := if_pos h3
      conv => lhs; whnf
      refine (callK_r (cl_X5_pour1 (shB v) (shF v) (v 1 7) rg) rfl).trans ?_
      conv => lhs; whnf
      refine (pif_t (by decide)).trans ?_
      simp only [shtV, shtZ, if_neg h, e] <;> rfl
    · have e : shS v = 1 := if_neg h3
      conv => lhs; whnf
      refine (callK_r (cl_X5_pour1 (shB v) (shF v) (v 1 7) rg) rfl).trans ?_
      conv => lhs; whnf
      refine (pif_t (by decide)).trans ?_
      simp only [shtV, shtZ, if_neg h, e] <;> rfl
theorem ct_X5_makeSheet (l : Launch) : ∀ args0 w0 v0 w1 rg, G_X5_makeSheet args0 w0 = some (v0, w1) → pCT l yX5_makeSheet (pWs yX5_makeSheet cX5_makeSheet 3 ((some FieldType.boolean))) rm_X5_makeSheet args0 w0 rg (v0, w1, rg) := by
  intro args0 w0 v0 w1 rg h
  unfold G_X5_makeSheet at h
  split at h
  next  =>
    obtain ⟨v, hw, h2⟩ := unL_some h
    clear h
    subst hw
    cases h2
    exact met_of_exL (by decide) (ok_k_X5_makeSheet l) rfl (run_X5_makeSheet rg v ) (Nat.le_of_ble_eq_true rfl) rfl rfl
  next => cases h
def F_X5_makeSheet : pF := fz (faN G_X5_makeSheet)
theorem ok_F_X5_makeSheet (l : Launch) : pFOK l yX5_makeSheet (pWs yX5_makeSheet cX5_makeSheet 3 ((some FieldType.boolean))) rm_X5_makeSheet F_X5_makeSheet := pFOK_fz (pFOK_fa (fun a b c d rg h => ct_X5_makeSheet l a b c d rg h))
theorem rc_F_X5_makeSheet : pRcv 5 F_X5_makeSheet := pRcv_fz (pRcv_fa (fun a b c d h => by
  unfold G_X5_makeSheet at h
  split at h
  next =>
    obtain ⟨v, rfl, h⟩ := unL_some h
    exact ⟨_, _, _, rfl, rfl⟩
  next => cases h))
theorem cl_X5_makeSheet (v : pLV)  (rg : pRg) : F_X5_makeSheet [.ref 0] (loopCells 0 v) rg = some (some (.int (shtZ (NL v))), loopCells 0 (shtV (NL v)), rg) := (fz_eq _ _ _ _).trans rfl
end
end
section
noncomputable section
def smV (v : pLV) : pLV := vS (vS (vS (vS v 12 (mxI (v 0 12) (v 0 10 + v 0 11))) 15 (mxI (v 0 15) (v 0 13 + v 0 14))) 18 (mxI (v 0 18) (v 0 16 + v 0 17))) 21 (mxI (v 0 21) (v 0 19 + v 0 20))
theorem dX5_noteSums_0 : decode cX5_noteSums 0 = .ok (.aload_n 0, 1) := by decide +kernel
theorem dX5_noteSums_1 : decode cX5_noteSums 1 = .ok (.getfield 38, 3) := by decide +kernel
theorem dX5_noteSums_4 : decode cX5_noteSums 4 = .ok (.invokevirtual 211, 3) := by decide +kernel
theorem dX5_noteSums_7 : decode cX5_noteSums 7 = .ok (.aload_n 0, 1) := by decide +kernel
theorem dX5_noteSums_8 : decode cX5_noteSums 8 = .ok (.getfield 42, 3) := by decide +kernel
theorem dX5_noteSums_11 : decode cX5_noteSums 11 = .ok (.invokevirtual 211, 3) := by decide +kernel
theorem dX5_noteSums_14 : decode cX5_noteSums 14 = .ok (.aload_n 0, 1) := by decide +kernel
theorem dX5_noteSums_15 : decode cX5_noteSums 15 = .ok (.getfield 45, 3) := by decide +kernel
theorem dX5_noteSums_18 : decode cX5_noteSums 18 = .ok (.invokevirtual 211, 3) := by decide +kernel
theorem dX5_noteSums_21 : decode cX5_noteSums 21 = .ok (.aload_n 0, 1) := by decide +kernel
theorem dX5_noteSums_22 : decode cX5_noteSums 22 = .ok (.getfield 48, 3) := by decide +kernel
theorem dX5_noteSums_25 : decode cX5_noteSums 25 = .ok (.invokevirtual 211, 3) := by decide +kernel
theorem dX5_noteSums_28 : decode cX5_noteSums 28 = .ok (.return_, 1) := by decide +kernel
def k_X5_noteSums : List pEn := [oAload 0, oGet 5 7, oCall 1 F_X1_noteSum, oAload 0, oGet 5 8, oCall 1 F_X1_noteSum, oAload 0, oGet 5 9, oCall 1 F_X1_noteSum, oAload 0, oGet 5 10, oCall 1 F_X1_noteSum, oVret]
def pc_X5_noteSums (i : Nat) : Nat := ([0, 1, 4, 7, 8, 11, 14, 15, 18, 21, 22, 25, 28] : List Nat).getD i 0
abbrev rm_X5_noteSums : Room := { frames := 2, cells := 0, slots := 0, locals := 41 }
theorem pl_X5_noteSums : pPlain yX5_noteSums 0 := by decide +kernel
set_option maxRecDepth 100000 in
set_option maxHeartbeats 4000000 in
theorem ok_k_X5_noteSums (l : Launch) : ∀ (i : Nat) (en : pEn), k_X5_noteSums[i]? = some en → EOK l cX5_noteSums yX5_noteSums.cls 1 (none) rm_X5_noteSums 0 pc_X5_noteSums i en := by
  refine allOK_at ?_
  refine And.intro (okAload_n dX5_noteSums_0 rfl rfl) ?_
  refine And.intro (okGet (C := RX5) (T := TX5) (N := 15) dX5_noteSums_1 rfl rfl (by decide) inX5 wm_1_166) ?_
  refine And.intro (okCallV (y := yX1_noteSum) (T := TX1) (oCall_is _ _ _) dX5_noteSums_4 rfl (ok_F_X1_noteSum l) rc_F_X1_noteSum rfl wm_3_37 wm_3_38 wm_3_39 wm_1_3 wm_3_40 pl_X1_noteSum (by decide)) ?_
  refine And.intro (okAload_n dX5_noteSums_7 rfl rfl) ?_
  refine And.intro (okGet (C := RX5) (T := TX5) (N := 15) dX5_noteSums_8 rfl rfl (by decide) inX5 wm_1_167) ?_
  refine And.intro (okCallV (y := yX1_noteSum) (T := TX1) (oCall_is _ _ _) dX5_noteSums_11 rfl (ok_F_X1_noteSum l) rc_F_X1_noteSum rfl wm_3_37 wm_3_38 wm_3_39 wm_1_3 wm_3_40 pl_X1_noteSum (by decide)) ?_
  refine And.intro (okAload_n dX5_noteSums_14 rfl rfl) ?_
  refine And.intro (okGet (C := RX5) (T := TX5) (N := 15) dX5_noteSums_15 rfl rfl (by decide) inX5 wm_1_169) ?_
  refine And.intro (okCallV (y := yX1_noteSum) (T := TX1) (oCall_is _ _ _) dX5_noteSums_18 rfl (ok_F_X1_noteSum l) rc_F_X1_noteSum rfl wm_3_37 wm_3_38 wm_3_39 wm_1_3 wm_3_40 pl_X1_noteSum (by decide)) ?_
  refine And.intro (okAload_n dX5_noteSums_21 rfl rfl) ?_
  refine And.intro (okGet (C := RX5) (T := TX5) (N := 15) dX5_noteSums_22 rfl rfl (by decide) inX5 wm_1_170) ?_
  refine And.intro (okCallV (y := yX1_noteSum) (T := TX1) (oCall_is _ _ _) dX5_noteSums_25 rfl (ok_F_X1_noteSum l) rc_F_X1_noteSum rfl wm_3_37 wm_3_38 wm_3_39 wm_1_3 wm_3_40 pl_X1_noteSum (by decide)) ?_
  refine And.intro (okVret dX5_noteSums_28 rfl) ?_
  exact trivial
def G_X5_noteSums : pG := fun args w => match args with
  | [.ref 0] => unL 0 w (fun v => some (none, loopCells 0 (smV v)))
  | _ => none
set_option maxHeartbeats 400000 in
set_option maxRecDepth 100000 in
theorem run_X5_noteSums (rg : pRg) (v : pLV)  : ∃ fu, ex k_X5_noteSums fu 0 [(0, .ref 0)] [] (loopCells 0 v) rg = some (none, loopCells 0 (smV v), rg) := by
  refine ⟨60, ?_⟩
  rfl
theorem ct_X5_noteSums (l : Launch) : ∀ args0 w0 v0 w1 rg, G_X5_noteSums args0 w0 = some (v0, w1) → pCT l yX5_noteSums (pWs yX5_noteSums cX5_noteSums 1 (none)) rm_X5_noteSums args0 w0 rg (v0, w1, rg) := by
  intro args0 w0 v0 w1 rg h
  unfold G_X5_noteSums at h
  split at h
  next  =>
    obtain ⟨v, hw, h2⟩ := unL_some h
    clear h
    subst hw
    cases h2
    exact met_of_exL (by decide) (ok_k_X5_noteSums l) rfl (run_X5_noteSums rg v ) (Nat.le_of_ble_eq_true rfl) rfl rfl
  next => cases h
def F_X5_noteSums : pF := fz (faN G_X5_noteSums)
theorem ok_F_X5_noteSums (l : Launch) : pFOK l yX5_noteSums (pWs yX5_noteSums cX5_noteSums 1 (none)) rm_X5_noteSums F_X5_noteSums := pFOK_fz (pFOK_fa (fun a b c d rg h => ct_X5_noteSums l a b c d rg h))
theorem rc_F_X5_noteSums : pRcv 5 F_X5_noteSums := pRcv_fz (pRcv_fa (fun a b c d h => by
  unfold G_X5_noteSums at h
  split at h
  next =>
    obtain ⟨v, rfl, h⟩ := unL_some h
    exact ⟨_, _, _, rfl, rfl⟩
  next => cases h))
theorem cl_X5_noteSums (v : pLV)  (rg : pRg) : F_X5_noteSums [.ref 0] (loopCells 0 v) rg = some (none, loopCells 0 (smV (NL v)), rg) := (fz_eq _ _ _ _).trans rfl
end
end
section
noncomputable section
def tk1 (v : pLV) : pLV := cryV (NL (vS v 0 (v 0 0 + 1)))
def tk2 (v : pLV) : pLV := pourV 0 (NL (vS v 22 (v 0 22 + v 1 0))) (v 1 0) (v 1 1)
def tk5 (v : pLV) : pLV := vA (vS v 28 (mnI (v 0 28 + 1) 9)) 3 (shM (v 3) (csC (v 0 19) (v 0 20)))
def tk6 (v : pLV) : pLV := vS v 27 (ctV (v 0 27) (v 0 28) (v 3) (v 1 5) (v 1 4) (v 1 6))
def tk8 (v : pLV) : pLV := vS (vS v 2 (mxI 0 (v 0 2 - 1))) 3 (mxI 0 (v 0 3 - 1))
def tickV (v : pLV) : pLV := smV (NL (tk8 (shtV (NL (tk6 (tk5 (mchV (NL (mixV (NL (tk2 (tk1 v))))))))))))
def tickZ (v : pLV) : Int32 := shtZ (NL (tk6 (tk5 (mchV (NL (mixV (NL (tk2 (tk1 v)))))))))
theorem shtZ_01 (v : pLV) : shtZ v = 0 ∨ shtZ v = 1 := by
  unfold shtZ
  split
  · split
    · exact Or.inl rfl
    · unfold shS; split
      · exact Or.inl rfl
      · exact Or.inr rfl
  · unfold shS; split
    · exact Or.inl rfl
    · exact Or.inr rfl
theorem dX5_tick_0 : decode cX5_tick 0 = .ok (.aload_n 0, 1) := by decide +kernel
theorem dX5_tick_1 : decode cX5_tick 1 = .ok (.dup, 1) := by decide +kernel
theorem dX5_tick_2 : decode cX5_tick 2 = .ok (.getfield 9, 3) := by decide +kernel
theorem dX5_tick_5 : decode cX5_tick 5 = .ok (.iconst 1, 1) := by decide +kernel
theorem dX5_tick_6 : decode cX5_tick 6 = .ok (.iadd, 1) := by decide +kernel
theorem dX5_tick_7 : decode cX5_tick 7 = .ok (.putfield 9, 3) := by decide +kernel
theorem dX5_tick_10 : decode cX5_tick 10 = .ok (.aload_n 0, 1) := by decide +kernel
theorem dX5_tick_11 : decode cX5_tick 11 = .ok (.invokevirtual 130, 3) := by decide +kernel
theorem dX5_tick_14 : decode cX5_tick 14 = .ok (.aload_n 0, 1) := by decide +kernel
theorem dX5_tick_15 : decode cX5_tick 15 = .ok (.getfield 54, 3) := by decide +kernel
theorem dX5_tick_18 : decode cX5_tick 18 = .ok (.dup, 1) := by decide +kernel
theorem dX5_tick_19 : decode cX5_tick 19 = .ok (.getfield 133, 3) := by decide +kernel
theorem dX5_tick_22 : decode cX5_tick 22 = .ok (.aload_n 0, 1) := by decide +kernel
theorem dX5_tick_23 : decode cX5_tick 23 = .ok (.getfield 72, 3) := by decide +kernel
theorem dX5_tick_26 : decode cX5_tick 26 = .ok (.iconst 0, 1) := by decide +kernel
theorem dX5_tick_27 : decode cX5_tick 27 = .ok (.iaload, 1) := by decide +kernel
theorem dX5_tick_28 : decode cX5_tick 28 = .ok (.iadd, 1) := by decide +kernel
theorem dX5_tick_29 : decode cX5_tick 29 = .ok (.putfield 133, 3) := by decide +kernel
theorem dX5_tick_32 : decode cX5_tick 32 = .ok (.aload_n 0, 1) := by decide +kernel
theorem dX5_tick_33 : decode cX5_tick 33 = .ok (.aload_n 0, 1) := by decide +kernel
theorem dX5_tick_34 : decode cX5_tick 34 = .ok (.getfield 38, 3) := by decide +kernel
theorem dX5_tick_37 : decode cX5_tick 37 = .ok (.aload_n 0, 1) := by decide +kernel
theorem dX5_tick_38 : decode cX5_tick 38 = .ok (.getfield 72, 3) := by decide +kernel
theorem dX5_tick_41 : decode cX5_tick 41 = .ok (.iconst 0, 1) := by decide +kernel
theorem dX5_tick_42 : decode cX5_tick 42 = .ok (.iaload, 1) := by decide +kernel
theorem dX5_tick_43 : decode cX5_tick 43 = .ok (.aload_n 0, 1) := by decide +kernel
theorem dX5_tick_44 : decode cX5_tick 44 = .ok (.getfield 72, 3) := by decide +kernel
theorem dX5_tick_47 : decode cX5_tick 47 = .ok (.iconst 1, 1) := by decide +kernel
theorem dX5_tick_48 : decode cX5_tick 48 = .ok (.iaload, 1) := by decide +kernel
theorem dX5_tick_49 : decode cX5_tick 49 = .ok (.invokevirtual 136, 3) := by decide +kernel
theorem dX5_tick_52 : decode cX5_tick 52 = .ok (.pop, 1) := by decide +kernel
theorem dX5_tick_53 : decode cX5_tick 53 = .ok (.aload_n 0, 1) := by decide +kernel
theorem dX5_tick_54 : decode cX5_tick 54 = .ok (.invokevirtual 140, 3) := by decide +kernel
theorem dX5_tick_57 : decode cX5_tick 57 = .ok (.aload_n 0, 1) := by decide +kernel
theorem dX5_tick_58 : decode cX5_tick 58 = .ok (.invokevirtual 143, 3) := by decide +kernel
theorem dX5_tick_61 : decode cX5_tick 61 = .ok (.aload_n 0, 1) := by decide +kernel
theorem dX5_tick_62 : decode cX5_tick 62 = .ok (.getfield 61, 3) := by decide +kernel
theorem dX5_tick_65 : decode cX5_tick 65 = .ok (.aload_n 0, 1) := by decide +kernel
theorem dX5_tick_66 : decode cX5_tick 66 = .ok (.getfield 48, 3) := by decide +kernel
theorem dX5_tick_69 : decode cX5_tick 69 = .ok (.invokevirtual 146, 3) := by decide +kernel
theorem dX5_tick_72 : decode cX5_tick 72 = .ok (.invokevirtual 149, 3) := by decide +kernel
theorem dX5_tick_75 : decode cX5_tick 75 = .ok (.aload_n 0, 1) := by decide +kernel
theorem dX5_tick_76 : decode cX5_tick 76 = .ok (.getfield 61, 3) := by decide +kernel
theorem dX5_tick_79 : decode cX5_tick 79 = .ok (.aload_n 0, 1) := by decide +kernel
theorem dX5_tick_80 : decode cX5_tick 80 = .ok (.getfield 72, 3) := by decide +kernel
theorem dX5_tick_83 : decode cX5_tick 83 = .ok (.iconst 5, 1) := by decide +kernel
theorem dX5_tick_84 : decode cX5_tick 84 = .ok (.iaload, 1) := by decide +kernel
theorem dX5_tick_85 : decode cX5_tick 85 = .ok (.aload_n 0, 1) := by decide +kernel
theorem dX5_tick_86 : decode cX5_tick 86 = .ok (.getfield 72, 3) := by decide +kernel
theorem dX5_tick_89 : decode cX5_tick 89 = .ok (.iconst 4, 1) := by decide +kernel
theorem dX5_tick_90 : decode cX5_tick 90 = .ok (.iaload, 1) := by decide +kernel
theorem dX5_tick_91 : decode cX5_tick 91 = .ok (.aload_n 0, 1) := by decide +kernel
theorem dX5_tick_92 : decode cX5_tick 92 = .ok (.getfield 72, 3) := by decide +kernel
theorem dX5_tick_95 : decode cX5_tick 95 = .ok (.bipush 6, 2) := by decide +kernel
theorem dX5_tick_97 : decode cX5_tick 97 = .ok (.iaload, 1) := by decide +kernel
theorem dX5_tick_98 : decode cX5_tick 98 = .ok (.invokevirtual 152, 3) := by decide +kernel
theorem dX5_tick_101 : decode cX5_tick 101 = .ok (.aload_n 0, 1) := by decide +kernel
theorem dX5_tick_102 : decode cX5_tick 102 = .ok (.invokevirtual 156, 3) := by decide +kernel
theorem dX5_tick_105 : decode cX5_tick 105 = .ok (.istore_n 1, 1) := by decide +kernel
theorem dX5_tick_106 : decode cX5_tick 106 = .ok (.aload_n 0, 1) := by decide +kernel
theorem dX5_tick_107 : decode cX5_tick 107 = .ok (.iconst 0, 1) := by decide +kernel
theorem dX5_tick_108 : decode cX5_tick 108 = .ok (.aload_n 0, 1) := by decide +kernel
theorem dX5_tick_109 : decode cX5_tick 109 = .ok (.getfield 18, 3) := by decide +kernel
theorem dX5_tick_112 : decode cX5_tick 112 = .ok (.iconst 1, 1) := by decide +kernel
theorem dX5_tick_113 : decode cX5_tick 113 = .ok (.isub, 1) := by decide +kernel
theorem dX5_tick_114 : decode cX5_tick 114 = .ok (.invokestatic 110, 3) := by decide +kernel
theorem dX5_tick_117 : decode cX5_tick 117 = .ok (.putfield 18, 3) := by decide +kernel
theorem dX5_tick_120 : decode cX5_tick 120 = .ok (.aload_n 0, 1) := by decide +kernel
theorem dX5_tick_121 : decode cX5_tick 121 = .ok (.iconst 0, 1) := by decide +kernel
theorem dX5_tick_122 : decode cX5_tick 122 = .ok (.aload_n 0, 1) := by decide +kernel
theorem dX5_tick_123 : decode cX5_tick 123 = .ok (.getfield 21, 3) := by decide +kernel
theorem dX5_tick_126 : decode cX5_tick 126 = .ok (.iconst 1, 1) := by decide +kernel
theorem dX5_tick_127 : decode cX5_tick 127 = .ok (.isub, 1) := by decide +kernel
theorem dX5_tick_128 : decode cX5_tick 128 = .ok (.invokestatic 110, 3) := by decide +kernel
theorem dX5_tick_131 : decode cX5_tick 131 = .ok (.putfield 21, 3) := by decide +kernel
theorem dX5_tick_134 : decode cX5_tick 134 = .ok (.aload_n 0, 1) := by decide +kernel
theorem dX5_tick_135 : decode cX5_tick 135 = .ok (.invokevirtual 159, 3) := by decide +kernel
theorem dX5_tick_138 : decode cX5_tick 138 = .ok (.iload_n 1, 1) := by decide +kernel
theorem dX5_tick_139 : decode cX5_tick 139 = .ok (.ireturn, 1) := by decide +kernel
def k_X5_tick : List pEn := [oAload 0, oDup, oGet 5 0, oConst (1), oAdd, oPut 5 0, oAload 0, oCallZ 1 F_X5_carryOutSchedule, oAload 0, oGet 5 11, oDup, oGet 0 0, oAload 0, oGet 5 14, oConst (0), oIaldN 0, oAdd, oPut 0 0, oAload 0, oAload 0, oGet 5 7, oAload 0, oGet 5 14, oConst (0), oIaldN 0, oAload 0, oGet 5 14, oConst (1), oIaldN 1, oCallZ 4 F_X5_pour, oPop, oAload 0, oCallZ 1 F_X5_feedMixing, oAload 0, oCallZ 1 F_X5_feedMachine, oAload 0, oGet 5 12, oAload 0, oGet 5 10, oCall 1 F_X1_consistency, oCall 2 F_X2_measure, oAload 0, oGet 5 12, oAload 0, oGet 5 14, oConst (5), oIaldN 5, oAload 0, oGet 5 14, oConst (4), oIaldN 4, oAload 0, oGet 5 14, oConst (6), oIaldN 6, oCall 4 F_X2_control, oAload 0, oCallZ 1 F_X5_makeSheet, oIstore 1, oAload 0, oConst (0), oAload 0, oGet 5 2, oConst (1), oSub, oMax, oPut 5 2, oAload 0, oConst (0), oAload 0, oGet 5 3, oConst (1), oSub, oMax, oPut 5 3, oAload 0, oCallZ 1 F_X5_noteSums, oIload 1, oZret]
def pc_X5_tick (i : Nat) : Nat := ([0, 1, 2, 5, 6, 7, 10, 11, 14, 15, 18, 19, 22, 23, 26, 27, 28, 29, 32, 33, 34, 37, 38, 41, 42, 43, 44, 47, 48, 49, 52, 53, 54, 57, 58, 61, 62, 65, 66, 69, 72, 75, 76, 79, 80, 83, 84, 85, 86, 89, 90, 91, 92, 95, 97, 98, 101, 102, 105, 106, 107, 108, 109, 112, 113, 114, 117, 120, 121, 122, 123, 126, 127, 128, 131, 134, 135, 138, 139] : List Nat).getD i 0
abbrev rm_X5_tick : Room := { frames := 4, cells := 0, slots := 0, locals := 95 }
theorem pl_X5_tick : pPlain yX5_tick 0 := by decide +kernel
set_option maxRecDepth 100000 in
set_option maxHeartbeats 4000000 in
theorem ok_k_X5_tick (l : Launch) : ∀ (i : Nat) (en : pEn), k_X5_tick[i]? = some en → EOK l cX5_tick yX5_tick.cls 2 ((some FieldType.boolean)) rm_X5_tick 0 pc_X5_tick i en := by
  refine allOK_at ?_
  refine And.intro (okAload_n dX5_tick_0 rfl rfl) ?_
  refine And.intro (okDup dX5_tick_1 rfl) ?_
  refine And.intro (okGet (C := RX5) (T := TX5) (N := 15) dX5_tick_2 rfl rfl (by decide) inX5 wm_1_152) ?_
  refine And.intro (okIconst dX5_tick_5 rfl (by first | rfl | decide)) ?_
  refine And.intro (okAdd dX5_tick_6 rfl) ?_
  refine And.intro (okPut (C := RX5) (T := TX5) (N := 15) dX5_tick_7 rfl rfl (by decide) inX5 tyX5_ok nmX5 rfl rfl wm_1_152) ?_
  refine And.intro (okAload_n dX5_tick_10 rfl rfl) ?_
  refine And.intro (okCallV (y := yX5_carryOutSchedule) (T := TX5) (oCallZ_is _ _ _) dX5_tick_11 rfl (ok_F_X5_carryOutSchedule l) rc_F_X5_carryOutSchedule rfl wm_2_221 wm_2_223 wp_6 wm_1_2 wm_2_224 pl_X5_carryOutSchedule (by decide)) ?_
  refine And.intro (okAload_n dX5_tick_14 rfl rfl) ?_
  refine And.intro (okGet (C := RX5) (T := TX5) (N := 15) dX5_tick_15 rfl rfl (by decide) inX5 wm_1_172) ?_
  refine And.intro (okDup dX5_tick_18 rfl) ?_
  refine And.intro (okGet (C := RX0) (T := TX0) (N := 6) dX5_tick_19 rfl rfl (by decide) inX0 wm_1_56) ?_
  refine And.intro (okAload_n dX5_tick_22 rfl rfl) ?_
  refine And.intro (okGet (C := RX5) (T := TX5) (N := 15) dX5_tick_23 rfl rfl (by decide) inX5 wm_1_178) ?_
  refine And.intro (okIconst dX5_tick_26 rfl (by first | rfl | decide)) ?_
  refine And.intro (okIaldN dX5_tick_27 rfl) ?_
  refine And.intro (okAdd dX5_tick_28 rfl) ?_
  refine And.intro (okPut (C := RX0) (T := TX0) (N := 6) dX5_tick_29 rfl rfl (by decide) inX0 tyX0_ok nmX0 rfl rfl wm_1_56) ?_
  refine And.intro (okAload_n dX5_tick_32 rfl rfl) ?_
  refine And.intro (okAload_n dX5_tick_33 rfl rfl) ?_
  refine And.intro (okGet (C := RX5) (T := TX5) (N := 15) dX5_tick_34 rfl rfl (by decide) inX5 wm_1_166) ?_
  refine And.intro (okAload_n dX5_tick_37 rfl rfl) ?_
  refine And.intro (okGet (C := RX5) (T := TX5) (N := 15) dX5_tick_38 rfl rfl (by decide) inX5 wm_1_178) ?_
  refine And.intro (okIconst dX5_tick_41 rfl (by first | rfl | decide)) ?_
  refine And.intro (okIaldN dX5_tick_42 rfl) ?_
  refine And.intro (okAload_n dX5_tick_43 rfl rfl) ?_
  refine And.intro (okGet (C := RX5) (T := TX5) (N := 15) dX5_tick_44 rfl rfl (by decide) inX5 wm_1_178) ?_
  refine And.intro (okIconst dX5_tick_47 rfl (by first | rfl | decide)) ?_
  refine And.intro (okIaldN dX5_tick_48 rfl) ?_
  refine And.intro (okCallV (y := yX5_pour) (T := TX5) (oCallZ_is _ _ _) dX5_tick_49 rfl (ok_F_X5_pour l) rc_F_X5_pour rfl wm_2_231 wm_2_135 wm_2_136 wm_1_2 wm_2_137 pl_X5_pour (by decide)) ?_
  refine And.intro (okPop dX5_tick_52 rfl) ?_
  refine And.intro (okAload_n dX5_tick_53 rfl rfl) ?_
  refine And.intro (okCallV (y := yX5_feedMixing) (T := TX5) (oCallZ_is _ _ _) dX5_tick_54 rfl (ok_F_X5_feedMixing l) rc_F_X5_feedMixing rfl wm_2_232 wm_2_234 wp_8 wm_1_2 wm_2_235 pl_X5_feedMixing (by decide)) ?_
  refine And.intro (okAload_n dX5_tick_57 rfl rfl) ?_
  refine And.intro (okCallV (y := yX5_feedMachine) (T := TX5) (oCallZ_is _ _ _) dX5_tick_58 rfl (ok_F_X5_feedMachine l) rc_F_X5_feedMachine rfl wm_3_7 wm_3_9 wp_10 wm_1_2 wm_3_10 pl_X5_feedMachine (by decide)) ?_
  refine And.intro (okAload_n dX5_tick_61 rfl rfl) ?_
  refine And.intro (okGet (C := RX5) (T := TX5) (N := 15) dX5_tick_62 rfl rfl (by decide) inX5 wm_1_174) ?_
  refine And.intro (okAload_n dX5_tick_65 rfl rfl) ?_
  refine And.intro (okGet (C := RX5) (T := TX5) (N := 15) dX5_tick_66 rfl rfl (by decide) inX5 wm_1_170) ?_
  refine And.intro (okCallV (y := yX1_consistency) (T := TX1) (oCall_is _ _ _) dX5_tick_69 rfl (ok_F_X1_consistency l) rc_F_X1_consistency rfl wm_3_11 wm_3_12 wm_3_13 wm_1_3 wm_3_14 pl_X1_consistency (by decide)) ?_
  refine And.intro (okCallV (y := yX2_measure) (T := TX2) (oCall_is _ _ _) dX5_tick_72 rfl (ok_F_X2_measure l) rc_F_X2_measure rfl wm_3_15 wm_3_16 wm_3_17 wm_1_5 wm_3_18 pl_X2_measure (by decide)) ?_
  refine And.intro (okAload_n dX5_tick_75 rfl rfl) ?_
  refine And.intro (okGet (C := RX5) (T := TX5) (N := 15) dX5_tick_76 rfl rfl (by decide) inX5 wm_1_174) ?_
  refine And.intro (okAload_n dX5_tick_79 rfl rfl) ?_
  refine And.intro (okGet (C := RX5) (T := TX5) (N := 15) dX5_tick_80 rfl rfl (by decide) inX5 wm_1_178) ?_
  refine And.intro (okIconst dX5_tick_83 rfl (by first | rfl | decide)) ?_
  refine And.intro (okIaldN dX5_tick_84 rfl) ?_
  refine And.intro (okAload_n dX5_tick_85 rfl rfl) ?_
  refine And.intro (okGet (C := RX5) (T := TX5) (N := 15) dX5_tick_86 rfl rfl (by decide) inX5 wm_1_178) ?_
  refine And.intro (okIconst dX5_tick_89 rfl (by first | rfl | decide)) ?_
  refine And.intro (okIaldN dX5_tick_90 rfl) ?_
  refine And.intro (okAload_n dX5_tick_91 rfl rfl) ?_
  refine And.intro (okGet (C := RX5) (T := TX5) (N := 15) dX5_tick_92 rfl rfl (by decide) inX5 wm_1_178) ?_
  refine And.intro (okBipush dX5_tick_95 rfl (by first | rfl | decide)) ?_
  refine And.intro (okIaldN dX5_tick_97 rfl) ?_
  refine And.intro (okCallV (y := yX2_control) (T := TX2) (oCall_is _ _ _) dX5_tick_98 rfl (ok_F_X2_control l) rc_F_X2_control rfl wm_3_20 wm_3_21 wm_3_22 wm_1_5 wm_3_23 pl_X2_control (by decide)) ?_
  refine And.intro (okAload_n dX5_tick_101 rfl rfl) ?_
  refine And.intro (okCallV (y := yX5_makeSheet) (T := TX5) (oCallZ_is _ _ _) dX5_tick_102 rfl (ok_F_X5_makeSheet l) rc_F_X5_makeSheet rfl wm_3_25 wm_3_27 wp_11 wm_1_2 wm_3_28 pl_X5_makeSheet (by decide)) ?_
  refine And.intro (okIstore_n dX5_tick_105 rfl rfl (by decide)) ?_
  refine And.intro (okAload_n dX5_tick_106 rfl rfl) ?_
  refine And.intro (okIconst dX5_tick_107 rfl (by first | rfl | decide)) ?_
  refine And.intro (okAload_n dX5_tick_108 rfl rfl) ?_
  refine And.intro (okGet (C := RX5) (T := TX5) (N := 15) dX5_tick_109 rfl rfl (by decide) inX5 wm_1_156) ?_
  refine And.intro (okIconst dX5_tick_112 rfl (by first | rfl | decide)) ?_
  refine And.intro (okSub dX5_tick_113 rfl) ?_
  refine And.intro (okMax dX5_tick_114 rfl wm_2_114 wm_2_115 wm_1_11 wm_2_116 (by decide) (by decide)) ?_
  refine And.intro (okPut (C := RX5) (T := TX5) (N := 15) dX5_tick_117 rfl rfl (by decide) inX5 tyX5_ok nmX5 rfl rfl wm_1_156) ?_
  refine And.intro (okAload_n dX5_tick_120 rfl rfl) ?_
  refine And.intro (okIconst dX5_tick_121 rfl (by first | rfl | decide)) ?_
  refine And.intro (okAload_n dX5_tick_122 rfl rfl) ?_
  refine And.intro (okGet (C := RX5) (T := TX5) (N := 15) dX5_tick_123 rfl rfl (by decide) inX5 wm_1_158) ?_
  refine And.intro (okIconst dX5_tick_126 rfl (by first | rfl | decide)) ?_
  refine And.intro (okSub dX5_tick_127 rfl) ?_
  refine And.intro (okMax dX5_tick_128 rfl wm_2_114 wm_2_115 wm_1_11 wm_2_116 (by decide) (by decide)) ?_
  refine And.intro (okPut (C := RX5) (T := TX5) (N := 15) dX5_tick_131 rfl rfl (by decide) inX5 tyX5_ok nmX5 rfl rfl wm_1_158) ?_
  refine And.intro (okAload_n dX5_tick_134 rfl rfl) ?_
  refine And.intro (okCallV (y := yX5_noteSums) (T := TX5) (oCallZ_is _ _ _) dX5_tick_135 rfl (ok_F_X5_noteSums l) rc_F_X5_noteSums rfl wm_3_33 wm_3_35 wp_13 wm_1_2 wm_3_36 pl_X5_noteSums (by decide)) ?_
  refine And.intro (okIload_n dX5_tick_138 rfl rfl) ?_
  refine And.intro (okZret dX5_tick_139 rfl) ?_
  exact trivial
def G_X5_tick : pG := fun args w => match args with
  | [.ref 0] => unL 0 w (fun v => some (some (.int (tickZ v)), loopCells 0 (tickV v)))
  | _ => none
set_option maxHeartbeats 400000 in
set_option maxRecDepth 100000 in
theorem run_X5_tick (rg : pRg) (v : pLV)  : ∃ fu, ex k_X5_tick fu 0 [(0, .ref 0)] [] (loopCells 0 v) rg = some (some (.int (tickZ v)), loopCells 0 (tickV v), rg) := by
  refine ⟨60, ?_⟩
  conv => lhs; whnf
  refine (callK_v (cl_X5_carryOutSchedule (vS v 0 (v 0 0 + 1)) rg) rfl).trans ?_
  unfold tickV tickZ tk1
  generalize cryV (NL (vS v 0 (v 0 0 + 1))) = x1
  revert x1; refine id ?_; intro x1
  conv => lhs; whnf
  refine (callK_r (cl_X5_pour0 (vS x1 22 (x1 0 22 + x1 1 0)) (x1 1 0) (x1 1 1) rg) rfl).trans ?_
  unfold tk2
  generalize pourV 0 (NL (vS x1 22 (x1 0 22 + x1 1 0))) (x1 1 0) (x1 1 1) = x2
  revert x2; refine id ?_; intro x2
  conv => lhs; whnf
  refine (callK_v (cl_X5_feedMixing x2 rg) rfl).trans ?_
  generalize mixV (NL x2) = x3
  revert x3; refine id ?_; intro x3
  conv => lhs; whnf
  refine (callK_v (cl_X5_feedMachine x3 rg) rfl).trans ?_
  generalize mchV (NL x3) = x4
  revert x4; refine id ?_; intro x4
  conv => lhs; whnf
  refine (callK_r (cl_X5_makeSheet (tk6 (tk5 x4)) rg) rfl).trans ?_
  have hz := shtZ_01 (NL (tk6 (tk5 x4)))
  revert hz
  generalize shtZ (NL (tk6 (tk5 x4))) = z
  generalize shtV (NL (tk6 (tk5 x4))) = x7
  revert x7 z; refine id ?_; intro z x7 hz
  conv => lhs; whnf
  refine (callK_v (cl_X5_noteSums (tk8 x7) rg) rfl).trans ?_
  generalize smV (NL (tk8 x7)) = x9
  revert x9; refine id ?_; intro x9
  conv => lhs; whnf
  refine (pif_t hz).trans ?_
  rfl
theorem ct_X5_tick (l : Launch) : ∀ args0 w0 v0 w1 rg, G_X5_tick args0 w0 = some (v0, w1) → pCT l yX5_tick (pWs yX5_tick cX5_tick 2 ((some FieldType.boolean))) rm_X5_tick args0 w0 rg (v0, w1, rg) := by
  intro args0 w0 v0 w1 rg h
  unfold G_X5_tick at h
  split at h
  next  =>
    obtain ⟨v, hw, h2⟩ := unL_some h
    clear h
    subst hw
    cases h2
    exact met_of_exL (by decide) (ok_k_X5_tick l) rfl (run_X5_tick rg v ) (Nat.le_of_ble_eq_true rfl) rfl rfl
  next => cases h
def F_X5_tick : pF := fz (faN G_X5_tick)
theorem ok_F_X5_tick (l : Launch) : pFOK l yX5_tick (pWs yX5_tick cX5_tick 2 ((some FieldType.boolean))) rm_X5_tick F_X5_tick := pFOK_fz (pFOK_fa (fun a b c d rg h => ct_X5_tick l a b c d rg h))
theorem rc_F_X5_tick : pRcv 5 F_X5_tick := pRcv_fz (pRcv_fa (fun a b c d h => by
  unfold G_X5_tick at h
  split at h
  next =>
    obtain ⟨v, rfl, h⟩ := unL_some h
    exact ⟨_, _, _, rfl, rfl⟩
  next => cases h))
theorem cl_X5_tick (v : pLV)  (rg : pRg) : F_X5_tick [.ref 0] (loopCells 0 v) rg = some (some (.int (tickZ (NL v))), loopCells 0 (tickV (NL v)), rg) := (fz_eq _ _ _ _).trans rfl
def Fb_X5_tick : pF := frN G_X5_tick
theorem ok_Fb_X5_tick (l : Launch) : pFOK l yX5_tick (pWs yX5_tick cX5_tick 2 ((some FieldType.boolean))) rm_X5_tick Fb_X5_tick := pFOK_fr (fun a b c d h => ct_X5_tick l a b c d rg00 h) (fun a b c d h => by
  unfold G_X5_tick at h
  split at h
  next =>
    obtain ⟨v, rfl, h⟩ := unL_some h
    exact Nat.le_of_ble_eq_true rfl
  next => cases h)
theorem rc_Fb_X5_tick : pRcv 5 Fb_X5_tick := pRcv_fr (fun a b c d h => by
  unfold G_X5_tick at h
  split at h
  next =>
    obtain ⟨v, rfl, h⟩ := unL_some h
    exact Nat.le_of_ble_eq_true rfl
  next => cases h) (fun a b c d h => by
  unfold G_X5_tick at h
  split at h
  next =>
    obtain ⟨v, rfl, h⟩ := unL_some h
    exact ⟨_, _, _, rfl, rfl⟩
  next => cases h)
end
end
section
noncomputable section
def tickI : Nat → pLV → pLV
  | 0, v => v
  | k + 1, v => tickV (NL (tickI k v))
theorem dX5_doTicks_0 : decode cX5_doTicks 0 = .ok (.aload_n 0, 1) := by decide +kernel
theorem dX5_doTicks_1 : decode cX5_doTicks 1 = .ok (.getfield 54, 3) := by decide +kernel
theorem dX5_doTicks_4 : decode cX5_doTicks 4 = .ok (.invokevirtual 122, 3) := by decide +kernel
theorem dX5_doTicks_7 : decode cX5_doTicks 7 = .ok (.istore_n 2, 1) := by decide +kernel
theorem dX5_doTicks_8 : decode cX5_doTicks 8 = .ok (.iconst 0, 1) := by decide +kernel
theorem dX5_doTicks_9 : decode cX5_doTicks 9 = .ok (.istore_n 3, 1) := by decide +kernel
theorem dX5_doTicks_10 : decode cX5_doTicks 10 = .ok (.iload_n 3, 1) := by decide +kernel
theorem dX5_doTicks_11 : decode cX5_doTicks 11 = .ok (.iload_n 1, 1) := by decide +kernel
theorem dX5_doTicks_12 : decode cX5_doTicks 12 = .ok (.if_icmp .ge 14, 3) := by decide +kernel
theorem dX5_doTicks_15 : decode cX5_doTicks 15 = .ok (.aload_n 0, 1) := by decide +kernel
theorem dX5_doTicks_16 : decode cX5_doTicks 16 = .ok (.invokevirtual 126, 3) := by decide +kernel
theorem dX5_doTicks_19 : decode cX5_doTicks 19 = .ok (.pop, 1) := by decide +kernel
theorem dX5_doTicks_20 : decode cX5_doTicks 20 = .ok (.iinc 3 1, 3) := by decide +kernel
theorem dX5_doTicks_23 : decode cX5_doTicks 23 = .ok (.goto (-13), 3) := by decide +kernel
theorem dX5_doTicks_26 : decode cX5_doTicks 26 = .ok (.aload_n 0, 1) := by decide +kernel
theorem dX5_doTicks_27 : decode cX5_doTicks 27 = .ok (.getfield 54, 3) := by decide +kernel
theorem dX5_doTicks_30 : decode cX5_doTicks 30 = .ok (.invokevirtual 122, 3) := by decide +kernel
theorem dX5_doTicks_33 : decode cX5_doTicks 33 = .ok (.iload_n 2, 1) := by decide +kernel
theorem dX5_doTicks_34 : decode cX5_doTicks 34 = .ok (.isub, 1) := by decide +kernel
theorem dX5_doTicks_35 : decode cX5_doTicks 35 = .ok (.ireturn, 1) := by decide +kernel
def k_X5_doTicks : List pEn := [oAload 0, oGet 5 11, oCall 1 F_X0_paperOfAll, oIstore 2, oConst (0), oIstore 3, oIload 3, oIload 1, oCge 14, oAload 0, oCallZ 1 F_X5_tick, oPop, oIinc 3 (1), oGoto 6, oAload 0, oGet 5 11, oCall 1 F_X0_paperOfAll, oIload 2, oSub, oIret]
def pc_X5_doTicks (i : Nat) : Nat := ([0, 1, 4, 7, 8, 9, 10, 11, 12, 15, 16, 19, 20, 23, 26, 27, 30, 33, 34, 35] : List Nat).getD i 0
abbrev rm_X5_doTicks : Room := { frames := 5, cells := 0, slots := 0, locals := 116 }
theorem pl_X5_doTicks : pPlain yX5_doTicks 1 := by decide +kernel
set_option maxRecDepth 100000 in
set_option maxHeartbeats 4000000 in
theorem ok_k_X5_doTicks (l : Launch) : ∀ (i : Nat) (en : pEn), k_X5_doTicks[i]? = some en → EOK l cX5_doTicks yX5_doTicks.cls 4 ((some FieldType.int)) rm_X5_doTicks 0 pc_X5_doTicks i en := by
  refine allOK_at ?_
  refine And.intro (okAload_n dX5_doTicks_0 rfl rfl) ?_
  refine And.intro (okGet (C := RX5) (T := TX5) (N := 15) dX5_doTicks_1 rfl rfl (by decide) inX5 wm_1_172) ?_
  refine And.intro (okCallV (y := yX0_paperOfAll) (T := TX0) (oCall_is _ _ _) dX5_doTicks_4 rfl (ok_F_X0_paperOfAll l) rc_F_X0_paperOfAll rfl wm_2_213 wm_2_214 wm_2_215 wm_1_4 wm_2_216 pl_X0_paperOfAll (by decide)) ?_
  refine And.intro (okIstore_n dX5_doTicks_7 rfl rfl (by decide)) ?_
  refine And.intro (okIconst dX5_doTicks_8 rfl (by first | rfl | decide)) ?_
  refine And.intro (okIstore_n dX5_doTicks_9 rfl rfl (by decide)) ?_
  refine And.intro (okIload_n dX5_doTicks_10 rfl rfl) ?_
  refine And.intro (okIload_n dX5_doTicks_11 rfl rfl) ?_
  refine And.intro (okCge dX5_doTicks_12 rfl (by rfl)) ?_
  refine And.intro (okAload_n dX5_doTicks_15 rfl rfl) ?_
  refine And.intro (okCallV (y := yX5_tick) (T := TX5) (oCallZ_is _ _ _) dX5_doTicks_16 rfl (ok_F_X5_tick l) rc_F_X5_tick rfl wm_2_217 wm_2_218 wm_2_219 wm_1_2 wm_2_220 pl_X5_tick (by decide)) ?_
  refine And.intro (okPop dX5_doTicks_19 rfl) ?_
  refine And.intro (okIinc dX5_doTicks_20 rfl (by first | rfl | decide) (by decide)) ?_
  refine And.intro (okGoto dX5_doTicks_23 (by rfl)) ?_
  refine And.intro (okAload_n dX5_doTicks_26 rfl rfl) ?_
  refine And.intro (okGet (C := RX5) (T := TX5) (N := 15) dX5_doTicks_27 rfl rfl (by decide) inX5 wm_1_172) ?_
  refine And.intro (okCallV (y := yX0_paperOfAll) (T := TX0) (oCall_is _ _ _) dX5_doTicks_30 rfl (ok_F_X0_paperOfAll l) rc_F_X0_paperOfAll rfl wm_2_213 wm_2_214 wm_2_215 wm_1_4 wm_2_216 pl_X0_paperOfAll (by decide)) ?_
  refine And.intro (okIload_n dX5_doTicks_33 rfl rfl) ?_
  refine And.intro (okSub dX5_doTicks_34 rfl) ?_
  refine And.intro (okIret dX5_doTicks_35 rfl) ?_
  exact trivial
set_option maxHeartbeats 800000 in
theorem lp_ticks (rg : pRg) (v : pLV) (n b : Int32) : ∀ (d k : Nat), k + d = n.toNatClampNeg → ∃ m, ex k_X5_doTicks m 6 [(3, .int (nI k)), (2, .int b), (0, .ref 0), (1, .int n)] [] (loopCells 0 (tickI k v)) rg = some (some (.int (sumP (tickI n.toNatClampNeg v 2) 4 - b)), loopCells 0 (tickI n.toNatClampNeg v), rg) := by
  have hn : n.toNatClampNeg < 2 ^ 31 := by
    have h1 : n.toNatClampNeg = n.toInt.toNat := rfl
    have h2 : n.toInt < 2 ^ 31 := Int32.toInt_lt n
    omega
  intro d
  induction d with
  | zero =>
    intro k hk
    obtain rfl : k = n.toNatClampNeg := by omega
    refine ⟨5, ?_⟩
    conv => lhs; whnf
    refine (pif_t (clamp_ge (Nat.le_refl _) hn)).trans ?_
    rfl
  | succ d ih =>
    intro k hk
    obtain ⟨m, hm⟩ := ih (k + 1) (by omega)
    refine ⟨m + 1, ?_⟩
    conv => lhs; whnf
    refine (pif_f (clamp_le (by omega))).trans ?_
    conv => lhs; whnf
    refine (callK_r (cl_X5_tick (tickI k v) rg) rfl).trans ?_
    conv => lhs; whnf
    rw [nI_1]
    exact hm
end
end
section
noncomputable section
def G_X5_doTicks : pG := fun args w => match args with
  | [.ref 0, .int n] => unL 0 w (fun v => some (some (.int (sumP (tickI n.toNatClampNeg v 2) 4 - sumP (v 2) 4)), loopCells 0 (tickI n.toNatClampNeg v)))
  | _ => none
set_option maxHeartbeats 400000 in
set_option maxRecDepth 100000 in
theorem run_X5_doTicks (rg : pRg) (v : pLV) (n : Int32) : ∃ fu, ex k_X5_doTicks fu 0 [(0, .ref 0), (1, .int n)] [] (loopCells 0 v) rg = some (some (.int (sumP (tickI n.toNatClampNeg v 2) 4 - sumP (v 2) 4)), loopCells 0 (tickI n.toNatClampNeg v), rg) := by
  have h := lp_ticks rg v n (sumP (v 2) 4) n.toNatClampNeg 0 (by omega)
  exact ex_at h (fun _ => rfl)
theorem ct_X5_doTicks (l : Launch) : ∀ args0 w0 v0 w1 rg, G_X5_doTicks args0 w0 = some (v0, w1) → pCT l yX5_doTicks (pWs yX5_doTicks cX5_doTicks 4 ((some FieldType.int))) rm_X5_doTicks args0 w0 rg (v0, w1, rg) := by
  intro args0 w0 v0 w1 rg h
  unfold G_X5_doTicks at h
  split at h
  next n =>
    obtain ⟨v, hw, h2⟩ := unL_some h
    clear h
    subst hw
    cases h2
    exact met_of_exL (by decide) (ok_k_X5_doTicks l) rfl (run_X5_doTicks rg v n) (Nat.le_of_ble_eq_true rfl) rfl rfl
  next => cases h
def Fb_X5_doTicks : pF := frN G_X5_doTicks
theorem ok_Fb_X5_doTicks (l : Launch) : pFOK l yX5_doTicks (pWs yX5_doTicks cX5_doTicks 4 ((some FieldType.int))) rm_X5_doTicks Fb_X5_doTicks := pFOK_fr (fun a b c d h => ct_X5_doTicks l a b c d rg00 h) (fun a b c d h => by
  unfold G_X5_doTicks at h
  split at h
  next =>
    obtain ⟨v, rfl, h⟩ := unL_some h
    exact Nat.le_of_ble_eq_true rfl
  next => cases h)
theorem rc_Fb_X5_doTicks : pRcv 5 Fb_X5_doTicks := pRcv_fr (fun a b c d h => by
  unfold G_X5_doTicks at h
  split at h
  next =>
    obtain ⟨v, rfl, h⟩ := unL_some h
    exact Nat.le_of_ble_eq_true rfl
  next => cases h) (fun a b c d h => by
  unfold G_X5_doTicks at h
  split at h
  next =>
    obtain ⟨v, rfl, h⟩ := unL_some h
    exact ⟨_, _, _, rfl, rfl⟩
  next => cases h)
end
end
section
noncomputable section
/-! THE REFERENCE'S CELLS AS ONE VALUE: m 0 its fields by their numbers, m 1 .. m 6 its rows w, past, images, text, readEntry, held -/
def mdl (m : pLV) : pWd :=
  [.inr (9, [.ref 1, .ref 2, .int (m 0 2), .ref 3, .int (m 0 4), .ref 4, .int (m 0 6), .int (m 0 7), .int (m 0 8), .int (m 0 9), .int (m 0 10), .int (m 0 11), .int (m 0 12), .int (m 0 13), .ref 5, .int (m 0 15), .int (m 0 16), .int (m 0 17), .int (m 0 18), .int (m 0 19), .int (m 0 20), .ref 6]),
   .inl (0, 110, .inl (m 1)), .inl (0, 880, .inl (m 2)), .inl (0, 220, .inl (m 3)), .inl (0, 120, .inl (m 4)), .inl (0, 60, .inl (m 5)), .inl (0, 110, .inl (m 6))]
def NM (m : pLV) : pLV := mkL [0, 0, m 0 2, 0, m 0 4, 0, m 0 6, m 0 7, m 0 8, m 0 9, m 0 10, m 0 11, m 0 12, m 0 13, 0, m 0 15, m 0 16, m 0 17, m 0 18, m 0 19, m 0 20] (m 1) (m 2) (m 3) (m 4) (m 5) (m 6)
theorem mdl_len (m : pLV) : (mdl m).length = 7 := rfl
def unM {X : Type} (w : pWd) (c : pLV → Option X) : Option X := match w with
  | [c0, c1, c2, c3, c4, c5, c6] => (match c0 with | .inr (i0, [.ref q1, .ref q2, .int s2, .ref q3, .int s4, .ref q4, .int s6, .int s7, .int s8, .int s9, .int s10, .int s11, .int s12, .int s13, .ref q5, .int s15, .int s16, .int s17, .int s18, .int s19, .int s20, .ref q6]) => (match c1 with | .inl (i1, n1, .inl f1) => (match c2 with | .inl (i2, n2, .inl f2) => (match c3 with | .inl (i3, n3, .inl f3) => (match c4 with | .inl (i4, n4, .inl f4) => (match c5 with | .inl (i5, n5, .inl f5) => (match c6 with | .inl (i6, n6, .inl f6) => (match chk [i0, q1, q2, q3, q4, q5, q6, i1, n1, i2, n2, i3, n3, i4, n4, i5, n5, i6, n6] [9, 1, 2, 3, 4, 5, 6, 0, 110, 0, 880, 0, 220, 0, 120, 0, 60, 0, 110] with | true => c (mkL [0, 0, s2, 0, s4, 0, s6, s7, s8, s9, s10, s11, s12, s13, 0, s15, s16, s17, s18, s19, s20] f1 f2 f3 f4 f5 f6) | false => none) | _ => none) | _ => none) | _ => none) | _ => none) | _ => none) | _ => none) | _ => none)
  | _ => none
set_option maxHeartbeats 4000000 in
theorem unM_some {X : Type} {w : pWd} {c : pLV → Option X} {o : X} (h : unM w c = some o) : ∃ m, w = mdl m ∧ c m = some o := by
  unfold unM at h
  split at h
  next c0 c1 c2 c3 c4 c5 c6 =>
    split at h
    next i0 q1 q2 s2 q3 s4 q4 s6 s7 s8 s9 s10 s11 s12 s13 q5 s15 s16 s17 s18 s19 s20 q6 =>
      split at h
      next i1 n1 f1 =>
        split at h
        next i2 n2 f2 =>
          split at h
          next i3 n3 f3 =>
            split at h
            next i4 n4 f4 =>
              split at h
              next i5 n5 f5 =>
                split at h
                next i6 n6 f6 =>
                  split at h
                  next hc =>
                    have hc := chk_eq hc
                    simp only [List.cons.injEq, and_true] at hc
                    obtain ⟨rfl, rfl, rfl, rfl, rfl, rfl, rfl, rfl, rfl, rfl, rfl, rfl, rfl, rfl, rfl, rfl, rfl, rfl, rfl⟩ := hc
                    exact ⟨_, rfl, h⟩
                  next => cases h
                next => cases h
              next => cases h
            next => cases h
          next => cases h
        next => cases h
      next => cases h
    next => cases h
  next => cases h
theorem met_of_exM {l : Launch} {y : MethodName} {cc : ByteArray} {nL : Nat} {ret : Option FieldType} {rm : Room} {pcOf : Nat → Nat} {code : List pEn} (hy : plainName y.cls = true)
    (hc : ∀ (i : Nat) (en : pEn), code[i]? = some en → EOK l cc y.cls nL ret rm 0 pcOf i en) (hp0 : pcOf 0 = 0)
    {args : List Value} {m m' : pLV} {rg : pRg} {res : Option Value} (hrun : ∃ n, ex code n 0 (lv_args 0 args) [] (mdl m) rg = some (res, mdl m', rg)) (hsl : (lg_sl args).length ≤ nL) (hrc : rm.cells = 0) (hrs : rm.slots = 0) :
    pCT l y (pWs y cc nL ret) rm args (mdl m) rg (res, mdl m', rg) :=
  met_of_ex hy hc hp0 hrun hsl rfl (by dsimp only; rw [mdl_len, mdl_len]; exact Nat.le_refl _) (by dsimp only; rw [mdl_len]; omega) (Nat.zero_le _) (by dsimp only; rw [mdl_len, mdl_len]; exact hrc) (by dsimp only; rw [mdl_len, mdl_len]; exact hrs)
theorem met_of_exMe {l : Launch} {y : MethodName} {cc : ByteArray} {nL : Nat} {ret : Option FieldType} {rm : Room} {pcOf : Nat → Nat} {code : List pEn} (hy : plainName y.cls = true)
    (hc : ∀ (i : Nat) (en : pEn), code[i]? = some en → EOK l cc y.cls nL ret rm 0 pcOf i en) (hp0 : pcOf 0 = 0)
    {args : List Value} {m m' m2 : pLV} {rg : pRg} {res : Option Value} (hrun : ∃ n, ex code n 0 (lv_args 0 args) [] (mdl m) rg = some (res, mdl m', rg)) (he : pWEq (mdl m') (mdl m2)) (hsl : (lg_sl args).length ≤ nL) (hrc : rm.cells = 0) (hrs : rm.slots = 0) :
    pCT l y (pWs y cc nL ret) rm args (mdl m) rg (res, mdl m2, rg) := pCT_eqv (met_of_exM hy hc hp0 hrun hsl hrc hrs) he
/-- the reference's rows count within their lengths -/
theorem mdl_eq {m m' : pLV} (h0 : ∀ k, k < 21 → m 0 k = m' 0 k) (h1 : ∀ j, j < 110 → m 1 j = m' 1 j) (h2 : ∀ j, j < 880 → m 2 j = m' 2 j) (h3 : ∀ j, j < 220 → m 3 j = m' 3 j) (h4 : ∀ j, j < 120 → m 4 j = m' 4 j) (h5 : ∀ j, j < 60 → m 5 j = m' 5 j) (h6 : ∀ j, j < 110 → m 6 j = m' 6 j) : pWEq (mdl m) (mdl m') := by
  refine ⟨rfl, fun k x hx => ?_⟩
  match k, hx with
  | 0, hx =>
    cases hx
    refine ⟨_, rfl, Or.inl ?_⟩
    simp only [mdl, h0 2 (by omega), h0 4 (by omega), h0 6 (by omega), h0 7 (by omega), h0 8 (by omega), h0 9 (by omega), h0 10 (by omega), h0 11 (by omega), h0 12 (by omega), h0 13 (by omega), h0 15 (by omega), h0 16 (by omega), h0 17 (by omega), h0 18 (by omega), h0 19 (by omega), h0 20 (by omega)]
  | 1, hx => cases hx; exact ⟨_, rfl, Or.inr ⟨0, 110, _, _, rfl, rfl, h1⟩⟩
  | 2, hx => cases hx; exact ⟨_, rfl, Or.inr ⟨0, 880, _, _, rfl, rfl, h2⟩⟩
  | 3, hx => cases hx; exact ⟨_, rfl, Or.inr ⟨0, 220, _, _, rfl, rfl, h3⟩⟩
  | 4, hx => cases hx; exact ⟨_, rfl, Or.inr ⟨0, 120, _, _, rfl, rfl, h4⟩⟩
  | 5, hx => cases hx; exact ⟨_, rfl, Or.inr ⟨0, 60, _, _, rfl, rfl, h5⟩⟩
  | 6, hx => cases hx; exact ⟨_, rfl, Or.inr ⟨0, 110, _, _, rfl, rfl, h6⟩⟩
  | k + 7, hx => cases hx
end
end
section
noncomputable section
/-! THE REFERENCE -/
def inI (v a b : Int32) : Int32 := if v < a then 0 else if b < v then 0 else 1
theorem inI_01 (v a b : Int32) : inI v a b = 0 ∨ inI v a b = 1 := by
  unfold inI
  split
  · exact Or.inl rfl
  · split
    · exact Or.inl rfl
    · exact Or.inr rfl
theorem dX9_isIn_0 : decode cX9_isIn 0 = .ok (.iload_n 0, 1) := by decide +kernel
theorem dX9_isIn_1 : decode cX9_isIn 1 = .ok (.iload_n 1, 1) := by decide +kernel
theorem dX9_isIn_2 : decode cX9_isIn 2 = .ok (.if_icmp .lt 12, 3) := by decide +kernel
theorem dX9_isIn_5 : decode cX9_isIn 5 = .ok (.iload_n 0, 1) := by decide +kernel
theorem dX9_isIn_6 : decode cX9_isIn 6 = .ok (.iload_n 2, 1) := by decide +kernel
theorem dX9_isIn_7 : decode cX9_isIn 7 = .ok (.if_icmp .gt 7, 3) := by decide +kernel
theorem dX9_isIn_10 : decode cX9_isIn 10 = .ok (.iconst 1, 1) := by decide +kernel
theorem dX9_isIn_11 : decode cX9_isIn 11 = .ok (.goto 4, 3) := by decide +kernel
theorem dX9_isIn_14 : decode cX9_isIn 14 = .ok (.iconst 0, 1) := by decide +kernel
theorem dX9_isIn_15 : decode cX9_isIn 15 = .ok (.ireturn, 1) := by decide +kernel
def k_X9_isIn : List pEn := [oIload 0, oIload 1, oClt 8, oIload 0, oIload 2, oCgt 8, oConst (1), oGoto 9, oConst (0), oZret]
def pc_X9_isIn (i : Nat) : Nat := ([0, 1, 2, 5, 6, 7, 10, 11, 14, 15] : List Nat).getD i 0
abbrev rm_X9_isIn : Room := { frames := 0, cells := 0, slots := 0, locals := 0 }
theorem pl_X9_isIn : pPlain yX9_isIn 3 := by decide +kernel
set_option maxRecDepth 100000 in
set_option maxHeartbeats 4000000 in
theorem ok_k_X9_isIn (l : Launch) : ∀ (i : Nat) (en : pEn), k_X9_isIn[i]? = some en → EOK l cX9_isIn yX9_isIn.cls 3 ((some FieldType.boolean)) rm_X9_isIn 0 pc_X9_isIn i en := by
  refine allOK_at ?_
  refine And.intro (okIload_n dX9_isIn_0 rfl rfl) ?_
  refine And.intro (okIload_n dX9_isIn_1 rfl rfl) ?_
  refine And.intro (okClt dX9_isIn_2 rfl (by rfl)) ?_
  refine And.intro (okIload_n dX9_isIn_5 rfl rfl) ?_
  refine And.intro (okIload_n dX9_isIn_6 rfl rfl) ?_
  refine And.intro (okCgt dX9_isIn_7 rfl (by rfl)) ?_
  refine And.intro (okIconst dX9_isIn_10 rfl (by first | rfl | decide)) ?_
  refine And.intro (okGoto dX9_isIn_11 (by rfl)) ?_
  refine And.intro (okIconst dX9_isIn_14 rfl (by first | rfl | decide)) ?_
  refine And.intro (okZret dX9_isIn_15 rfl) ?_
  exact trivial
def G_X9_isIn : pG := fun args w => match args, w with
  | [.int v, .int a, .int b], [] => some (some (.int (inI v a b)), [])
  | _, _ => none
set_option maxHeartbeats 400000 in
set_option maxRecDepth 100000 in
theorem run_X9_isIn (rg : pRg) (v a b : Int32) : ∃ fu, ex k_X9_isIn fu 0 [(0, .int v), (1, .int a), (2, .int b)] [] [] rg = some (some (.int (inI v a b)), [], rg) := by
  refine ⟨40, ?_⟩
  conv => lhs; whnf
  refine pif_c (fun h => ?_) (fun h => ?_)
  · conv => lhs; whnf
    refine (pif_t (by decide)).trans ?_
    simp only [inI, if_pos h] <;> rfl
  · conv => lhs; whnf
    refine pif_c (fun h2 => ?_) (fun h2 => ?_)
    · conv => lhs; whnf
      refine (pif_t (by decide)).trans ?_
      simp only [inI, if_neg h, if_pos h2] <;> rfl
    · conv => lhs; whnf
      refine (pif_t (by decide)).trans ?_
      simp only [inI, if_neg h, if_neg h2] <;> rfl
theorem ct_X9_isIn (l : Launch) : ∀ args0 w0 v0 w1 rg, G_X9_isIn args0 w0 = some (v0, w1) → pCT l yX9_isIn (pWs yX9_isIn cX9_isIn 3 ((some FieldType.boolean))) rm_X9_isIn args0 w0 rg (v0, w1, rg) := by
  intro args0 w0 v0 w1 rg h
  unfold G_X9_isIn at h
  split at h
  next =>
    cases h
    exact met_of_ex (by decide) (ok_k_X9_isIn l) rfl (run_X9_isIn rg _ _ _) (Nat.le_of_ble_eq_true rfl) rfl (Nat.le_refl _) (Nat.le_of_ble_eq_true rfl) (Nat.zero_le _) rfl rfl
  next => cases h
def F_X9_isIn : pF := frN G_X9_isIn
theorem ok_F_X9_isIn (l : Launch) : pFOK l yX9_isIn (pWs yX9_isIn cX9_isIn 3 ((some FieldType.boolean))) rm_X9_isIn F_X9_isIn := pFOK_fr (fun a b c d h => ct_X9_isIn l a b c d rg00 h) (fun a b c d h => by
  unfold G_X9_isIn at h
  split at h
  next => simp
  next => cases h)
end
end
section
noncomputable section
theorem dX9_isChest_0 : decode cX9_isChest 0 = .ok (.iload_n 0, 1) := by decide +kernel
theorem dX9_isChest_1 : decode cX9_isChest 1 = .ok (.iconst 0, 1) := by decide +kernel
theorem dX9_isChest_2 : decode cX9_isChest 2 = .ok (.iconst 3, 1) := by decide +kernel
theorem dX9_isChest_3 : decode cX9_isChest 3 = .ok (.invokestatic 41, 3) := by decide +kernel
theorem dX9_isChest_6 : decode cX9_isChest 6 = .ok (.ireturn, 1) := by decide +kernel
def k_X9_isChest : List pEn := [oIload 0, oConst (0), oConst (3), oCall 3 F_X9_isIn, oZret]
def pc_X9_isChest (i : Nat) : Nat := ([0, 1, 2, 3, 6] : List Nat).getD i 0
abbrev rm_X9_isChest : Room := { frames := 1, cells := 0, slots := 0, locals := 22 }
theorem pl_X9_isChest : pPlain yX9_isChest 1 := by decide +kernel
set_option maxRecDepth 100000 in
set_option maxHeartbeats 4000000 in
theorem ok_k_X9_isChest (l : Launch) : ∀ (i : Nat) (en : pEn), k_X9_isChest[i]? = some en → EOK l cX9_isChest yX9_isChest.cls 1 ((some FieldType.boolean)) rm_X9_isChest 0 pc_X9_isChest i en := by
  refine allOK_at ?_
  refine And.intro (okIload_n dX9_isChest_0 rfl rfl) ?_
  refine And.intro (okIconst dX9_isChest_1 rfl (by first | rfl | decide)) ?_
  refine And.intro (okIconst dX9_isChest_2 rfl (by first | rfl | decide)) ?_
  refine And.intro (okCallS (y := yX9_isIn) (oCall_is _ _ _) dX9_isChest_3 rfl (ok_F_X9_isIn l) wm_3_223 wm_3_224 wm_1_10 wm_3_225 pl_X9_isIn (by decide)) ?_
  refine And.intro (okZret dX9_isChest_6 rfl) ?_
  exact trivial
def G_X9_isChest : pG := fun args w => match args, w with
  | [.int v], [] => some (some (.int (inI v 0 3)), [])
  | _, _ => none
set_option maxHeartbeats 400000 in
set_option maxRecDepth 100000 in
theorem run_X9_isChest (rg : pRg) (v : Int32) : ∃ fu, ex k_X9_isChest fu 0 [(0, .int v)] [] [] rg = some (some (.int (inI v 0 3)), [], rg) := by
  refine ⟨40, ?_⟩
  conv => lhs; whnf
  refine (pif_t (inI_01 v 0 3)).trans ?_
  rfl
theorem ct_X9_isChest (l : Launch) : ∀ args0 w0 v0 w1 rg, G_X9_isChest args0 w0 = some (v0, w1) → pCT l yX9_isChest (pWs yX9_isChest cX9_isChest 1 ((some FieldType.boolean))) rm_X9_isChest args0 w0 rg (v0, w1, rg) := by
  intro args0 w0 v0 w1 rg h
  unfold G_X9_isChest at h
  split at h
  next =>
    cases h
    exact met_of_ex (by decide) (ok_k_X9_isChest l) rfl (run_X9_isChest rg _) (Nat.le_of_ble_eq_true rfl) rfl (Nat.le_refl _) (Nat.le_of_ble_eq_true rfl) (Nat.zero_le _) rfl rfl
  next => cases h
def F_X9_isChest : pF := frN G_X9_isChest
theorem ok_F_X9_isChest (l : Launch) : pFOK l yX9_isChest (pWs yX9_isChest cX9_isChest 1 ((some FieldType.boolean))) rm_X9_isChest F_X9_isChest := pFOK_fr (fun a b c d h => ct_X9_isChest l a b c d rg00 h) (fun a b c d h => by
  unfold G_X9_isChest at h
  split at h
  next => simp
  next => cases h)
end
end
section
noncomputable section
theorem dX9_isImage_0 : decode cX9_isImage 0 = .ok (.iload_n 0, 1) := by decide +kernel
theorem dX9_isImage_1 : decode cX9_isImage 1 = .ok (.iconst 0, 1) := by decide +kernel
theorem dX9_isImage_2 : decode cX9_isImage 2 = .ok (.iconst 1, 1) := by decide +kernel
theorem dX9_isImage_3 : decode cX9_isImage 3 = .ok (.invokestatic 41, 3) := by decide +kernel
theorem dX9_isImage_6 : decode cX9_isImage 6 = .ok (.ireturn, 1) := by decide +kernel
def k_X9_isImage : List pEn := [oIload 0, oConst (0), oConst (1), oCall 3 F_X9_isIn, oZret]
def pc_X9_isImage (i : Nat) : Nat := ([0, 1, 2, 3, 6] : List Nat).getD i 0
abbrev rm_X9_isImage : Room := { frames := 1, cells := 0, slots := 0, locals := 22 }
theorem pl_X9_isImage : pPlain yX9_isImage 1 := by decide +kernel
set_option maxRecDepth 100000 in
set_option maxHeartbeats 4000000 in
theorem ok_k_X9_isImage (l : Launch) : ∀ (i : Nat) (en : pEn), k_X9_isImage[i]? = some en → EOK l cX9_isImage yX9_isImage.cls 1 ((some FieldType.boolean)) rm_X9_isImage 0 pc_X9_isImage i en := by
  refine allOK_at ?_
  refine And.intro (okIload_n dX9_isImage_0 rfl rfl) ?_
  refine And.intro (okIconst dX9_isImage_1 rfl (by first | rfl | decide)) ?_
  refine And.intro (okIconst dX9_isImage_2 rfl (by first | rfl | decide)) ?_
  refine And.intro (okCallS (y := yX9_isIn) (oCall_is _ _ _) dX9_isImage_3 rfl (ok_F_X9_isIn l) wm_3_223 wm_3_224 wm_1_10 wm_3_225 pl_X9_isIn (by decide)) ?_
  refine And.intro (okZret dX9_isImage_6 rfl) ?_
  exact trivial
def G_X9_isImage : pG := fun args w => match args, w with
  | [.int v], [] => some (some (.int (inI v 0 1)), [])
  | _, _ => none
set_option maxHeartbeats 400000 in
set_option maxRecDepth 100000 in
theorem run_X9_isImage (rg : pRg) (v : Int32) : ∃ fu, ex k_X9_isImage fu 0 [(0, .int v)] [] [] rg = some (some (.int (inI v 0 1)), [], rg) := by
  refine ⟨40, ?_⟩
  conv => lhs; whnf
  refine (pif_t (inI_01 v 0 1)).trans ?_
  rfl
theorem ct_X9_isImage (l : Launch) : ∀ args0 w0 v0 w1 rg, G_X9_isImage args0 w0 = some (v0, w1) → pCT l yX9_isImage (pWs yX9_isImage cX9_isImage 1 ((some FieldType.boolean))) rm_X9_isImage args0 w0 rg (v0, w1, rg) := by
  intro args0 w0 v0 w1 rg h
  unfold G_X9_isImage at h
  split at h
  next =>
    cases h
    exact met_of_ex (by decide) (ok_k_X9_isImage l) rfl (run_X9_isImage rg _) (Nat.le_of_ble_eq_true rfl) rfl (Nat.le_refl _) (Nat.le_of_ble_eq_true rfl) (Nat.zero_le _) rfl rfl
  next => cases h
def F_X9_isImage : pF := frN G_X9_isImage
theorem ok_F_X9_isImage (l : Launch) : pFOK l yX9_isImage (pWs yX9_isImage cX9_isImage 1 ((some FieldType.boolean))) rm_X9_isImage F_X9_isImage := pFOK_fr (fun a b c d h => ct_X9_isImage l a b c d rg00 h) (fun a b c d h => by
  unfold G_X9_isImage at h
  split at h
  next => simp
  next => cases h)
end
end
section
noncomputable section
def rmI (c : Int32) : Int32 := if c = 0 then 20000 else if c = 1 then 30000 else 10000
theorem dX9_roomOf_0 : decode cX9_roomOf 0 = .ok (.iload_n 0, 1) := by decide +kernel
theorem dX9_roomOf_1 : decode cX9_roomOf 1 = .ok (.ifCond .ne 9, 3) := by decide +kernel
theorem dX9_roomOf_4 : decode cX9_roomOf 4 = .ok (.sipush 20000, 3) := by decide +kernel
theorem dX9_roomOf_7 : decode cX9_roomOf 7 = .ok (.goto 17, 3) := by decide +kernel
theorem dX9_roomOf_10 : decode cX9_roomOf 10 = .ok (.iload_n 0, 1) := by decide +kernel
theorem dX9_roomOf_11 : decode cX9_roomOf 11 = .ok (.iconst 1, 1) := by decide +kernel
theorem dX9_roomOf_12 : decode cX9_roomOf 12 = .ok (.if_icmp .ne 9, 3) := by decide +kernel
theorem dX9_roomOf_15 : decode cX9_roomOf 15 = .ok (.sipush 30000, 3) := by decide +kernel
theorem dX9_roomOf_18 : decode cX9_roomOf 18 = .ok (.goto 6, 3) := by decide +kernel
theorem dX9_roomOf_21 : decode cX9_roomOf 21 = .ok (.sipush 10000, 3) := by decide +kernel
theorem dX9_roomOf_24 : decode cX9_roomOf 24 = .ok (.ireturn, 1) := by decide +kernel
def k_X9_roomOf : List pEn := [oIload 0, oIfne 4, oConst (20000), oGoto 10, oIload 0, oConst (1), oCne 9, oConst (30000), oGoto 10, oConst (10000), oIret]
def pc_X9_roomOf (i : Nat) : Nat := ([0, 1, 4, 7, 10, 11, 12, 15, 18, 21, 24] : List Nat).getD i 0
abbrev rm_X9_roomOf : Room := { frames := 0, cells := 0, slots := 0, locals := 0 }
theorem pl_X9_roomOf : pPlain yX9_roomOf 1 := by decide +kernel
set_option maxRecDepth 100000 in
set_option maxHeartbeats 4000000 in
theorem ok_k_X9_roomOf (l : Launch) : ∀ (i : Nat) (en : pEn), k_X9_roomOf[i]? = some en → EOK l cX9_roomOf yX9_roomOf.cls 1 ((some FieldType.int)) rm_X9_roomOf 0 pc_X9_roomOf i en := by
  refine allOK_at ?_
  refine And.intro (okIload_n dX9_roomOf_0 rfl rfl) ?_
  refine And.intro (okIfne dX9_roomOf_1 rfl (by rfl)) ?_
  refine And.intro (okSipush dX9_roomOf_4 rfl (by first | rfl | decide)) ?_
  refine And.intro (okGoto dX9_roomOf_7 (by rfl)) ?_
  refine And.intro (okIload_n dX9_roomOf_10 rfl rfl) ?_
  refine And.intro (okIconst dX9_roomOf_11 rfl (by first | rfl | decide)) ?_
  refine And.intro (okCne dX9_roomOf_12 rfl (by rfl)) ?_
  refine And.intro (okSipush dX9_roomOf_15 rfl (by first | rfl | decide)) ?_
  refine And.intro (okGoto dX9_roomOf_18 (by rfl)) ?_
  refine And.intro (okSipush dX9_roomOf_21 rfl (by first | rfl | decide)) ?_
  refine And.intro (okIret dX9_roomOf_24 rfl) ?_
  exact trivial
def G_X9_roomOf : pG := fun args w => match args, w with
  | [.int v], [] => some (some (.int (rmI v)), [])
  | _, _ => none
set_option maxHeartbeats 400000 in
set_option maxRecDepth 100000 in
theorem run_X9_roomOf (rg : pRg) (v : Int32) : ∃ fu, ex k_X9_roomOf fu 0 [(0, .int v)] [] [] rg = some (some (.int (rmI v)), [], rg) := by
  refine ⟨40, ?_⟩
  conv => lhs; whnf
  refine pif_c (fun h => ?_) (fun h => ?_)
  · simp only [rmI, if_pos h] <;> rfl
  · conv => lhs; whnf
    refine pif_c (fun h2 => ?_) (fun h2 => ?_)
    · simp only [rmI, if_neg h, if_pos h2] <;> rfl
    · simp only [rmI, if_neg h, if_neg h2] <;> rfl
theorem ct_X9_roomOf (l : Launch) : ∀ args0 w0 v0 w1 rg, G_X9_roomOf args0 w0 = some (v0, w1) → pCT l yX9_roomOf (pWs yX9_roomOf cX9_roomOf 1 ((some FieldType.int))) rm_X9_roomOf args0 w0 rg (v0, w1, rg) := by
  intro args0 w0 v0 w1 rg h
  unfold G_X9_roomOf at h
  split at h
  next =>
    cases h
    exact met_of_ex (by decide) (ok_k_X9_roomOf l) rfl (run_X9_roomOf rg _) (Nat.le_of_ble_eq_true rfl) rfl (Nat.le_refl _) (Nat.le_of_ble_eq_true rfl) (Nat.zero_le _) rfl rfl
  next => cases h
def F_X9_roomOf : pF := frN G_X9_roomOf
theorem ok_F_X9_roomOf (l : Launch) : pFOK l yX9_roomOf (pWs yX9_roomOf cX9_roomOf 1 ((some FieldType.int))) rm_X9_roomOf F_X9_roomOf := pFOK_fr (fun a b c d h => ct_X9_roomOf l a b c d rg00 h) (fun a b c d h => by
  unfold G_X9_roomOf at h
  split at h
  next => simp
  next => cases h)
end
end
section
noncomputable section
def kdI (c : Int32) : Int32 := if c = 98 then 0 else if c = 103 then 1 else if c = 102 then 2 else -9
theorem dX9_kindOf_0 : decode cX9_kindOf 0 = .ok (.iload_n 0, 1) := by decide +kernel
theorem dX9_kindOf_1 : decode cX9_kindOf 1 = .ok (.bipush 98, 2) := by decide +kernel
theorem dX9_kindOf_3 : decode cX9_kindOf 3 = .ok (.if_icmp .ne 7, 3) := by decide +kernel
theorem dX9_kindOf_6 : decode cX9_kindOf 6 = .ok (.iconst 0, 1) := by decide +kernel
theorem dX9_kindOf_7 : decode cX9_kindOf 7 = .ok (.goto 25, 3) := by decide +kernel
theorem dX9_kindOf_10 : decode cX9_kindOf 10 = .ok (.iload_n 0, 1) := by decide +kernel
theorem dX9_kindOf_11 : decode cX9_kindOf 11 = .ok (.bipush 103, 2) := by decide +kernel
theorem dX9_kindOf_13 : decode cX9_kindOf 13 = .ok (.if_icmp .ne 7, 3) := by decide +kernel
theorem dX9_kindOf_16 : decode cX9_kindOf 16 = .ok (.iconst 1, 1) := by decide +kernel
theorem dX9_kindOf_17 : decode cX9_kindOf 17 = .ok (.goto 15, 3) := by decide +kernel
theorem dX9_kindOf_20 : decode cX9_kindOf 20 = .ok (.iload_n 0, 1) := by decide +kernel
theorem dX9_kindOf_21 : decode cX9_kindOf 21 = .ok (.bipush 102, 2) := by decide +kernel
theorem dX9_kindOf_23 : decode cX9_kindOf 23 = .ok (.if_icmp .ne 7, 3) := by decide +kernel
theorem dX9_kindOf_26 : decode cX9_kindOf 26 = .ok (.iconst 2, 1) := by decide +kernel
theorem dX9_kindOf_27 : decode cX9_kindOf 27 = .ok (.goto 5, 3) := by decide +kernel
theorem dX9_kindOf_30 : decode cX9_kindOf 30 = .ok (.bipush (-9), 2) := by decide +kernel
theorem dX9_kindOf_32 : decode cX9_kindOf 32 = .ok (.ireturn, 1) := by decide +kernel
def k_X9_kindOf : List pEn := [oIload 0, oConst (98), oCne 5, oConst (0), oGoto 16, oIload 0, oConst (103), oCne 10, oConst (1), oGoto 16, oIload 0, oConst (102), oCne 15, oConst (2), oGoto 16, oConst (-9), oIret]
def pc_X9_kindOf (i : Nat) : Nat := ([0, 1, 3, 6, 7, 10, 11, 13, 16, 17, 20, 21, 23, 26, 27, 30, 32] : List Nat).getD i 0
abbrev rm_X9_kindOf : Room := { frames := 0, cells := 0, slots := 0, locals := 0 }
theorem pl_X9_kindOf : pPlain yX9_kindOf 1 := by decide +kernel
set_option maxRecDepth 100000 in
set_option maxHeartbeats 4000000 in
theorem ok_k_X9_kindOf (l : Launch) : ∀ (i : Nat) (en : pEn), k_X9_kindOf[i]? = some en → EOK l cX9_kindOf yX9_kindOf.cls 1 ((some FieldType.int)) rm_X9_kindOf 0 pc_X9_kindOf i en := by
  refine allOK_at ?_
  refine And.intro (okIload_n dX9_kindOf_0 rfl rfl) ?_
  refine And.intro (okBipush dX9_kindOf_1 rfl (by first | rfl | decide)) ?_
  refine And.intro (okCne dX9_kindOf_3 rfl (by rfl)) ?_
  refine And.intro (okIconst dX9_kindOf_6 rfl (by first | rfl | decide)) ?_
  refine And.intro (okGoto dX9_kindOf_7 (by rfl)) ?_
  refine And.intro (okIload_n dX9_kindOf_10 rfl rfl) ?_
  refine And.intro (okBipush dX9_kindOf_11 rfl (by first | rfl | decide)) ?_
  refine And.intro (okCne dX9_kindOf_13 rfl (by rfl)) ?_
  refine And.intro (okIconst dX9_kindOf_16 rfl (by first | rfl | decide)) ?_
  refine And.intro (okGoto dX9_kindOf_17 (by rfl)) ?_
  refine And.intro (okIload_n dX9_kindOf_20 rfl rfl) ?_
  refine And.intro (okBipush dX9_kindOf_21 rfl (by first | rfl | decide)) ?_
  refine And.intro (okCne dX9_kindOf_23 rfl (by rfl)) ?_
  refine And.intro (okIconst dX9_kindOf_26 rfl (by first | rfl | decide)) ?_
  refine And.intro (okGoto dX9_kindOf_27 (by rfl)) ?_
  refine And.intro (okBipush dX9_kindOf_30 rfl (by first | rfl | decide)) ?_
  refine And.intro (okIret dX9_kindOf_32 rfl) ?_
  exact trivial
def G_X9_kindOf : pG := fun args w => match args, w with
  | [.int v], [] => some (some (.int (kdI v)), [])
  | _, _ => none
set_option maxHeartbeats 400000 in
set_option maxRecDepth 100000 in
theorem run_X9_kindOf (rg : pRg) (v : Int32) : ∃ fu, ex k_X9_kindOf fu 0 [(0, .int v)] [] [] rg = some (some (.int (kdI v)), [], rg) := by
  refine ⟨40, ?_⟩
  conv => lhs; whnf
  refine pif_c (fun h => ?_) (fun h => ?_)
  · simp only [kdI, if_pos h] <;> rfl
  · conv => lhs; whnf
    refine pif_c (fun h2 => ?_) (fun h2 => ?_)
    · simp only [kdI, if_neg h, if_pos h2] <;> rfl
    · conv => lhs; whnf
      refine pif_c (fun h3 => ?_) (fun h3 => ?_)
      · simp only [kdI, if_neg h, if_neg h2, if_pos h3] <;> rfl
      · simp only [kdI, if_neg h, if_neg h2, if_neg h3] <;> rfl
theorem ct_X9_kindOf (l : Launch) : ∀ args0 w0 v0 w1 rg, G_X9_kindOf args0 w0 = some (v0, w1) → pCT l yX9_kindOf (pWs yX9_kindOf cX9_kindOf 1 ((some FieldType.int))) rm_X9_kindOf args0 w0 rg (v0, w1, rg) := by
  intro args0 w0 v0 w1 rg h
  unfold G_X9_kindOf at h
  split at h
  next =>
    cases h
    exact met_of_ex (by decide) (ok_k_X9_kindOf l) rfl (run_X9_kindOf rg _) (Nat.le_of_ble_eq_true rfl) rfl (Nat.le_refl _) (Nat.le_of_ble_eq_true rfl) (Nat.zero_le _) rfl rfl
  next => cases h
def F_X9_kindOf : pF := frN G_X9_kindOf
theorem ok_F_X9_kindOf (l : Launch) : pFOK l yX9_kindOf (pWs yX9_kindOf cX9_kindOf 1 ((some FieldType.int))) rm_X9_kindOf F_X9_kindOf := pFOK_fr (fun a b c d h => ct_X9_kindOf l a b c d rg00 h) (fun a b c d h => by
  unfold G_X9_kindOf at h
  split at h
  next => simp
  next => cases h)
end
end
section
noncomputable section
def chI (c : Int32) : Option Nat := match decide (c = 0) with
  | true => some 0
  | false => match decide (c = 1) with
    | true => some 1
    | false => match decide (c = 2) with
      | true => some 2
      | false => match decide (c = 3) with
        | true => some 3
        | false => none
theorem chI_in {c : Int32} {n : Nat} (h : chI c = some n) : (c = 0 ∧ n = 0) ∨ (c = 1 ∧ n = 1) ∨ (c = 2 ∧ n = 2) ∨ (c = 3 ∧ n = 3) := by
  unfold chI at h
  split at h
  next e => cases h; exact Or.inl ⟨of_decide_eq_true e, rfl⟩
  next =>
    split at h
    next e => cases h; exact Or.inr (Or.inl ⟨of_decide_eq_true e, rfl⟩)
    next =>
      split at h
      next e => cases h; exact Or.inr (Or.inr (Or.inl ⟨of_decide_eq_true e, rfl⟩))
      next =>
        split at h
        next e => cases h; exact Or.inr (Or.inr (Or.inr ⟨of_decide_eq_true e, rfl⟩))
        next => cases h
def sumM (n : Nat) (m : pLV) : Int32 := m 1 (18 + 3 * n) + m 1 (19 + 3 * n)
theorem dX9_sum_0 : decode cX9_sum 0 = .ok (.aload_n 0, 1) := by decide +kernel
theorem dX9_sum_1 : decode cX9_sum 1 = .ok (.getfield 7, 3) := by decide +kernel
theorem dX9_sum_4 : decode cX9_sum 4 = .ok (.bipush 18, 2) := by decide +kernel
theorem dX9_sum_6 : decode cX9_sum 6 = .ok (.iconst 3, 1) := by decide +kernel
theorem dX9_sum_7 : decode cX9_sum 7 = .ok (.iload_n 1, 1) := by decide +kernel
theorem dX9_sum_8 : decode cX9_sum 8 = .ok (.imul, 1) := by decide +kernel
theorem dX9_sum_9 : decode cX9_sum 9 = .ok (.iadd, 1) := by decide +kernel
theorem dX9_sum_10 : decode cX9_sum 10 = .ok (.iaload, 1) := by decide +kernel
theorem dX9_sum_11 : decode cX9_sum 11 = .ok (.aload_n 0, 1) := by decide +kernel
theorem dX9_sum_12 : decode cX9_sum 12 = .ok (.getfield 7, 3) := by decide +kernel
theorem dX9_sum_15 : decode cX9_sum 15 = .ok (.bipush 18, 2) := by decide +kernel
theorem dX9_sum_17 : decode cX9_sum 17 = .ok (.iconst 3, 1) := by decide +kernel
theorem dX9_sum_18 : decode cX9_sum 18 = .ok (.iload_n 1, 1) := by decide +kernel
theorem dX9_sum_19 : decode cX9_sum 19 = .ok (.imul, 1) := by decide +kernel
theorem dX9_sum_20 : decode cX9_sum 20 = .ok (.iadd, 1) := by decide +kernel
theorem dX9_sum_21 : decode cX9_sum 21 = .ok (.iconst 1, 1) := by decide +kernel
theorem dX9_sum_22 : decode cX9_sum 22 = .ok (.iadd, 1) := by decide +kernel
theorem dX9_sum_23 : decode cX9_sum 23 = .ok (.iaload, 1) := by decide +kernel
theorem dX9_sum_24 : decode cX9_sum 24 = .ok (.iadd, 1) := by decide +kernel
theorem dX9_sum_25 : decode cX9_sum 25 = .ok (.ireturn, 1) := by decide +kernel
def k_X9_sum : List pEn := [oAload 0, oGet 9 0, oConst (18), oConst (3), oIload 1, oMul, oAdd, oIaldP [18, 19, 20, 21, 22, 23, 24, 25, 26, 27, 28, 29], oAload 0, oGet 9 0, oConst (18), oConst (3), oIload 1, oMul, oAdd, oConst (1), oAdd, oIaldP [18, 19, 20, 21, 22, 23, 24, 25, 26, 27, 28, 29], oAdd, oIret]
def pc_X9_sum (i : Nat) : Nat := ([0, 1, 4, 6, 7, 8, 9, 10, 11, 12, 15, 17, 18, 19, 20, 21, 22, 23, 24, 25] : List Nat).getD i 0
abbrev rm_X9_sum : Room := { frames := 0, cells := 0, slots := 0, locals := 0 }
theorem pl_X9_sum : pPlain yX9_sum 1 := by decide +kernel
set_option maxRecDepth 100000 in
set_option maxHeartbeats 4000000 in
theorem ok_k_X9_sum (l : Launch) : ∀ (i : Nat) (en : pEn), k_X9_sum[i]? = some en → EOK l cX9_sum yX9_sum.cls 2 ((some FieldType.int)) rm_X9_sum 0 pc_X9_sum i en := by
  refine allOK_at ?_
  refine And.intro (okAload_n dX9_sum_0 rfl rfl) ?_
  refine And.intro (okGet (C := RX9) (T := TX9) (N := 22) dX9_sum_1 rfl rfl (by decide) inX9 wm_3_141) ?_
  refine And.intro (okBipush dX9_sum_4 rfl (by first | rfl | decide)) ?_
  refine And.intro (okIconst dX9_sum_6 rfl (by first | rfl | decide)) ?_
  refine And.intro (okIload_n dX9_sum_7 rfl rfl) ?_
  refine And.intro (okMul dX9_sum_8 rfl) ?_
  refine And.intro (okAdd dX9_sum_9 rfl) ?_
  refine And.intro (okIaldP dX9_sum_10 rfl) ?_
  refine And.intro (okAload_n dX9_sum_11 rfl rfl) ?_
  refine And.intro (okGet (C := RX9) (T := TX9) (N := 22) dX9_sum_12 rfl rfl (by decide) inX9 wm_3_141) ?_
  refine And.intro (okBipush dX9_sum_15 rfl (by first | rfl | decide)) ?_
  refine And.intro (okIconst dX9_sum_17 rfl (by first | rfl | decide)) ?_
  refine And.intro (okIload_n dX9_sum_18 rfl rfl) ?_
  refine And.intro (okMul dX9_sum_19 rfl) ?_
  refine And.intro (okAdd dX9_sum_20 rfl) ?_
  refine And.intro (okIconst dX9_sum_21 rfl (by first | rfl | decide)) ?_
  refine And.intro (okAdd dX9_sum_22 rfl) ?_
  refine And.intro (okIaldP dX9_sum_23 rfl) ?_
  refine And.intro (okAdd dX9_sum_24 rfl) ?_
  refine And.intro (okIret dX9_sum_25 rfl) ?_
  exact trivial
def G_X9_sum : pG := fun args w => match args with
  | [.ref 0, .int c] => unM w (fun m => match chI c with
    | some n => some (some (.int (sumM n m)), mdl (m))
    | none => none)
  | _ => none
set_option maxHeartbeats 400000 in
set_option maxRecDepth 100000 in
theorem run_X9_sum0 (rg : pRg) (m : pLV)  : ∃ fu, ex k_X9_sum fu 0 [(0, .ref 0), (1, .int 0)] [] (mdl m) rg = some (some (.int (sumM 0 m)), mdl (m), rg) := by
  refine ⟨60, ?_⟩
  rfl
set_option maxHeartbeats 400000 in
set_option maxRecDepth 100000 in
theorem run_X9_sum1 (rg : pRg) (m : pLV)  : ∃ fu, ex k_X9_sum fu 0 [(0, .ref 0), (1, .int 1)] [] (mdl m) rg = some (some (.int (sumM 1 m)), mdl (m), rg) := by
  refine ⟨60, ?_⟩
  rfl
set_option maxHeartbeats 400000 in
set_option maxRecDepth 100000 in
theorem run_X9_sum2 (rg : pRg) (m : pLV)  : ∃ fu, ex k_X9_sum fu 0 [(0, .ref 0), (1, .int 2)] [] (mdl m) rg = some (some (.int (sumM 2 m)), mdl (m), rg) := by
  refine ⟨60, ?_⟩
  rfl
set_option maxHeartbeats 400000 in
set_option maxRecDepth 100000 in
theorem run_X9_sum3 (rg : pRg) (m : pLV)  : ∃ fu, ex k_X9_sum fu 0 [(0, .ref 0), (1, .int 3)] [] (mdl m) rg = some (some (.int (sumM 3 m)), mdl (m), rg) := by
  refine ⟨60, ?_⟩
  rfl
theorem ct_X9_sum (l : Launch) : ∀ args0 w0 v0 w1 rg, G_X9_sum args0 w0 = some (v0, w1) → pCT l yX9_sum (pWs yX9_sum cX9_sum 2 ((some FieldType.int))) rm_X9_sum args0 w0 rg (v0, w1, rg) := by
  intro args0 w0 v0 w1 rg h
  unfold G_X9_sum at h
  split at h
  next c  =>
    obtain ⟨m, hw, h2⟩ := unM_some h
    clear h
    subst hw
    split at h2
    next n hn =>
      cases h2
      rcases chI_in hn with ⟨rfl, rfl⟩ | ⟨rfl, rfl⟩ | ⟨rfl, rfl⟩ | ⟨rfl, rfl⟩
      · exact met_of_exM (by decide) (ok_k_X9_sum l) rfl (run_X9_sum0 rg m ) (Nat.le_of_ble_eq_true rfl) rfl rfl
      · exact met_of_exM (by decide) (ok_k_X9_sum l) rfl (run_X9_sum1 rg m ) (Nat.le_of_ble_eq_true rfl) rfl rfl
      · exact met_of_exM (by decide) (ok_k_X9_sum l) rfl (run_X9_sum2 rg m ) (Nat.le_of_ble_eq_true rfl) rfl rfl
      · exact met_of_exM (by decide) (ok_k_X9_sum l) rfl (run_X9_sum3 rg m ) (Nat.le_of_ble_eq_true rfl) rfl rfl
    next => cases h2
  next => cases h
def F_X9_sum : pF := faN G_X9_sum
theorem ok_F_X9_sum (l : Launch) : pFOK l yX9_sum (pWs yX9_sum cX9_sum 2 ((some FieldType.int))) rm_X9_sum F_X9_sum := pFOK_fa (fun a b c d rg h => ct_X9_sum l a b c d rg h)
theorem rc_F_X9_sum : pRcv 9 F_X9_sum := pRcv_fa (fun a b c d h => by
  unfold G_X9_sum at h
  split at h
  next =>
    obtain ⟨m, rfl, h⟩ := unM_some h
    exact ⟨_, _, _, rfl, rfl⟩
  next => cases h)
theorem cl_X9_sum0 (m : pLV)  (rg : pRg) : F_X9_sum [.ref 0, .int 0] (mdl m) rg = some (some (.int (sumM 0 (NM m))), mdl ((NM m)), rg) := rfl
theorem cl_X9_sum1 (m : pLV)  (rg : pRg) : F_X9_sum [.ref 0, .int 1] (mdl m) rg = some (some (.int (sumM 1 (NM m))), mdl ((NM m)), rg) := rfl
theorem cl_X9_sum2 (m : pLV)  (rg : pRg) : F_X9_sum [.ref 0, .int 2] (mdl m) rg = some (some (.int (sumM 2 (NM m))), mdl ((NM m)), rg) := rfl
theorem cl_X9_sum3 (m : pLV)  (rg : pRg) : F_X9_sum [.ref 0, .int 3] (mdl m) rg = some (some (.int (sumM 3 (NM m))), mdl ((NM m)), rg) := rfl
end
end
section
noncomputable section
def csM (n : Nat) (m : pLV) : Int32 := if sumM n m = 0 then 0 else m 1 (18 + 3 * n) * 1000 / sumM n m
theorem dX9_consistency_0 : decode cX9_consistency 0 = .ok (.aload_n 0, 1) := by decide +kernel
theorem dX9_consistency_1 : decode cX9_consistency 1 = .ok (.iload_n 1, 1) := by decide +kernel
theorem dX9_consistency_2 : decode cX9_consistency 2 = .ok (.invokevirtual 45, 3) := by decide +kernel
theorem dX9_consistency_5 : decode cX9_consistency 5 = .ok (.ifCond .ne 7, 3) := by decide +kernel
theorem dX9_consistency_8 : decode cX9_consistency 8 = .ok (.iconst 0, 1) := by decide +kernel
theorem dX9_consistency_9 : decode cX9_consistency 9 = .ok (.goto 24, 3) := by decide +kernel
theorem dX9_consistency_12 : decode cX9_consistency 12 = .ok (.aload_n 0, 1) := by decide +kernel
theorem dX9_consistency_13 : decode cX9_consistency 13 = .ok (.getfield 7, 3) := by decide +kernel
theorem dX9_consistency_16 : decode cX9_consistency 16 = .ok (.bipush 18, 2) := by decide +kernel
theorem dX9_consistency_18 : decode cX9_consistency 18 = .ok (.iconst 3, 1) := by decide +kernel
theorem dX9_consistency_19 : decode cX9_consistency 19 = .ok (.iload_n 1, 1) := by decide +kernel
theorem dX9_consistency_20 : decode cX9_consistency 20 = .ok (.imul, 1) := by decide +kernel
theorem dX9_consistency_21 : decode cX9_consistency 21 = .ok (.iadd, 1) := by decide +kernel
theorem dX9_consistency_22 : decode cX9_consistency 22 = .ok (.iaload, 1) := by decide +kernel
theorem dX9_consistency_23 : decode cX9_consistency 23 = .ok (.sipush 1000, 3) := by decide +kernel
theorem dX9_consistency_26 : decode cX9_consistency 26 = .ok (.imul, 1) := by decide +kernel
theorem dX9_consistency_27 : decode cX9_consistency 27 = .ok (.aload_n 0, 1) := by decide +kernel
theorem dX9_consistency_28 : decode cX9_consistency 28 = .ok (.iload_n 1, 1) := by decide +kernel
theorem dX9_consistency_29 : decode cX9_consistency 29 = .ok (.invokevirtual 45, 3) := by decide +kernel
theorem dX9_consistency_32 : decode cX9_consistency 32 = .ok (.idiv, 1) := by decide +kernel
theorem dX9_consistency_33 : decode cX9_consistency 33 = .ok (.ireturn, 1) := by decide +kernel
def k_X9_consistency : List pEn := [oAload 0, oIload 1, oCallZ 2 F_X9_sum, oIfne 6, oConst (0), oGoto 20, oAload 0, oGet 9 0, oConst (18), oConst (3), oIload 1, oMul, oAdd, oIaldP [18, 19, 20, 21, 22, 23, 24, 25, 26, 27, 28, 29], oConst (1000), oMul, oAload 0, oIload 1, oCallZ 2 F_X9_sum, oDiv, oIret]
def pc_X9_consistency (i : Nat) : Nat := ([0, 1, 2, 5, 8, 9, 12, 13, 16, 18, 19, 20, 21, 22, 23, 26, 27, 28, 29, 32, 33] : List Nat).getD i 0
abbrev rm_X9_consistency : Room := { frames := 1, cells := 0, slots := 0, locals := 21 }
theorem pl_X9_consistency : pPlain yX9_consistency 1 := by decide +kernel
set_option maxRecDepth 100000 in
set_option maxHeartbeats 4000000 in
theorem ok_k_X9_consistency (l : Launch) : ∀ (i : Nat) (en : pEn), k_X9_consistency[i]? = some en → EOK l cX9_consistency yX9_consistency.cls 2 ((some FieldType.int)) rm_X9_consistency 0 pc_X9_consistency i en := by
  refine allOK_at ?_
  refine And.intro (okAload_n dX9_consistency_0 rfl rfl) ?_
  refine And.intro (okIload_n dX9_consistency_1 rfl rfl) ?_
  refine And.intro (okCallV (y := yX9_sum) (T := TX9) (oCallZ_is _ _ _) dX9_consistency_2 rfl (ok_F_X9_sum l) rc_F_X9_sum rfl wm_4_14 wm_4_16 wp_20 wm_1_10 wm_4_17 pl_X9_sum (by decide)) ?_
  refine And.intro (okIfne dX9_consistency_5 rfl (by rfl)) ?_
  refine And.intro (okIconst dX9_consistency_8 rfl (by first | rfl | decide)) ?_
  refine And.intro (okGoto dX9_consistency_9 (by rfl)) ?_
  refine And.intro (okAload_n dX9_consistency_12 rfl rfl) ?_
  refine And.intro (okGet (C := RX9) (T := TX9) (N := 22) dX9_consistency_13 rfl rfl (by decide) inX9 wm_3_141) ?_
  refine And.intro (okBipush dX9_consistency_16 rfl (by first | rfl | decide)) ?_
  refine And.intro (okIconst dX9_consistency_18 rfl (by first | rfl | decide)) ?_
  refine And.intro (okIload_n dX9_consistency_19 rfl rfl) ?_
  refine And.intro (okMul dX9_consistency_20 rfl) ?_
  refine And.intro (okAdd dX9_consistency_21 rfl) ?_
  refine And.intro (okIaldP dX9_consistency_22 rfl) ?_
  refine And.intro (okSipush dX9_consistency_23 rfl (by first | rfl | decide)) ?_
  refine And.intro (okMul dX9_consistency_26 rfl) ?_
  refine And.intro (okAload_n dX9_consistency_27 rfl rfl) ?_
  refine And.intro (okIload_n dX9_consistency_28 rfl rfl) ?_
  refine And.intro (okCallV (y := yX9_sum) (T := TX9) (oCallZ_is _ _ _) dX9_consistency_29 rfl (ok_F_X9_sum l) rc_F_X9_sum rfl wm_4_14 wm_4_16 wp_20 wm_1_10 wm_4_17 pl_X9_sum (by decide)) ?_
  refine And.intro (okDiv dX9_consistency_32 rfl) ?_
  refine And.intro (okIret dX9_consistency_33 rfl) ?_
  exact trivial
def G_X9_consistency : pG := fun args w => match args with
  | [.ref 0, .int c] => unM w (fun m => match chI c with
    | some n => some (some (.int (csM n m)), mdl (m))
    | none => none)
  | _ => none
set_option maxHeartbeats 400000 in
set_option maxRecDepth 100000 in
theorem run_X9_consistency0 (rg : pRg) (m : pLV)  : ∃ fu, ex k_X9_consistency fu 0 [(0, .ref 0), (1, .int 0)] [] (mdl m) rg = some (some (.int (csM 0 m)), mdl (m), rg) := by
  refine ⟨60, ?_⟩
  conv => lhs; whnf
  refine (callK_r (cl_X9_sum0 m rg) rfl).trans ?_
  conv => lhs; whnf
  refine pif_c (fun h => ?_) (fun h => ?_)
  · have h : sumM 0 m = 0 := h
    simp only [csM, if_pos h] <;> rfl
  · conv => lhs; whnf
    refine (callK_r (cl_X9_sum0 (NM m) rg) rfl).trans ?_
    conv => lhs; whnf
    refine (pif_f h).trans ?_
    have h : ¬ sumM 0 m = 0 := h
    simp only [csM, if_neg h] <;> rfl
set_option maxHeartbeats 400000 in
set_option maxRecDepth 100000 in
theorem run_X9_consistency1 (rg : pRg) (m : pLV)  : ∃ fu, ex k_X9_consistency fu 0 [(0, .ref 0), (1, .int 1)] [] (mdl m) rg = some (some (.int (csM 1 m)), mdl (m), rg) := by
  refine ⟨60, ?_⟩
  conv => lhs; whnf
  refine (callK_r (cl_X9_sum1 m rg) rfl).trans ?_
  conv => lhs; whnf
  refine pif_c (fun h => ?_) (fun h => ?_)
  · have h : sumM 1 m = 0 := h
    simp only [csM, if_pos h] <;> rfl
  · conv => lhs; whnf
    refine (callK_r (cl_X9_sum1 (NM m) rg) rfl).trans ?_
    conv => lhs; whnf
    refine (pif_f h).trans ?_
    have h : ¬ sumM 1 m = 0 := h
    simp only [csM, if_neg h] <;> rfl
set_option maxHeartbeats 400000 in
set_option maxRecDepth 100000 in
theorem run_X9_consistency2 (rg : pRg) (m : pLV)  : ∃ fu, ex k_X9_consistency fu 0 [(0, .ref 0), (1, .int 2)] [] (mdl m) rg = some (some (.int (csM 2 m)), mdl (m), rg) := by
  refine ⟨60, ?_⟩
  conv => lhs; whnf
  refine (callK_r (cl_X9_sum2 m rg) rfl).trans ?_
  conv => lhs; whnf
  refine pif_c (fun h => ?_) (fun h => ?_)
  · have h : sumM 2 m = 0 := h
    simp only [csM, if_pos h] <;> rfl
  · conv => lhs; whnf
    refine (callK_r (cl_X9_sum2 (NM m) rg) rfl).trans ?_
    conv => lhs; whnf
    refine (pif_f h).trans ?_
    have h : ¬ sumM 2 m = 0 := h
    simp only [csM, if_neg h] <;> rfl
set_option maxHeartbeats 400000 in
set_option maxRecDepth 100000 in
theorem run_X9_consistency3 (rg : pRg) (m : pLV)  : ∃ fu, ex k_X9_consistency fu 0 [(0, .ref 0), (1, .int 3)] [] (mdl m) rg = some (some (.int (csM 3 m)), mdl (m), rg) := by
  refine ⟨60, ?_⟩
  conv => lhs; whnf
  refine (callK_r (cl_X9_sum3 m rg) rfl).trans ?_
  conv => lhs; whnf
  refine pif_c (fun h => ?_) (fun h => ?_)
  · have h : sumM 3 m = 0 := h
    simp only [csM, if_pos h] <;> rfl
  · conv => lhs; whnf
    refine (callK_r (cl_X9_sum3 (NM m) rg) rfl).trans ?_
    conv => lhs; whnf
    refine (pif_f h).trans ?_
    have h : ¬ sumM 3 m = 0 := h
    simp only [csM, if_neg h] <;> rfl
theorem ct_X9_consistency (l : Launch) : ∀ args0 w0 v0 w1 rg, G_X9_consistency args0 w0 = some (v0, w1) → pCT l yX9_consistency (pWs yX9_consistency cX9_consistency 2 ((some FieldType.int))) rm_X9_consistency args0 w0 rg (v0, w1, rg) := by
  intro args0 w0 v0 w1 rg h
  unfold G_X9_consistency at h
  split at h
  next c  =>
    obtain ⟨m, hw, h2⟩ := unM_some h
    clear h
    subst hw
    split at h2
    next n hn =>
      cases h2
      rcases chI_in hn with ⟨rfl, rfl⟩ | ⟨rfl, rfl⟩ | ⟨rfl, rfl⟩ | ⟨rfl, rfl⟩
      · exact met_of_exM (by decide) (ok_k_X9_consistency l) rfl (run_X9_consistency0 rg m ) (Nat.le_of_ble_eq_true rfl) rfl rfl
      · exact met_of_exM (by decide) (ok_k_X9_consistency l) rfl (run_X9_consistency1 rg m ) (Nat.le_of_ble_eq_true rfl) rfl rfl
      · exact met_of_exM (by decide) (ok_k_X9_consistency l) rfl (run_X9_consistency2 rg m ) (Nat.le_of_ble_eq_true rfl) rfl rfl
      · exact met_of_exM (by decide) (ok_k_X9_consistency l) rfl (run_X9_consistency3 rg m ) (Nat.le_of_ble_eq_true rfl) rfl rfl
    next => cases h2
  next => cases h
def F_X9_consistency : pF := faN G_X9_consistency
theorem ok_F_X9_consistency (l : Launch) : pFOK l yX9_consistency (pWs yX9_consistency cX9_consistency 2 ((some FieldType.int))) rm_X9_consistency F_X9_consistency := pFOK_fa (fun a b c d rg h => ct_X9_consistency l a b c d rg h)
theorem rc_F_X9_consistency : pRcv 9 F_X9_consistency := pRcv_fa (fun a b c d h => by
  unfold G_X9_consistency at h
  split at h
  next =>
    obtain ⟨m, rfl, h⟩ := unM_some h
    exact ⟨_, _, _, rfl, rfl⟩
  next => cases h)
theorem cl_X9_consistency0 (m : pLV)  (rg : pRg) : F_X9_consistency [.ref 0, .int 0] (mdl m) rg = some (some (.int (csM 0 (NM m))), mdl ((NM m)), rg) := rfl
theorem cl_X9_consistency1 (m : pLV)  (rg : pRg) : F_X9_consistency [.ref 0, .int 1] (mdl m) rg = some (some (.int (csM 1 (NM m))), mdl ((NM m)), rg) := rfl
theorem cl_X9_consistency2 (m : pLV)  (rg : pRg) : F_X9_consistency [.ref 0, .int 2] (mdl m) rg = some (some (.int (csM 2 (NM m))), mdl ((NM m)), rg) := rfl
theorem cl_X9_consistency3 (m : pLV)  (rg : pRg) : F_X9_consistency [.ref 0, .int 3] (mdl m) rg = some (some (.int (csM 3 (NM m))), mdl ((NM m)), rg) := rfl
end
end
section
noncomputable section
def tmM (n : Nat) (m : pLV) (x : Int32) : Int32 := if x < sumM n m then x else sumM n m
def tfM (n : Nat) (m : pLV) (y : Int32) : Int32 := if sumM n m = 0 then 0 else (y.toInt64 * (m 1 (18 + 3 * n)).toInt64 / (sumM n m).toInt64).toInt32
/-- what is left of a chest, y the mass and z the fibre that are taken -/
def twM (n : Nat) (m : pLV) (y z : Int32) : pLV := vA (vS (vS m 9 z) 10 (y - z)) 1 (upd (upd (m 1) (18 + 3 * n) (m 1 (18 + 3 * n) - z)) (19 + 3 * n) (upd (m 1) (18 + 3 * n) (m 1 (18 + 3 * n) - z) (19 + 3 * n) - (y - z)))
def takeM (n : Nat) (m : pLV) (x : Int32) : pLV := twM n m (tmM n m x) (tfM n m (tmM n m x))
theorem ne0_64 {x : Int32} (h : ¬ x = 0) : ¬ x.toInt64 = 0 := by
  intro e
  have h2 : x.toInt64.toInt = x.toInt := Int32.toInt_toInt64 x
  rw [e] at h2
  refine h (Int32.toInt_inj.mp ?_)
  rw [← h2]; rfl
theorem dX9_takeFrom_0 : decode cX9_takeFrom 0 = .ok (.aload_n 0, 1) := by decide +kernel
theorem dX9_takeFrom_1 : decode cX9_takeFrom 1 = .ok (.iload_n 1, 1) := by decide +kernel
theorem dX9_takeFrom_2 : decode cX9_takeFrom 2 = .ok (.invokevirtual 45, 3) := by decide +kernel
theorem dX9_takeFrom_5 : decode cX9_takeFrom 5 = .ok (.istore_n 3, 1) := by decide +kernel
theorem dX9_takeFrom_6 : decode cX9_takeFrom 6 = .ok (.iload_n 2, 1) := by decide +kernel
theorem dX9_takeFrom_7 : decode cX9_takeFrom 7 = .ok (.iload_n 3, 1) := by decide +kernel
theorem dX9_takeFrom_8 : decode cX9_takeFrom 8 = .ok (.if_icmp .ge 7, 3) := by decide +kernel
theorem dX9_takeFrom_11 : decode cX9_takeFrom 11 = .ok (.iload_n 2, 1) := by decide +kernel
theorem dX9_takeFrom_12 : decode cX9_takeFrom 12 = .ok (.goto 4, 3) := by decide +kernel
theorem dX9_takeFrom_15 : decode cX9_takeFrom 15 = .ok (.iload_n 3, 1) := by decide +kernel
theorem dX9_takeFrom_16 : decode cX9_takeFrom 16 = .ok (.istore 4, 2) := by decide +kernel
theorem dX9_takeFrom_18 : decode cX9_takeFrom 18 = .ok (.aload_n 0, 1) := by decide +kernel
theorem dX9_takeFrom_19 : decode cX9_takeFrom 19 = .ok (.iload_n 3, 1) := by decide +kernel
theorem dX9_takeFrom_20 : decode cX9_takeFrom 20 = .ok (.ifCond .ne 7, 3) := by decide +kernel
theorem dX9_takeFrom_23 : decode cX9_takeFrom 23 = .ok (.iconst 0, 1) := by decide +kernel
theorem dX9_takeFrom_24 : decode cX9_takeFrom 24 = .ok (.goto 23, 3) := by decide +kernel
theorem dX9_takeFrom_27 : decode cX9_takeFrom 27 = .ok (.iload 4, 2) := by decide +kernel
theorem dX9_takeFrom_29 : decode cX9_takeFrom 29 = .ok (.i2l, 1) := by decide +kernel
theorem dX9_takeFrom_30 : decode cX9_takeFrom 30 = .ok (.aload_n 0, 1) := by decide +kernel
theorem dX9_takeFrom_31 : decode cX9_takeFrom 31 = .ok (.getfield 7, 3) := by decide +kernel
theorem dX9_takeFrom_34 : decode cX9_takeFrom 34 = .ok (.bipush 18, 2) := by decide +kernel
theorem dX9_takeFrom_36 : decode cX9_takeFrom 36 = .ok (.iconst 3, 1) := by decide +kernel
theorem dX9_takeFrom_37 : decode cX9_takeFrom 37 = .ok (.iload_n 1, 1) := by decide +kernel
theorem dX9_takeFrom_38 : decode cX9_takeFrom 38 = .ok (.imul, 1) := by decide +kernel
theorem dX9_takeFrom_39 : decode cX9_takeFrom 39 = .ok (.iadd, 1) := by decide +kernel
theorem dX9_takeFrom_40 : decode cX9_takeFrom 40 = .ok (.iaload, 1) := by decide +kernel
theorem dX9_takeFrom_41 : decode cX9_takeFrom 41 = .ok (.i2l, 1) := by decide +kernel
theorem dX9_takeFrom_42 : decode cX9_takeFrom 42 = .ok (.lmul, 1) := by decide +kernel
theorem dX9_takeFrom_43 : decode cX9_takeFrom 43 = .ok (.iload_n 3, 1) := by decide +kernel
theorem dX9_takeFrom_44 : decode cX9_takeFrom 44 = .ok (.i2l, 1) := by decide +kernel
theorem dX9_takeFrom_45 : decode cX9_takeFrom 45 = .ok (.ldiv, 1) := by decide +kernel
theorem dX9_takeFrom_46 : decode cX9_takeFrom 46 = .ok (.l2i, 1) := by decide +kernel
theorem dX9_takeFrom_47 : decode cX9_takeFrom 47 = .ok (.putfield 49, 3) := by decide +kernel
theorem dX9_takeFrom_50 : decode cX9_takeFrom 50 = .ok (.aload_n 0, 1) := by decide +kernel
theorem dX9_takeFrom_51 : decode cX9_takeFrom 51 = .ok (.iload 4, 2) := by decide +kernel
theorem dX9_takeFrom_53 : decode cX9_takeFrom 53 = .ok (.aload_n 0, 1) := by decide +kernel
theorem dX9_takeFrom_54 : decode cX9_takeFrom 54 = .ok (.getfield 49, 3) := by decide +kernel
theorem dX9_takeFrom_57 : decode cX9_takeFrom 57 = .ok (.isub, 1) := by decide +kernel
theorem dX9_takeFrom_58 : decode cX9_takeFrom 58 = .ok (.putfield 52, 3) := by decide +kernel
theorem dX9_takeFrom_61 : decode cX9_takeFrom 61 = .ok (.aload_n 0, 1) := by decide +kernel
theorem dX9_takeFrom_62 : decode cX9_takeFrom 62 = .ok (.getfield 7, 3) := by decide +kernel
theorem dX9_takeFrom_65 : decode cX9_takeFrom 65 = .ok (.bipush 18, 2) := by decide +kernel
theorem dX9_takeFrom_67 : decode cX9_takeFrom 67 = .ok (.iconst 3, 1) := by decide +kernel
theorem dX9_takeFrom_68 : decode cX9_takeFrom 68 = .ok (.iload_n 1, 1) := by decide +kernel
theorem dX9_takeFrom_69 : decode cX9_takeFrom 69 = .ok (.imul, 1) := by decide +kernel
theorem dX9_takeFrom_70 : decode cX9_takeFrom 70 = .ok (.iadd, 1) := by decide +kernel
theorem dX9_takeFrom_71 : decode cX9_takeFrom 71 = .ok (.dup2, 1) := by decide +kernel
theorem dX9_takeFrom_72 : decode cX9_takeFrom 72 = .ok (.iaload, 1) := by decide +kernel
theorem dX9_takeFrom_73 : decode cX9_takeFrom 73 = .ok (.aload_n 0, 1) := by decide +kernel
theorem dX9_takeFrom_74 : decode cX9_takeFrom 74 = .ok (.getfield 49, 3) := by decide +kernel
theorem dX9_takeFrom_77 : decode cX9_takeFrom 77 = .ok (.isub, 1) := by decide +kernel
theorem dX9_takeFrom_78 : decode cX9_takeFrom 78 = .ok (.iastore, 1) := by decide +kernel
theorem dX9_takeFrom_79 : decode cX9_takeFrom 79 = .ok (.aload_n 0, 1) := by decide +kernel
theorem dX9_takeFrom_80 : decode cX9_takeFrom 80 = .ok (.getfield 7, 3) := by decide +kernel
theorem dX9_takeFrom_83 : decode cX9_takeFrom 83 = .ok (.bipush 18, 2) := by decide +kernel
theorem dX9_takeFrom_85 : decode cX9_takeFrom 85 = .ok (.iconst 3, 1) := by decide +kernel
theorem dX9_takeFrom_86 : decode cX9_takeFrom 86 = .ok (.iload_n 1, 1) := by decide +kernel
theorem dX9_takeFrom_87 : decode cX9_takeFrom 87 = .ok (.imul, 1) := by decide +kernel
theorem dX9_takeFrom_88 : decode cX9_takeFrom 88 = .ok (.iadd, 1) := by decide +kernel
theorem dX9_takeFrom_89 : decode cX9_takeFrom 89 = .ok (.iconst 1, 1) := by decide +kernel
theorem dX9_takeFrom_90 : decode cX9_takeFrom 90 = .ok (.iadd, 1) := by decide +kernel
theorem dX9_takeFrom_91 : decode cX9_takeFrom 91 = .ok (.dup2, 1) := by decide +kernel
theorem dX9_takeFrom_92 : decode cX9_takeFrom 92 = .ok (.iaload, 1) := by decide +kernel
theorem dX9_takeFrom_93 : decode cX9_takeFrom 93 = .ok (.aload_n 0, 1) := by decide +kernel
theorem dX9_takeFrom_94 : decode cX9_takeFrom 94 = .ok (.getfield 52, 3) := by decide +kernel
theorem dX9_takeFrom_97 : decode cX9_takeFrom 97 = .ok (.isub, 1) := by decide +kernel
theorem dX9_takeFrom_98 : decode cX9_takeFrom 98 = .ok (.iastore, 1) := by decide +kernel
theorem dX9_takeFrom_99 : decode cX9_takeFrom 99 = .ok (.return_, 1) := by decide +kernel
def k_X9_takeFrom : List pEn := [oAload 0, oIload 1, oCallZ 2 F_X9_sum, oIstore 3, oIload 2, oIload 3, oCge 9, oIload 2, oGoto 10, oIload 3, oIstore 4, oAload 0, oIload 3, oIfne 16, oConst (0), oGoto 32, oIload 4, oI2l, oAload 0, oGet 9 0, oConst (18), oConst (3), oIload 1, oMul, oAdd, oIaldP [18, 19, 20, 21, 22, 23, 24, 25, 26, 27, 28, 29], oI2l, oLmul, oIload 3, oI2l, oLdiv, oL2i, oPut 9 9, oAload 0, oIload 4, oAload 0, oGet 9 9, oSub, oPut 9 10, oAload 0, oGet 9 0, oConst (18), oConst (3), oIload 1, oMul, oAdd, oDup2, oIaldP [18, 19, 20, 21, 22, 23, 24, 25, 26, 27, 28, 29], oAload 0, oGet 9 9, oSub, oIastP [18, 19, 20, 21, 22, 23, 24, 25, 26, 27, 28, 29], oAload 0, oGet 9 0, oConst (18), oConst (3), oIload 1, oMul, oAdd, oConst (1), oAdd, oDup2, oIaldP [18, 19, 20, 21, 22, 23, 24, 25, 26, 27, 28, 29], oAload 0, oGet 9 10, oSub, oIastP [18, 19, 20, 21, 22, 23, 24, 25, 26, 27, 28, 29], oVret]
def pc_X9_takeFrom (i : Nat) : Nat := ([0, 1, 2, 5, 6, 7, 8, 11, 12, 15, 16, 18, 19, 20, 23, 24, 27, 29, 30, 31, 34, 36, 37, 38, 39, 40, 41, 42, 43, 44, 45, 46, 47, 50, 51, 53, 54, 57, 58, 61, 62, 65, 67, 68, 69, 70, 71, 72, 73, 74, 77, 78, 79, 80, 83, 85, 86, 87, 88, 89, 90, 91, 92, 93, 94, 97, 98, 99] : List Nat).getD i 0
abbrev rm_X9_takeFrom : Room := { frames := 1, cells := 0, slots := 0, locals := 21 }
theorem pl_X9_takeFrom : pPlain yX9_takeFrom 2 := by decide +kernel
set_option maxRecDepth 100000 in
set_option maxHeartbeats 4000000 in
theorem ok_k_X9_takeFrom (l : Launch) : ∀ (i : Nat) (en : pEn), k_X9_takeFrom[i]? = some en → EOK l cX9_takeFrom yX9_takeFrom.cls 5 (none) rm_X9_takeFrom 0 pc_X9_takeFrom i en := by
  refine allOK_at ?_
  refine And.intro (okAload_n dX9_takeFrom_0 rfl rfl) ?_
  refine And.intro (okIload_n dX9_takeFrom_1 rfl rfl) ?_
  refine And.intro (okCallV (y := yX9_sum) (T := TX9) (oCallZ_is _ _ _) dX9_takeFrom_2 rfl (ok_F_X9_sum l) rc_F_X9_sum rfl wm_4_14 wm_4_16 wp_20 wm_1_10 wm_4_17 pl_X9_sum (by decide)) ?_
  refine And.intro (okIstore_n dX9_takeFrom_5 rfl rfl (by decide)) ?_
  refine And.intro (okIload_n dX9_takeFrom_6 rfl rfl) ?_
  refine And.intro (okIload_n dX9_takeFrom_7 rfl rfl) ?_
  refine And.intro (okCge dX9_takeFrom_8 rfl (by rfl)) ?_
  refine And.intro (okIload_n dX9_takeFrom_11 rfl rfl) ?_
  refine And.intro (okGoto dX9_takeFrom_12 (by rfl)) ?_
  refine And.intro (okIload_n dX9_takeFrom_15 rfl rfl) ?_
  refine And.intro (okIstore dX9_takeFrom_16 rfl (by decide)) ?_
  refine And.intro (okAload_n dX9_takeFrom_18 rfl rfl) ?_
  refine And.intro (okIload_n dX9_takeFrom_19 rfl rfl) ?_
  refine And.intro (okIfne dX9_takeFrom_20 rfl (by rfl)) ?_
  refine And.intro (okIconst dX9_takeFrom_23 rfl (by first | rfl | decide)) ?_
  refine And.intro (okGoto dX9_takeFrom_24 (by rfl)) ?_
  refine And.intro (okIload dX9_takeFrom_27 rfl) ?_
  refine And.intro (okI2l dX9_takeFrom_29 rfl) ?_
  refine And.intro (okAload_n dX9_takeFrom_30 rfl rfl) ?_
  refine And.intro (okGet (C := RX9) (T := TX9) (N := 22) dX9_takeFrom_31 rfl rfl (by decide) inX9 wm_3_141) ?_
  refine And.intro (okBipush dX9_takeFrom_34 rfl (by first | rfl | decide)) ?_
  refine And.intro (okIconst dX9_takeFrom_36 rfl (by first | rfl | decide)) ?_
  refine And.intro (okIload_n dX9_takeFrom_37 rfl rfl) ?_
  refine And.intro (okMul dX9_takeFrom_38 rfl) ?_
  refine And.intro (okAdd dX9_takeFrom_39 rfl) ?_
  refine And.intro (okIaldP dX9_takeFrom_40 rfl) ?_
  refine And.intro (okI2l dX9_takeFrom_41 rfl) ?_
  refine And.intro (okLmul dX9_takeFrom_42 rfl) ?_
  refine And.intro (okIload_n dX9_takeFrom_43 rfl rfl) ?_
  refine And.intro (okI2l dX9_takeFrom_44 rfl) ?_
  refine And.intro (okLdiv dX9_takeFrom_45 rfl) ?_
  refine And.intro (okL2i dX9_takeFrom_46 rfl) ?_
  refine And.intro (okPut (C := RX9) (T := TX9) (N := 22) dX9_takeFrom_47 rfl rfl (by decide) inX9 tyX9_ok nmX9 rfl rfl wm_3_150) ?_
  refine And.intro (okAload_n dX9_takeFrom_50 rfl rfl) ?_
  refine And.intro (okIload dX9_takeFrom_51 rfl) ?_
  refine And.intro (okAload_n dX9_takeFrom_53 rfl rfl) ?_
  refine And.intro (okGet (C := RX9) (T := TX9) (N := 22) dX9_takeFrom_54 rfl rfl (by decide) inX9 wm_3_150) ?_
  refine And.intro (okSub dX9_takeFrom_57 rfl) ?_
  refine And.intro (okPut (C := RX9) (T := TX9) (N := 22) dX9_takeFrom_58 rfl rfl (by decide) inX9 tyX9_ok nmX9 rfl rfl wm_3_151) ?_
  refine And.intro (okAload_n dX9_takeFrom_61 rfl rfl) ?_
  refine And.intro (okGet (C := RX9) (T := TX9) (N := 22) dX9_takeFrom_62 rfl rfl (by decide) inX9 wm_3_141) ?_
  refine And.intro (okBipush dX9_takeFrom_65 rfl (by first | rfl | decide)) ?_
  refine And.intro (okIconst dX9_takeFrom_67 rfl (by first | rfl | decide)) ?_
  refine And.intro (okIload_n dX9_takeFrom_68 rfl rfl) ?_
  refine And.intro (okMul dX9_takeFrom_69 rfl) ?_
  refine And.intro (okAdd dX9_takeFrom_70 rfl) ?_
  refine And.intro (okDup2 dX9_takeFrom_71 rfl) ?_
  refine And.intro (okIaldP dX9_takeFrom_72 rfl) ?_
  refine And.intro (okAload_n dX9_takeFrom_73 rfl rfl) ?_
  refine And.intro (okGet (C := RX9) (T := TX9) (N := 22) dX9_takeFrom_74 rfl rfl (by decide) inX9 wm_3_150) ?_
  refine And.intro (okSub dX9_takeFrom_77 rfl) ?_
  refine And.intro (okIastP dX9_takeFrom_78 rfl) ?_
  refine And.intro (okAload_n dX9_takeFrom_79 rfl rfl) ?_
  refine And.intro (okGet (C := RX9) (T := TX9) (N := 22) dX9_takeFrom_80 rfl rfl (by decide) inX9 wm_3_141) ?_
  refine And.intro (okBipush dX9_takeFrom_83 rfl (by first | rfl | decide)) ?_
  refine And.intro (okIconst dX9_takeFrom_85 rfl (by first | rfl | decide)) ?_
  refine And.intro (okIload_n dX9_takeFrom_86 rfl rfl) ?_
  refine And.intro (okMul dX9_takeFrom_87 rfl) ?_
  refine And.intro (okAdd dX9_takeFrom_88 rfl) ?_
  refine And.intro (okIconst dX9_takeFrom_89 rfl (by first | rfl | decide)) ?_
  refine And.intro (okAdd dX9_takeFrom_90 rfl) ?_
  refine And.intro (okDup2 dX9_takeFrom_91 rfl) ?_
  refine And.intro (okIaldP dX9_takeFrom_92 rfl) ?_
  refine And.intro (okAload_n dX9_takeFrom_93 rfl rfl) ?_
  refine And.intro (okGet (C := RX9) (T := TX9) (N := 22) dX9_takeFrom_94 rfl rfl (by decide) inX9 wm_3_151) ?_
  refine And.intro (okSub dX9_takeFrom_97 rfl) ?_
  refine And.intro (okIastP dX9_takeFrom_98 rfl) ?_
  refine And.intro (okVret dX9_takeFrom_99 rfl) ?_
  exact trivial
def G_X9_takeFrom : pG := fun args w => match args with
  | [.ref 0, .int c, .int x] => unM w (fun m => match chI c with
    | some n => some (none, mdl (takeM n m x))
    | none => none)
  | _ => none
set_option maxHeartbeats 400000 in
set_option maxRecDepth 100000 in
theorem run_X9_takeFrom0 (rg : pRg) (m : pLV) (x : Int32) : ∃ fu, ex k_X9_takeFrom fu 0 [(0, .ref 0), (1, .int 0), (2, .int x)] [] (mdl m) rg = some (none, mdl (takeM 0 m x), rg) := by
  refine ⟨60, ?_⟩
  conv => lhs; whnf
  refine (callK_r (cl_X9_sum0 m rg) rfl).trans ?_
  conv => lhs; whnf
  refine pif_c (fun h => ?_) (fun h => ?_)
  · have h : ¬ x < sumM 0 m := Int32.not_lt.mpr h
    conv => lhs; whnf
    refine pif_c (fun h2 => ?_) (fun h2 => ?_)
    · rw [show takeM 0 m x = twM 0 m (sumM 0 m) 0 from by
        unfold takeM; rw [show tmM 0 m x = sumM 0 m from if_neg h]; unfold tfM; rw [if_pos (show sumM 0 m = 0 from h2)]]
      rfl
    · conv => lhs; whnf
      refine (pif_f (ne0_64 h2)).trans ?_
      rw [show takeM 0 m x = twM 0 m (sumM 0 m) ((sumM 0 m : Int32).toInt64 * (m 1 (18 + 3 * 0)).toInt64 / (sumM 0 m).toInt64).toInt32 from by
        unfold takeM; rw [show tmM 0 m x = sumM 0 m from if_neg h]; unfold tfM; rw [if_neg (show ¬ sumM 0 m = 0 from h2)]]
      rfl
  · have h : x < sumM 0 m := Int32.not_le.mp h
    conv => lhs; whnf
    refine pif_c (fun h2 => ?_) (fun h2 => ?_)
    · rw [show takeM 0 m x = twM 0 m (x) 0 from by
        unfold takeM; rw [show tmM 0 m x = x from if_pos h]; unfold tfM; rw [if_pos (show sumM 0 m = 0 from h2)]]
      rfl
    · conv => lhs; whnf
      refine (pif_f (ne0_64 h2)).trans ?_
      rw [show takeM 0 m x = twM 0 m (x) ((x : Int32).toInt64 * (m 1 (18 + 3 * 0)).toInt64 / (sumM 0 m).toInt64).toInt32 from by
        unfold takeM; rw [show tmM 0 m x = x from if_pos h]; unfold tfM; rw [if_neg (show ¬ sumM 0 m = 0 from h2)]]
      rfl
set_option maxHeartbeats 400000 in
set_option maxRecDepth 100000 in
theorem run_X9_takeFrom1 (rg : pRg) (m : pLV) (x : Int32) : ∃ fu, ex k_X9_takeFrom fu 0 [(0, .ref 0), (1, .int 1), (2, .int x)] [] (mdl m) rg = some (none, mdl (takeM 1 m x), rg) := by
  refine ⟨60, ?_⟩
  conv => lhs; whnf
  refine (callK_r (cl_X9_sum1 m rg) rfl).trans ?_
  conv => lhs; whnf
  refine pif_c (fun h => ?_) (fun h => ?_)
  · have h : ¬ x < sumM 1 m := Int32.not_lt.mpr h
    conv => lhs; whnf
    refine pif_c (fun h2 => ?_) (fun h2 => ?_)
    · rw [show takeM 1 m x = twM 1 m (sumM 1 m) 0 from by
        unfold takeM; rw [show tmM 1 m x = sumM 1 m from if_neg h]; unfold tfM; rw [if_pos (show sumM 1 m = 0 from h2)]]
      rfl
    · conv => lhs; whnf
      refine (pif_f (ne0_64 h2)).trans ?_
      rw [show takeM 1 m x = twM 1 m (sumM 1 m) ((sumM 1 m : Int32).toInt64 * (m 1 (18 + 3 * 1)).toInt64 / (sumM 1 m).toInt64).toInt32 from by
        unfold takeM; rw [show tmM 1 m x = sumM 1 m from if_neg h]; unfold tfM; rw [if_neg (show ¬ sumM 1 m = 0 from h2)]]
      rfl
  · have h : x < sumM 1 m := Int32.not_le.mp h
    conv => lhs; whnf
    refine pif_c (fun h2 => ?_) (fun h2 => ?_)
    · rw [show takeM 1 m x = twM 1 m (x) 0 from by
        unfold takeM; rw [show tmM 1 m x = x from if_pos h]; unfold tfM; rw [if_pos (show sumM 1 m = 0 from h2)]]
      rfl
    · conv => lhs; whnf
      refine (pif_f (ne0_64 h2)).trans ?_
      rw [show takeM 1 m x = twM 1 m (x) ((x : Int32).toInt64 * (m 1 (18 + 3 * 1)).toInt64 / (sumM 1 m).toInt64).toInt32 from by
        unfold takeM; rw [show tmM 1 m x = x from if_pos h]; unfold tfM; rw [if_neg (show ¬ sumM 1 m = 0 from h2)]]
      rfl
set_option maxHeartbeats 400000 in
set_option maxRecDepth 100000 in
theorem run_X9_takeFrom2 (rg : pRg) (m : pLV) (x : Int32) : ∃ fu, ex k_X9_takeFrom fu 0 [(0, .ref 0), (1, .int 2), (2, .int x)] [] (mdl m) rg = some (none, mdl (takeM 2 m x), rg) := by
  refine ⟨60, ?_⟩
  conv => lhs; whnf
  refine (callK_r (cl_X9_sum2 m rg) rfl).trans ?_
  conv => lhs; whnf
  refine pif_c (fun h => ?_) (fun h => ?_)
  · have h : ¬ x < sumM 2 m := Int32.not_lt.mpr h
    conv => lhs; whnf
    refine pif_c (fun h2 => ?_) (fun h2 => ?_)
    · rw [show takeM 2 m x = twM 2 m (sumM 2 m) 0 from by
        unfold takeM; rw [show tmM 2 m x = sumM 2 m from if_neg h]; unfold tfM; rw [if_pos (show sumM 2 m = 0 from h2)]]
      rfl
    · conv => lhs; whnf
      refine (pif_f (ne0_64 h2)).trans ?_
      rw [show takeM 2 m x = twM 2 m (sumM 2 m) ((sumM 2 m : Int32).toInt64 * (m 1 (18 + 3 * 2)).toInt64 / (sumM 2 m).toInt64).toInt32 from by
        unfold takeM; rw [show tmM 2 m x = sumM 2 m from if_neg h]; unfold tfM; rw [if_neg (show ¬ sumM 2 m = 0 from h2)]]
      rfl
  · have h : x < sumM 2 m := Int32.not_le.mp h
    conv => lhs; whnf
    refine pif_c (fun h2 => ?_) (fun h2 => ?_)
    · rw [show takeM 2 m x = twM 2 m (x) 0 from by
        unfold takeM; rw [show tmM 2 m x = x from if_pos h]; unfold tfM; rw [if_pos (show sumM 2 m = 0 from h2)]]
      rfl
    · conv => lhs; whnf
      refine (pif_f (ne0_64 h2)).trans ?_
      rw [show takeM 2 m x = twM 2 m (x) ((x : Int32).toInt64 * (m 1 (18 + 3 * 2)).toInt64 / (sumM 2 m).toInt64).toInt32 from by
        unfold takeM; rw [show tmM 2 m x = x from if_pos h]; unfold tfM; rw [if_neg (show ¬ sumM 2 m = 0 from h2)]]
      rfl
set_option maxHeartbeats 400000 in
set_option maxRecDepth 100000 in
theorem run_X9_takeFrom3 (rg : pRg) (m : pLV) (x : Int32) : ∃ fu, ex k_X9_takeFrom fu 0 [(0, .ref 0), (1, .int 3), (2, .int x)] [] (mdl m) rg = some (none, mdl (takeM 3 m x), rg) := by
  refine ⟨60, ?_⟩
  conv => lhs; whnf
  refine (callK_r (cl_X9_sum3 m rg) rfl).trans ?_
  conv => lhs; whnf
  refine pif_c (fun h => ?_) (fun h => ?_)
  · have h : ¬ x < sumM 3 m := Int32.not_lt.mpr h
    conv => lhs; whnf
    refine pif_c (fun h2 => ?_) (fun h2 => ?_)
    · rw [show takeM 3 m x = twM 3 m (sumM 3 m) 0 from by
        unfold takeM; rw [show tmM 3 m x = sumM 3 m from if_neg h]; unfold tfM; rw [if_pos (show sumM 3 m = 0 from h2)]]
      rfl
    · conv => lhs; whnf
      refine (pif_f (ne0_64 h2)).trans ?_
      rw [show takeM 3 m x = twM 3 m (sumM 3 m) ((sumM 3 m : Int32).toInt64 * (m 1 (18 + 3 * 3)).toInt64 / (sumM 3 m).toInt64).toInt32 from by
        unfold takeM; rw [show tmM 3 m x = sumM 3 m from if_neg h]; unfold tfM; rw [if_neg (show ¬ sumM 3 m = 0 from h2)]]
      rfl
  · have h : x < sumM 3 m := Int32.not_le.mp h
    conv => lhs; whnf
    refine pif_c (fun h2 => ?_) (fun h2 => ?_)
    · rw [show takeM 3 m x = twM 3 m (x) 0 from by
        unfold takeM; rw [show tmM 3 m x = x from if_pos h]; unfold tfM; rw [if_pos (show sumM 3 m = 0 from h2)]]
      rfl
    · conv => lhs; whnf
      refine (pif_f (ne0_64 h2)).trans ?_
      rw [show takeM 3 m x = twM 3 m (x) ((x : Int32).toInt64 * (m 1 (18 + 3 * 3)).toInt64 / (sumM 3 m).toInt64).toInt32 from by
        unfold takeM; rw [show tmM 3 m x = x from if_pos h]; unfold tfM; rw [if_neg (show ¬ sumM 3 m = 0 from h2)]]
      rfl
theorem ct_X9_takeFrom (l : Launch) : ∀ args0 w0 v0 w1 rg, G_X9_takeFrom args0 w0 = some (v0, w1) → pCT l yX9_takeFrom (pWs yX9_takeFrom cX9_takeFrom 5 (none)) rm_X9_takeFrom args0 w0 rg (v0, w1, rg) := by
  intro args0 w0 v0 w1 rg h
  unfold G_X9_takeFrom at h
  split at h
  next c x =>
    obtain ⟨m, hw, h2⟩ := unM_some h
    clear h
    subst hw
    split at h2
    next n hn =>
      cases h2
      rcases chI_in hn with ⟨rfl, rfl⟩ | ⟨rfl, rfl⟩ | ⟨rfl, rfl⟩ | ⟨rfl, rfl⟩
      · exact met_of_exM (by decide) (ok_k_X9_takeFrom l) rfl (run_X9_takeFrom0 rg m x) (Nat.le_of_ble_eq_true rfl) rfl rfl
      · exact met_of_exM (by decide) (ok_k_X9_takeFrom l) rfl (run_X9_takeFrom1 rg m x) (Nat.le_of_ble_eq_true rfl) rfl rfl
      · exact met_of_exM (by decide) (ok_k_X9_takeFrom l) rfl (run_X9_takeFrom2 rg m x) (Nat.le_of_ble_eq_true rfl) rfl rfl
      · exact met_of_exM (by decide) (ok_k_X9_takeFrom l) rfl (run_X9_takeFrom3 rg m x) (Nat.le_of_ble_eq_true rfl) rfl rfl
    next => cases h2
  next => cases h
def F_X9_takeFrom : pF := faN G_X9_takeFrom
theorem ok_F_X9_takeFrom (l : Launch) : pFOK l yX9_takeFrom (pWs yX9_takeFrom cX9_takeFrom 5 (none)) rm_X9_takeFrom F_X9_takeFrom := pFOK_fa (fun a b c d rg h => ct_X9_takeFrom l a b c d rg h)
theorem rc_F_X9_takeFrom : pRcv 9 F_X9_takeFrom := pRcv_fa (fun a b c d h => by
  unfold G_X9_takeFrom at h
  split at h
  next =>
    obtain ⟨m, rfl, h⟩ := unM_some h
    exact ⟨_, _, _, rfl, rfl⟩
  next => cases h)
theorem cl_X9_takeFrom0 (m : pLV) (x : Int32) (rg : pRg) : F_X9_takeFrom [.ref 0, .int 0, .int x] (mdl m) rg = some (none, mdl (takeM 0 (NM m) x), rg) := rfl
theorem cl_X9_takeFrom1 (m : pLV) (x : Int32) (rg : pRg) : F_X9_takeFrom [.ref 0, .int 1, .int x] (mdl m) rg = some (none, mdl (takeM 1 (NM m) x), rg) := rfl
theorem cl_X9_takeFrom2 (m : pLV) (x : Int32) (rg : pRg) : F_X9_takeFrom [.ref 0, .int 2, .int x] (mdl m) rg = some (none, mdl (takeM 2 (NM m) x), rg) := rfl
theorem cl_X9_takeFrom3 (m : pLV) (x : Int32) (rg : pRg) : F_X9_takeFrom [.ref 0, .int 3, .int x] (mdl m) rg = some (none, mdl (takeM 3 (NM m) x), rg) := rfl
end
end
section
noncomputable section
def flA (n : Nat) (m : pLV) (a b : Int32) : pLV := vA m 1 (upd (upd (m 1) (18 + 3 * n) (m 1 (18 + 3 * n) + a)) (19 + 3 * n) (upd (m 1) (18 + 3 * n) (m 1 (18 + 3 * n) + a) (19 + 3 * n) + b))
def flS (n : Nat) (x : pLV) : Int32 := sumM n x - rmI (Int32.ofNat n)
def flT (n : Nat) (x : pLV) : pLV := takeM n (NM (vS x 11 1)) (flS n x)
def flW (y : pLV) : pLV := vA y 1 (upd (y 1) 32 (y 1 32 + y 0 9))
def flR (n : Nat) (x : pLV) : Int32 := if flS n x ≤ 0 then 0 else flT n x 0 9
def flV (n : Nat) (x : pLV) : pLV := if flS n x ≤ 0 then vS x 11 0 else flW (flT n x)
def fillR (n : Nat) (m : pLV) (a b : Int32) : Int32 := flR n (NM (flA n m a b))
def fillM (n : Nat) (m : pLV) (a b : Int32) : pLV := flV n (NM (flA n m a b))
theorem dX9_fillInto_0 : decode cX9_fillInto 0 = .ok (.aload_n 0, 1) := by decide +kernel
theorem dX9_fillInto_1 : decode cX9_fillInto 1 = .ok (.getfield 7, 3) := by decide +kernel
theorem dX9_fillInto_4 : decode cX9_fillInto 4 = .ok (.bipush 18, 2) := by decide +kernel
theorem dX9_fillInto_6 : decode cX9_fillInto 6 = .ok (.iconst 3, 1) := by decide +kernel
theorem dX9_fillInto_7 : decode cX9_fillInto 7 = .ok (.iload_n 1, 1) := by decide +kernel
theorem dX9_fillInto_8 : decode cX9_fillInto 8 = .ok (.imul, 1) := by decide +kernel
theorem dX9_fillInto_9 : decode cX9_fillInto 9 = .ok (.iadd, 1) := by decide +kernel
theorem dX9_fillInto_10 : decode cX9_fillInto 10 = .ok (.dup2, 1) := by decide +kernel
theorem dX9_fillInto_11 : decode cX9_fillInto 11 = .ok (.iaload, 1) := by decide +kernel
theorem dX9_fillInto_12 : decode cX9_fillInto 12 = .ok (.iload_n 2, 1) := by decide +kernel
theorem dX9_fillInto_13 : decode cX9_fillInto 13 = .ok (.iadd, 1) := by decide +kernel
theorem dX9_fillInto_14 : decode cX9_fillInto 14 = .ok (.iastore, 1) := by decide +kernel
theorem dX9_fillInto_15 : decode cX9_fillInto 15 = .ok (.aload_n 0, 1) := by decide +kernel
theorem dX9_fillInto_16 : decode cX9_fillInto 16 = .ok (.getfield 7, 3) := by decide +kernel
theorem dX9_fillInto_19 : decode cX9_fillInto 19 = .ok (.bipush 18, 2) := by decide +kernel
theorem dX9_fillInto_21 : decode cX9_fillInto 21 = .ok (.iconst 3, 1) := by decide +kernel
theorem dX9_fillInto_22 : decode cX9_fillInto 22 = .ok (.iload_n 1, 1) := by decide +kernel
theorem dX9_fillInto_23 : decode cX9_fillInto 23 = .ok (.imul, 1) := by decide +kernel
theorem dX9_fillInto_24 : decode cX9_fillInto 24 = .ok (.iadd, 1) := by decide +kernel
theorem dX9_fillInto_25 : decode cX9_fillInto 25 = .ok (.iconst 1, 1) := by decide +kernel
theorem dX9_fillInto_26 : decode cX9_fillInto 26 = .ok (.iadd, 1) := by decide +kernel
theorem dX9_fillInto_27 : decode cX9_fillInto 27 = .ok (.dup2, 1) := by decide +kernel
theorem dX9_fillInto_28 : decode cX9_fillInto 28 = .ok (.iaload, 1) := by decide +kernel
theorem dX9_fillInto_29 : decode cX9_fillInto 29 = .ok (.iload_n 3, 1) := by decide +kernel
theorem dX9_fillInto_30 : decode cX9_fillInto 30 = .ok (.iadd, 1) := by decide +kernel
theorem dX9_fillInto_31 : decode cX9_fillInto 31 = .ok (.iastore, 1) := by decide +kernel
theorem dX9_fillInto_32 : decode cX9_fillInto 32 = .ok (.aload_n 0, 1) := by decide +kernel
theorem dX9_fillInto_33 : decode cX9_fillInto 33 = .ok (.iload_n 1, 1) := by decide +kernel
theorem dX9_fillInto_34 : decode cX9_fillInto 34 = .ok (.invokevirtual 45, 3) := by decide +kernel
theorem dX9_fillInto_37 : decode cX9_fillInto 37 = .ok (.iload_n 1, 1) := by decide +kernel
theorem dX9_fillInto_38 : decode cX9_fillInto 38 = .ok (.invokestatic 55, 3) := by decide +kernel
theorem dX9_fillInto_41 : decode cX9_fillInto 41 = .ok (.isub, 1) := by decide +kernel
theorem dX9_fillInto_42 : decode cX9_fillInto 42 = .ok (.istore 4, 2) := by decide +kernel
theorem dX9_fillInto_44 : decode cX9_fillInto 44 = .ok (.aload_n 0, 1) := by decide +kernel
theorem dX9_fillInto_45 : decode cX9_fillInto 45 = .ok (.iload 4, 2) := by decide +kernel
theorem dX9_fillInto_47 : decode cX9_fillInto 47 = .ok (.ifCond .le 7, 3) := by decide +kernel
theorem dX9_fillInto_50 : decode cX9_fillInto 50 = .ok (.iconst 1, 1) := by decide +kernel
theorem dX9_fillInto_51 : decode cX9_fillInto 51 = .ok (.goto 4, 3) := by decide +kernel
theorem dX9_fillInto_54 : decode cX9_fillInto 54 = .ok (.iconst 0, 1) := by decide +kernel
theorem dX9_fillInto_55 : decode cX9_fillInto 55 = .ok (.putfield 58, 3) := by decide +kernel
theorem dX9_fillInto_58 : decode cX9_fillInto 58 = .ok (.aload_n 0, 1) := by decide +kernel
theorem dX9_fillInto_59 : decode cX9_fillInto 59 = .ok (.getfield 58, 3) := by decide +kernel
theorem dX9_fillInto_62 : decode cX9_fillInto 62 = .ok (.ifCond .ne 5, 3) := by decide +kernel
theorem dX9_fillInto_65 : decode cX9_fillInto 65 = .ok (.iconst 0, 1) := by decide +kernel
theorem dX9_fillInto_66 : decode cX9_fillInto 66 = .ok (.ireturn, 1) := by decide +kernel
theorem dX9_fillInto_67 : decode cX9_fillInto 67 = .ok (.aload_n 0, 1) := by decide +kernel
theorem dX9_fillInto_68 : decode cX9_fillInto 68 = .ok (.iload_n 1, 1) := by decide +kernel
theorem dX9_fillInto_69 : decode cX9_fillInto 69 = .ok (.iload 4, 2) := by decide +kernel
theorem dX9_fillInto_71 : decode cX9_fillInto 71 = .ok (.invokevirtual 62, 3) := by decide +kernel
theorem dX9_fillInto_74 : decode cX9_fillInto 74 = .ok (.aload_n 0, 1) := by decide +kernel
theorem dX9_fillInto_75 : decode cX9_fillInto 75 = .ok (.getfield 7, 3) := by decide +kernel
theorem dX9_fillInto_78 : decode cX9_fillInto 78 = .ok (.bipush 32, 2) := by decide +kernel
theorem dX9_fillInto_80 : decode cX9_fillInto 80 = .ok (.dup2, 1) := by decide +kernel
theorem dX9_fillInto_81 : decode cX9_fillInto 81 = .ok (.iaload, 1) := by decide +kernel
theorem dX9_fillInto_82 : decode cX9_fillInto 82 = .ok (.aload_n 0, 1) := by decide +kernel
theorem dX9_fillInto_83 : decode cX9_fillInto 83 = .ok (.getfield 49, 3) := by decide +kernel
theorem dX9_fillInto_86 : decode cX9_fillInto 86 = .ok (.iadd, 1) := by decide +kernel
theorem dX9_fillInto_87 : decode cX9_fillInto 87 = .ok (.iastore, 1) := by decide +kernel
theorem dX9_fillInto_88 : decode cX9_fillInto 88 = .ok (.aload_n 0, 1) := by decide +kernel
theorem dX9_fillInto_89 : decode cX9_fillInto 89 = .ok (.getfield 49, 3) := by decide +kernel
theorem dX9_fillInto_92 : decode cX9_fillInto 92 = .ok (.ireturn, 1) := by decide +kernel
def k_X9_fillInto : List pEn := [oAload 0, oGet 9 0, oConst (18), oConst (3), oIload 1, oMul, oAdd, oDup2, oIaldP [18, 19, 20, 21, 22, 23, 24, 25, 26, 27, 28, 29], oIload 2, oAdd, oIastP [18, 19, 20, 21, 22, 23, 24, 25, 26, 27, 28, 29], oAload 0, oGet 9 0, oConst (18), oConst (3), oIload 1, oMul, oAdd, oConst (1), oAdd, oDup2, oIaldP [18, 19, 20, 21, 22, 23, 24, 25, 26, 27, 28, 29], oIload 3, oAdd, oIastP [18, 19, 20, 21, 22, 23, 24, 25, 26, 27, 28, 29], oAload 0, oIload 1, oCallZ 2 F_X9_sum, oIload 1, oCall 1 F_X9_roomOf, oSub, oIstore 4, oAload 0, oIload 4, oIfle 38, oConst (1), oGoto 39, oConst (0), oPutB 9 11, oAload 0, oGet 9 11, oIfne 45, oConst (0), oIret, oAload 0, oIload 1, oIload 4, oCallZ 3 F_X9_takeFrom, oAload 0, oGet 9 0, oConst (32), oDup2, oIaldN 32, oAload 0, oGet 9 9, oAdd, oIastN 32, oAload 0, oGet 9 9, oIret]
def pc_X9_fillInto (i : Nat) : Nat := ([0, 1, 4, 6, 7, 8, 9, 10, 11, 12, 13, 14, 15, 16, 19, 21, 22, 23, 24, 25, 26, 27, 28, 29, 30, 31, 32, 33, 34, 37, 38, 41, 42, 44, 45, 47, 50, 51, 54, 55, 58, 59, 62, 65, 66, 67, 68, 69, 71, 74, 75, 78, 80, 81, 82, 83, 86, 87, 88, 89, 92] : List Nat).getD i 0
abbrev rm_X9_fillInto : Room := { frames := 2, cells := 0, slots := 0, locals := 45 }
theorem pl_X9_fillInto : pPlain yX9_fillInto 3 := by decide +kernel
set_option maxRecDepth 100000 in
set_option maxHeartbeats 4000000 in
theorem ok_k_X9_fillInto (l : Launch) : ∀ (i : Nat) (en : pEn), k_X9_fillInto[i]? = some en → EOK l cX9_fillInto yX9_fillInto.cls 5 ((some FieldType.int)) rm_X9_fillInto 0 pc_X9_fillInto i en := by
  refine allOK_at ?_
  refine And.intro (okAload_n dX9_fillInto_0 rfl rfl) ?_
  refine And.intro (okGet (C := RX9) (T := TX9) (N := 22) dX9_fillInto_1 rfl rfl (by decide) inX9 wm_3_141) ?_
  refine And.intro (okBipush dX9_fillInto_4 rfl (by first | rfl | decide)) ?_
  refine And.intro (okIconst dX9_fillInto_6 rfl (by first | rfl | decide)) ?_
  refine And.intro (okIload_n dX9_fillInto_7 rfl rfl) ?_
  refine And.intro (okMul dX9_fillInto_8 rfl) ?_
  refine And.intro (okAdd dX9_fillInto_9 rfl) ?_
  refine And.intro (okDup2 dX9_fillInto_10 rfl) ?_
  refine And.intro (okIaldP dX9_fillInto_11 rfl) ?_
  refine And.intro (okIload_n dX9_fillInto_12 rfl rfl) ?_
  refine And.intro (okAdd dX9_fillInto_13 rfl) ?_
  refine And.intro (okIastP dX9_fillInto_14 rfl) ?_
  refine And.intro (okAload_n dX9_fillInto_15 rfl rfl) ?_
  refine And.intro (okGet (C := RX9) (T := TX9) (N := 22) dX9_fillInto_16 rfl rfl (by decide) inX9 wm_3_141) ?_
  refine And.intro (okBipush dX9_fillInto_19 rfl (by first | rfl | decide)) ?_
  refine And.intro (okIconst dX9_fillInto_21 rfl (by first | rfl | decide)) ?_
  refine And.intro (okIload_n dX9_fillInto_22 rfl rfl) ?_
  refine And.intro (okMul dX9_fillInto_23 rfl) ?_
  refine And.intro (okAdd dX9_fillInto_24 rfl) ?_
  refine And.intro (okIconst dX9_fillInto_25 rfl (by first | rfl | decide)) ?_
  refine And.intro (okAdd dX9_fillInto_26 rfl) ?_
  refine And.intro (okDup2 dX9_fillInto_27 rfl) ?_
  refine And.intro (okIaldP dX9_fillInto_28 rfl) ?_
  refine And.intro (okIload_n dX9_fillInto_29 rfl rfl) ?_
  refine And.intro (okAdd dX9_fillInto_30 rfl) ?_
  refine And.intro (okIastP dX9_fillInto_31 rfl) ?_
  refine And.intro (okAload_n dX9_fillInto_32 rfl rfl) ?_
  refine And.intro (okIload_n dX9_fillInto_33 rfl rfl) ?_
  refine And.intro (okCallV (y := yX9_sum) (T := TX9) (oCallZ_is _ _ _) dX9_fillInto_34 rfl (ok_F_X9_sum l) rc_F_X9_sum rfl wm_4_14 wm_4_16 wp_20 wm_1_10 wm_4_17 pl_X9_sum (by decide)) ?_
  refine And.intro (okIload_n dX9_fillInto_37 rfl rfl) ?_
  refine And.intro (okCallS (y := yX9_roomOf) (oCall_is _ _ _) dX9_fillInto_38 rfl (ok_F_X9_roomOf l) wm_4_18 wm_4_19 wm_1_10 wm_4_20 pl_X9_roomOf (by decide)) ?_
  refine And.intro (okSub dX9_fillInto_41 rfl) ?_
  refine And.intro (okIstore dX9_fillInto_42 rfl (by decide)) ?_
  refine And.intro (okAload_n dX9_fillInto_44 rfl rfl) ?_
  refine And.intro (okIload dX9_fillInto_45 rfl) ?_
  refine And.intro (okIfle dX9_fillInto_47 rfl (by rfl)) ?_
  refine And.intro (okIconst dX9_fillInto_50 rfl (by first | rfl | decide)) ?_
  refine And.intro (okGoto dX9_fillInto_51 (by rfl)) ?_
  refine And.intro (okIconst dX9_fillInto_54 rfl (by first | rfl | decide)) ?_
  refine And.intro (okPutB (C := RX9) (T := TX9) (N := 22) dX9_fillInto_55 rfl rfl (by decide) inX9 tyX9_ok nmX9 rfl rfl wm_3_152) ?_
  refine And.intro (okAload_n dX9_fillInto_58 rfl rfl) ?_
  refine And.intro (okGet (C := RX9) (T := TX9) (N := 22) dX9_fillInto_59 rfl rfl (by decide) inX9 wm_3_152) ?_
  refine And.intro (okIfne dX9_fillInto_62 rfl (by rfl)) ?_
  refine And.intro (okIconst dX9_fillInto_65 rfl (by first | rfl | decide)) ?_
  refine And.intro (okIret dX9_fillInto_66 rfl) ?_
  refine And.intro (okAload_n dX9_fillInto_67 rfl rfl) ?_
  refine And.intro (okIload_n dX9_fillInto_68 rfl rfl) ?_
  refine And.intro (okIload dX9_fillInto_69 rfl) ?_
  refine And.intro (okCallV (y := yX9_takeFrom) (T := TX9) (oCallZ_is _ _ _) dX9_fillInto_71 rfl (ok_F_X9_takeFrom l) rc_F_X9_takeFrom rfl wm_4_21 wm_4_23 wp_21 wm_1_10 wm_4_24 pl_X9_takeFrom (by decide)) ?_
  refine And.intro (okAload_n dX9_fillInto_74 rfl rfl) ?_
  refine And.intro (okGet (C := RX9) (T := TX9) (N := 22) dX9_fillInto_75 rfl rfl (by decide) inX9 wm_3_141) ?_
  refine And.intro (okBipush dX9_fillInto_78 rfl (by first | rfl | decide)) ?_
  refine And.intro (okDup2 dX9_fillInto_80 rfl) ?_
  refine And.intro (okIaldN dX9_fillInto_81 rfl) ?_
  refine And.intro (okAload_n dX9_fillInto_82 rfl rfl) ?_
  refine And.intro (okGet (C := RX9) (T := TX9) (N := 22) dX9_fillInto_83 rfl rfl (by decide) inX9 wm_3_150) ?_
  refine And.intro (okAdd dX9_fillInto_86 rfl) ?_
  refine And.intro (okIastN dX9_fillInto_87 rfl) ?_
  refine And.intro (okAload_n dX9_fillInto_88 rfl rfl) ?_
  refine And.intro (okGet (C := RX9) (T := TX9) (N := 22) dX9_fillInto_89 rfl rfl (by decide) inX9 wm_3_150) ?_
  refine And.intro (okIret dX9_fillInto_92 rfl) ?_
  exact trivial
def G_X9_fillInto : pG := fun args w => match args with
  | [.ref 0, .int c, .int a, .int b] => unM w (fun m => match chI c with
    | some n => some (some (.int (fillR n m a b)), mdl (fillM n m a b))
    | none => none)
  | _ => none
set_option maxHeartbeats 400000 in
set_option maxRecDepth 100000 in
theorem run_X9_fillInto0 (rg : pRg) (m : pLV) (a b : Int32) : ∃ fu, ex k_X9_fillInto fu 0 [(0, .ref 0), (1, .int 0), (2, .int a), (3, .int b)] [] (mdl m) rg = some (some (.int (fillR 0 m a b)), mdl (fillM 0 m a b), rg) := by
  refine ⟨60, ?_⟩
  conv => lhs; whnf
  refine (callK_r (cl_X9_sum0 (flA 0 m a b) rg) rfl).trans ?_
  unfold fillM fillR
  generalize NM (flA 0 m a b) = x
  revert x; refine id ?_; intro x
  conv => lhs; whnf
  refine pif_c (fun h => ?_) (fun h => ?_)
  · have h : flS 0 x ≤ 0 := h
    conv => lhs; whnf
    refine (pif_t (by decide)).trans ?_
    conv => lhs; whnf
    refine (pif_t (by decide)).trans ?_
    simp only [flR, flV, if_pos h] <;> rfl
  · have h : ¬ flS 0 x ≤ 0 := h
    conv => lhs; whnf
    refine (pif_t (by decide)).trans ?_
    conv => lhs; whnf
    refine (pif_f (by decide)).trans ?_
    conv => lhs; whnf
    refine (callK_v (cl_X9_takeFrom0 (vS x 11 1) (flS 0 x) rg) rfl).trans ?_
    simp only [flR, flV, if_neg h, flT]
    generalize takeM 0 (NM (vS x 11 1)) (flS 0 x) = y
    revert y; refine id ?_; intro y
    rfl
set_option maxHeartbeats 400000 in
set_option maxRecDepth 100000 in
theorem run_X9_fillInto1 (rg : pRg) (m : pLV) (a b : Int32) : ∃ fu, ex k_X9_fillInto fu 0 [(0, .ref 0), (1, .int 1), (2, .int a), (3, .int b)] [] (mdl m) rg = some (some (.int (fillR 1 m a b)), mdl (fillM 1 m a b), rg) := by
  refine ⟨60, ?_⟩
  conv => lhs; whnf
  refine (callK_r (cl_X9_sum1 (flA 1 m a b) rg) rfl).trans ?_
  unfold fillM fillR
  generalize NM (flA 1 m a b) = x
  revert x; refine id ?_; intro x
  conv => lhs; whnf
  refine pif_c (fun h => ?_) (fun h => ?_)
  · have h : flS 1 x ≤ 0 := h
    conv => lhs; whnf
    refine (pif_t (by decide)).trans ?_
    conv => lhs; whnf
    refine (pif_t (by decide)).trans ?_
    simp only [flR, flV, if_pos h] <;> rfl
  · have h : ¬ flS 1 x ≤ 0 := h
    conv => lhs; whnf
    refine (pif_t (by decide)).trans ?_
    conv => lhs; whnf
    refine (pif_f (by decide)).trans ?_
    conv => lhs; whnf
    refine (callK_v (cl_X9_takeFrom1 (vS x 11 1) (flS 1 x) rg) rfl).trans ?_
    simp only [flR, flV, if_neg h, flT]
    generalize takeM 1 (NM (vS x 11 1)) (flS 1 x) = y
    revert y; refine id ?_; intro y
    rfl
set_option maxHeartbeats 400000 in
set_option maxRecDepth 100000 in
theorem run_X9_fillInto2 (rg : pRg) (m : pLV) (a b : Int32) : ∃ fu, ex k_X9_fillInto fu 0 [(0, .ref 0), (1, .int 2), (2, .int a), (3, .int b)] [] (mdl m) rg = some (some (.int (fillR 2 m a b)), mdl (fillM 2 m a b), rg) := by
  refine ⟨60, ?_⟩
  conv => lhs; whnf
  refine (callK_r (cl_X9_sum2 (flA 2 m a b) rg) rfl).trans ?_
  unfold fillM fillR
  generalize NM (flA 2 m a b) = x
  revert x; refine id ?_; intro x
  conv => lhs; whnf
  refine pif_c (fun h => ?_) (fun h => ?_)
  · have h : flS 2 x ≤ 0 := h
    conv => lhs; whnf
    refine (pif_t (by decide)).trans ?_
    conv => lhs; whnf
    refine (pif_t (by decide)).trans ?_
    simp only [flR, flV, if_pos h] <;> rfl
  · have h : ¬ flS 2 x ≤ 0 := h
    conv => lhs; whnf
    refine (pif_t (by decide)).trans ?_
    conv => lhs; whnf
    refine (pif_f (by decide)).trans ?_
    conv => lhs; whnf
    refine (callK_v (cl_X9_takeFrom2 (vS x 11 1) (flS 2 x) rg) rfl).trans ?_
    simp only [flR, flV, if_neg h, flT]
    generalize takeM 2 (NM (vS x 11 1)) (flS 2 x) = y
    revert y; refine id ?_; intro y
    rfl
set_option maxHeartbeats 400000 in
set_option maxRecDepth 100000 in
theorem run_X9_fillInto3 (rg : pRg) (m : pLV) (a b : Int32) : ∃ fu, ex k_X9_fillInto fu 0 [(0, .ref 0), (1, .int 3), (2, .int a), (3, .int b)] [] (mdl m) rg = some (some (.int (fillR 3 m a b)), mdl (fillM 3 m a b), rg) := by
  refine ⟨60, ?_⟩
  conv => lhs; whnf
  refine (callK_r (cl_X9_sum3 (flA 3 m a b) rg) rfl).trans ?_
  unfold fillM fillR
  generalize NM (flA 3 m a b) = x
  revert x; refine id ?_; intro x
  conv => lhs; whnf
  refine pif_c (fun h => ?_) (fun h => ?_)
  · have h : flS 3 x ≤ 0 := h
    conv => lhs; whnf
    refine (pif_t (by decide)).trans ?_
    conv => lhs; whnf
    refine (pif_t (by decide)).trans ?_
    simp only [flR, flV, if_pos h] <;> rfl
  · have h : ¬ flS 3 x ≤ 0 := h
    conv => lhs; whnf
    refine (pif_t (by decide)).trans ?_
    conv => lhs; whnf
    refine (pif_f (by decide)).trans ?_
    conv => lhs; whnf
    refine (callK_v (cl_X9_takeFrom3 (vS x 11 1) (flS 3 x) rg) rfl).trans ?_
    simp only [flR, flV, if_neg h, flT]
    generalize takeM 3 (NM (vS x 11 1)) (flS 3 x) = y
    revert y; refine id ?_; intro y
    rfl
theorem ct_X9_fillInto (l : Launch) : ∀ args0 w0 v0 w1 rg, G_X9_fillInto args0 w0 = some (v0, w1) → pCT l yX9_fillInto (pWs yX9_fillInto cX9_fillInto 5 ((some FieldType.int))) rm_X9_fillInto args0 w0 rg (v0, w1, rg) := by
  intro args0 w0 v0 w1 rg h
  unfold G_X9_fillInto at h
  split at h
  next c a b =>
    obtain ⟨m, hw, h2⟩ := unM_some h
    clear h
    subst hw
    split at h2
    next n hn =>
      cases h2
      rcases chI_in hn with ⟨rfl, rfl⟩ | ⟨rfl, rfl⟩ | ⟨rfl, rfl⟩ | ⟨rfl, rfl⟩
      · exact met_of_exM (by decide) (ok_k_X9_fillInto l) rfl (run_X9_fillInto0 rg m a b) (Nat.le_of_ble_eq_true rfl) rfl rfl
      · exact met_of_exM (by decide) (ok_k_X9_fillInto l) rfl (run_X9_fillInto1 rg m a b) (Nat.le_of_ble_eq_true rfl) rfl rfl
      · exact met_of_exM (by decide) (ok_k_X9_fillInto l) rfl (run_X9_fillInto2 rg m a b) (Nat.le_of_ble_eq_true rfl) rfl rfl
      · exact met_of_exM (by decide) (ok_k_X9_fillInto l) rfl (run_X9_fillInto3 rg m a b) (Nat.le_of_ble_eq_true rfl) rfl rfl
    next => cases h2
  next => cases h
def F_X9_fillInto : pF := faN G_X9_fillInto
theorem ok_F_X9_fillInto (l : Launch) : pFOK l yX9_fillInto (pWs yX9_fillInto cX9_fillInto 5 ((some FieldType.int))) rm_X9_fillInto F_X9_fillInto := pFOK_fa (fun a b c d rg h => ct_X9_fillInto l a b c d rg h)
theorem rc_F_X9_fillInto : pRcv 9 F_X9_fillInto := pRcv_fa (fun a b c d h => by
  unfold G_X9_fillInto at h
  split at h
  next =>
    obtain ⟨m, rfl, h⟩ := unM_some h
    exact ⟨_, _, _, rfl, rfl⟩
  next => cases h)
theorem cl_X9_fillInto0 (m : pLV) (a b : Int32) (rg : pRg) : F_X9_fillInto [.ref 0, .int 0, .int a, .int b] (mdl m) rg = some (some (.int (fillR 0 (NM m) a b)), mdl (fillM 0 (NM m) a b), rg) := rfl
theorem cl_X9_fillInto1 (m : pLV) (a b : Int32) (rg : pRg) : F_X9_fillInto [.ref 0, .int 1, .int a, .int b] (mdl m) rg = some (some (.int (fillR 1 (NM m) a b)), mdl (fillM 1 (NM m) a b), rg) := rfl
theorem cl_X9_fillInto2 (m : pLV) (a b : Int32) (rg : pRg) : F_X9_fillInto [.ref 0, .int 2, .int a, .int b] (mdl m) rg = some (some (.int (fillR 2 (NM m) a b)), mdl (fillM 2 (NM m) a b), rg) := rfl
theorem cl_X9_fillInto3 (m : pLV) (a b : Int32) (rg : pRg) : F_X9_fillInto [.ref 0, .int 3, .int a, .int b] (mdl m) rg = some (some (.int (fillR 3 (NM m) a b)), mdl (fillM 3 (NM m) a b), rg) := rfl
end
end
section
noncomputable section
def bkM (m : pLV) (t : Int32) : pLV := vA m 1 (upd (m 1) 11 (if t ≤ m 1 11 then m 1 11 else t))
theorem dX9_breakSheet_0 : decode cX9_breakSheet 0 = .ok (.aload_n 0, 1) := by decide +kernel
theorem dX9_breakSheet_1 : decode cX9_breakSheet 1 = .ok (.getfield 7, 3) := by decide +kernel
theorem dX9_breakSheet_4 : decode cX9_breakSheet 4 = .ok (.bipush 11, 2) := by decide +kernel
theorem dX9_breakSheet_6 : decode cX9_breakSheet 6 = .ok (.iload_n 1, 1) := by decide +kernel
theorem dX9_breakSheet_7 : decode cX9_breakSheet 7 = .ok (.aload_n 0, 1) := by decide +kernel
theorem dX9_breakSheet_8 : decode cX9_breakSheet 8 = .ok (.getfield 7, 3) := by decide +kernel
theorem dX9_breakSheet_11 : decode cX9_breakSheet 11 = .ok (.bipush 11, 2) := by decide +kernel
theorem dX9_breakSheet_13 : decode cX9_breakSheet 13 = .ok (.iaload, 1) := by decide +kernel
theorem dX9_breakSheet_14 : decode cX9_breakSheet 14 = .ok (.if_icmp .le 7, 3) := by decide +kernel
theorem dX9_breakSheet_17 : decode cX9_breakSheet 17 = .ok (.iload_n 1, 1) := by decide +kernel
theorem dX9_breakSheet_18 : decode cX9_breakSheet 18 = .ok (.goto 10, 3) := by decide +kernel
theorem dX9_breakSheet_21 : decode cX9_breakSheet 21 = .ok (.aload_n 0, 1) := by decide +kernel
theorem dX9_breakSheet_22 : decode cX9_breakSheet 22 = .ok (.getfield 7, 3) := by decide +kernel
theorem dX9_breakSheet_25 : decode cX9_breakSheet 25 = .ok (.bipush 11, 2) := by decide +kernel
theorem dX9_breakSheet_27 : decode cX9_breakSheet 27 = .ok (.iaload, 1) := by decide +kernel
theorem dX9_breakSheet_28 : decode cX9_breakSheet 28 = .ok (.iastore, 1) := by decide +kernel
theorem dX9_breakSheet_29 : decode cX9_breakSheet 29 = .ok (.return_, 1) := by decide +kernel
def k_X9_breakSheet : List pEn := [oAload 0, oGet 9 0, oConst (11), oIload 1, oAload 0, oGet 9 0, oConst (11), oIaldN 11, oCle 11, oIload 1, oGoto 15, oAload 0, oGet 9 0, oConst (11), oIaldN 11, oIastN 11, oVret]
def pc_X9_breakSheet (i : Nat) : Nat := ([0, 1, 4, 6, 7, 8, 11, 13, 14, 17, 18, 21, 22, 25, 27, 28, 29] : List Nat).getD i 0
abbrev rm_X9_breakSheet : Room := { frames := 0, cells := 0, slots := 0, locals := 0 }
theorem pl_X9_breakSheet : pPlain yX9_breakSheet 1 := by decide +kernel
set_option maxRecDepth 100000 in
set_option maxHeartbeats 4000000 in
theorem ok_k_X9_breakSheet (l : Launch) : ∀ (i : Nat) (en : pEn), k_X9_breakSheet[i]? = some en → EOK l cX9_breakSheet yX9_breakSheet.cls 2 (none) rm_X9_breakSheet 0 pc_X9_breakSheet i en := by
  refine allOK_at ?_
  refine And.intro (okAload_n dX9_breakSheet_0 rfl rfl) ?_
  refine And.intro (okGet (C := RX9) (T := TX9) (N := 22) dX9_breakSheet_1 rfl rfl (by decide) inX9 wm_3_141) ?_
  refine And.intro (okBipush dX9_breakSheet_4 rfl (by first | rfl | decide)) ?_
  refine And.intro (okIload_n dX9_breakSheet_6 rfl rfl) ?_
  refine And.intro (okAload_n dX9_breakSheet_7 rfl rfl) ?_
  refine And.intro (okGet (C := RX9) (T := TX9) (N := 22) dX9_breakSheet_8 rfl rfl (by decide) inX9 wm_3_141) ?_
  refine And.intro (okBipush dX9_breakSheet_11 rfl (by first | rfl | decide)) ?_
  refine And.intro (okIaldN dX9_breakSheet_13 rfl) ?_
  refine And.intro (okCle dX9_breakSheet_14 rfl (by rfl)) ?_
  refine And.intro (okIload_n dX9_breakSheet_17 rfl rfl) ?_
  refine And.intro (okGoto dX9_breakSheet_18 (by rfl)) ?_
  refine And.intro (okAload_n dX9_breakSheet_21 rfl rfl) ?_
  refine And.intro (okGet (C := RX9) (T := TX9) (N := 22) dX9_breakSheet_22 rfl rfl (by decide) inX9 wm_3_141) ?_
  refine And.intro (okBipush dX9_breakSheet_25 rfl (by first | rfl | decide)) ?_
  refine And.intro (okIaldN dX9_breakSheet_27 rfl) ?_
  refine And.intro (okIastN dX9_breakSheet_28 rfl) ?_
  refine And.intro (okVret dX9_breakSheet_29 rfl) ?_
  exact trivial
def G_X9_breakSheet : pG := fun args w => match args with
  | [.ref 0, .int t] => unM w (fun m => some (none, mdl (bkM m t)))
  | _ => none
set_option maxHeartbeats 400000 in
set_option maxRecDepth 100000 in
theorem run_X9_breakSheet (rg : pRg) (m : pLV) (t : Int32)  : ∃ fu, ex k_X9_breakSheet fu 0 [(0, .ref 0), (1, .int t)] [] (mdl m) rg = some (none, mdl (bkM m t), rg) := by
  refine ⟨60, ?_⟩
  conv => lhs; whnf
  refine pif_c (fun h => ?_) (fun h => ?_)
  · simp only [bkM, if_pos h] <;> rfl
  · simp only [bkM, if_neg h] <;> rfl
theorem ct_X9_breakSheet (l : Launch) : ∀ args0 w0 v0 w1 rg, G_X9_breakSheet args0 w0 = some (v0, w1) → pCT l yX9_breakSheet (pWs yX9_breakSheet cX9_breakSheet 2 (none)) rm_X9_breakSheet args0 w0 rg (v0, w1, rg) := by
  intro args0 w0 v0 w1 rg h
  unfold G_X9_breakSheet at h
  split at h
  next t =>
    obtain ⟨m, hw, h2⟩ := unM_some h
    clear h
    subst hw
    cases h2
    exact met_of_exM (by decide) (ok_k_X9_breakSheet l) rfl (run_X9_breakSheet rg m t ) (Nat.le_of_ble_eq_true rfl) rfl rfl
  next => cases h
def F_X9_breakSheet : pF := faN G_X9_breakSheet
theorem ok_F_X9_breakSheet (l : Launch) : pFOK l yX9_breakSheet (pWs yX9_breakSheet cX9_breakSheet 2 (none)) rm_X9_breakSheet F_X9_breakSheet := pFOK_fa (fun a b c d rg h => ct_X9_breakSheet l a b c d rg h)
theorem rc_F_X9_breakSheet : pRcv 9 F_X9_breakSheet := pRcv_fa (fun a b c d h => by
  unfold G_X9_breakSheet at h
  split at h
  next =>
    obtain ⟨m, rfl, h⟩ := unM_some h
    exact ⟨_, _, _, rfl, rfl⟩
  next => cases h)
theorem cl_X9_breakSheet (m : pLV) (t : Int32) (rg : pRg) : F_X9_breakSheet [.ref 0, .int t] (mdl m) rg = some (none, mdl (bkM (NM m) t), rg) := rfl
end
end
section
noncomputable section
def cgM (m : pLV) (g : Int32) : pLV := vA m 1 (upd (upd (m 1) 12 (if g = m 1 10 then m 1 12 else m 1 8)) 10 g)
theorem dX9_changeGrade_0 : decode cX9_changeGrade 0 = .ok (.aload_n 0, 1) := by decide +kernel
theorem dX9_changeGrade_1 : decode cX9_changeGrade 1 = .ok (.getfield 7, 3) := by decide +kernel
theorem dX9_changeGrade_4 : decode cX9_changeGrade 4 = .ok (.bipush 12, 2) := by decide +kernel
theorem dX9_changeGrade_6 : decode cX9_changeGrade 6 = .ok (.iload_n 1, 1) := by decide +kernel
theorem dX9_changeGrade_7 : decode cX9_changeGrade 7 = .ok (.aload_n 0, 1) := by decide +kernel
theorem dX9_changeGrade_8 : decode cX9_changeGrade 8 = .ok (.getfield 7, 3) := by decide +kernel
theorem dX9_changeGrade_11 : decode cX9_changeGrade 11 = .ok (.bipush 10, 2) := by decide +kernel
theorem dX9_changeGrade_13 : decode cX9_changeGrade 13 = .ok (.iaload, 1) := by decide +kernel
theorem dX9_changeGrade_14 : decode cX9_changeGrade 14 = .ok (.if_icmp .ne 13, 3) := by decide +kernel
theorem dX9_changeGrade_17 : decode cX9_changeGrade 17 = .ok (.aload_n 0, 1) := by decide +kernel
theorem dX9_changeGrade_18 : decode cX9_changeGrade 18 = .ok (.getfield 7, 3) := by decide +kernel
theorem dX9_changeGrade_21 : decode cX9_changeGrade 21 = .ok (.bipush 12, 2) := by decide +kernel
theorem dX9_changeGrade_23 : decode cX9_changeGrade 23 = .ok (.iaload, 1) := by decide +kernel
theorem dX9_changeGrade_24 : decode cX9_changeGrade 24 = .ok (.goto 10, 3) := by decide +kernel
theorem dX9_changeGrade_27 : decode cX9_changeGrade 27 = .ok (.aload_n 0, 1) := by decide +kernel
theorem dX9_changeGrade_28 : decode cX9_changeGrade 28 = .ok (.getfield 7, 3) := by decide +kernel
theorem dX9_changeGrade_31 : decode cX9_changeGrade 31 = .ok (.bipush 8, 2) := by decide +kernel
theorem dX9_changeGrade_33 : decode cX9_changeGrade 33 = .ok (.iaload, 1) := by decide +kernel
theorem dX9_changeGrade_34 : decode cX9_changeGrade 34 = .ok (.iastore, 1) := by decide +kernel
theorem dX9_changeGrade_35 : decode cX9_changeGrade 35 = .ok (.aload_n 0, 1) := by decide +kernel
theorem dX9_changeGrade_36 : decode cX9_changeGrade 36 = .ok (.getfield 7, 3) := by decide +kernel
theorem dX9_changeGrade_39 : decode cX9_changeGrade 39 = .ok (.bipush 10, 2) := by decide +kernel
theorem dX9_changeGrade_41 : decode cX9_changeGrade 41 = .ok (.iload_n 1, 1) := by decide +kernel
theorem dX9_changeGrade_42 : decode cX9_changeGrade 42 = .ok (.iastore, 1) := by decide +kernel
theorem dX9_changeGrade_43 : decode cX9_changeGrade 43 = .ok (.return_, 1) := by decide +kernel
def k_X9_changeGrade : List pEn := [oAload 0, oGet 9 0, oConst (12), oIload 1, oAload 0, oGet 9 0, oConst (10), oIaldN 10, oCne 14, oAload 0, oGet 9 0, oConst (12), oIaldN 12, oGoto 18, oAload 0, oGet 9 0, oConst (8), oIaldN 8, oIastN 12, oAload 0, oGet 9 0, oConst (10), oIload 1, oIastN 10, oVret]
def pc_X9_changeGrade (i : Nat) : Nat := ([0, 1, 4, 6, 7, 8, 11, 13, 14, 17, 18, 21, 23, 24, 27, 28, 31, 33, 34, 35, 36, 39, 41, 42, 43] : List Nat).getD i 0
abbrev rm_X9_changeGrade : Room := { frames := 0, cells := 0, slots := 0, locals := 0 }
theorem pl_X9_changeGrade : pPlain yX9_changeGrade 1 := by decide +kernel
set_option maxRecDepth 100000 in
set_option maxHeartbeats 4000000 in
theorem ok_k_X9_changeGrade (l : Launch) : ∀ (i : Nat) (en : pEn), k_X9_changeGrade[i]? = some en → EOK l cX9_changeGrade yX9_changeGrade.cls 2 (none) rm_X9_changeGrade 0 pc_X9_changeGrade i en := by
  refine allOK_at ?_
  refine And.intro (okAload_n dX9_changeGrade_0 rfl rfl) ?_
  refine And.intro (okGet (C := RX9) (T := TX9) (N := 22) dX9_changeGrade_1 rfl rfl (by decide) inX9 wm_3_141) ?_
  refine And.intro (okBipush dX9_changeGrade_4 rfl (by first | rfl | decide)) ?_
  refine And.intro (okIload_n dX9_changeGrade_6 rfl rfl) ?_
  refine And.intro (okAload_n dX9_changeGrade_7 rfl rfl) ?_
  refine And.intro (okGet (C := RX9) (T := TX9) (N := 22) dX9_changeGrade_8 rfl rfl (by decide) inX9 wm_3_141) ?_
  refine And.intro (okBipush dX9_changeGrade_11 rfl (by first | rfl | decide)) ?_
  refine And.intro (okIaldN dX9_changeGrade_13 rfl) ?_
  refine And.intro (okCne dX9_changeGrade_14 rfl (by rfl)) ?_
  refine And.intro (okAload_n dX9_changeGrade_17 rfl rfl) ?_
  refine And.intro (okGet (C := RX9) (T := TX9) (N := 22) dX9_changeGrade_18 rfl rfl (by decide) inX9 wm_3_141) ?_
  refine And.intro (okBipush dX9_changeGrade_21 rfl (by first | rfl | decide)) ?_
  refine And.intro (okIaldN dX9_changeGrade_23 rfl) ?_
  refine And.intro (okGoto dX9_changeGrade_24 (by rfl)) ?_
  refine And.intro (okAload_n dX9_changeGrade_27 rfl rfl) ?_
  refine And.intro (okGet (C := RX9) (T := TX9) (N := 22) dX9_changeGrade_28 rfl rfl (by decide) inX9 wm_3_141) ?_
  refine And.intro (okBipush dX9_changeGrade_31 rfl (by first | rfl | decide)) ?_
  refine And.intro (okIaldN dX9_changeGrade_33 rfl) ?_
  refine And.intro (okIastN dX9_changeGrade_34 rfl) ?_
  refine And.intro (okAload_n dX9_changeGrade_35 rfl rfl) ?_
  refine And.intro (okGet (C := RX9) (T := TX9) (N := 22) dX9_changeGrade_36 rfl rfl (by decide) inX9 wm_3_141) ?_
  refine And.intro (okBipush dX9_changeGrade_39 rfl (by first | rfl | decide)) ?_
  refine And.intro (okIload_n dX9_changeGrade_41 rfl rfl) ?_
  refine And.intro (okIastN dX9_changeGrade_42 rfl) ?_
  refine And.intro (okVret dX9_changeGrade_43 rfl) ?_
  exact trivial
def G_X9_changeGrade : pG := fun args w => match args with
  | [.ref 0, .int g] => unM w (fun m => some (none, mdl (cgM m g)))
  | _ => none
set_option maxHeartbeats 400000 in
set_option maxRecDepth 100000 in
theorem run_X9_changeGrade (rg : pRg) (m : pLV) (g : Int32)  : ∃ fu, ex k_X9_changeGrade fu 0 [(0, .ref 0), (1, .int g)] [] (mdl m) rg = some (none, mdl (cgM m g), rg) := by
  refine ⟨60, ?_⟩
  conv => lhs; whnf
  refine pif_c (fun h => ?_) (fun h => ?_)
  · simp only [cgM, if_pos h] <;> rfl
  · simp only [cgM, if_neg h] <;> rfl
theorem ct_X9_changeGrade (l : Launch) : ∀ args0 w0 v0 w1 rg, G_X9_changeGrade args0 w0 = some (v0, w1) → pCT l yX9_changeGrade (pWs yX9_changeGrade cX9_changeGrade 2 (none)) rm_X9_changeGrade args0 w0 rg (v0, w1, rg) := by
  intro args0 w0 v0 w1 rg h
  unfold G_X9_changeGrade at h
  split at h
  next g =>
    obtain ⟨m, hw, h2⟩ := unM_some h
    clear h
    subst hw
    cases h2
    exact met_of_exM (by decide) (ok_k_X9_changeGrade l) rfl (run_X9_changeGrade rg m g ) (Nat.le_of_ble_eq_true rfl) rfl rfl
  next => cases h
def F_X9_changeGrade : pF := faN G_X9_changeGrade
theorem ok_F_X9_changeGrade (l : Launch) : pFOK l yX9_changeGrade (pWs yX9_changeGrade cX9_changeGrade 2 (none)) rm_X9_changeGrade F_X9_changeGrade := pFOK_fa (fun a b c d rg h => ct_X9_changeGrade l a b c d rg h)
theorem rc_F_X9_changeGrade : pRcv 9 F_X9_changeGrade := pRcv_fa (fun a b c d h => by
  unfold G_X9_changeGrade at h
  split at h
  next =>
    obtain ⟨m, rfl, h⟩ := unM_some h
    exact ⟨_, _, _, rfl, rfl⟩
  next => cases h)
theorem cl_X9_changeGrade (m : pLV) (g : Int32) (rg : pRg) : F_X9_changeGrade [.ref 0, .int g] (mdl m) rg = some (none, mdl (cgM (NM m) g), rg) := rfl
end
end
section
noncomputable section
def apM (m : pLV) : Int32 := m 1 35 + m 1 36 + m 1 37 + m 1 38
theorem dX9_allPaper_0 : decode cX9_allPaper 0 = .ok (.aload_n 0, 1) := by decide +kernel
theorem dX9_allPaper_1 : decode cX9_allPaper 1 = .ok (.getfield 7, 3) := by decide +kernel
theorem dX9_allPaper_4 : decode cX9_allPaper 4 = .ok (.bipush 35, 2) := by decide +kernel
theorem dX9_allPaper_6 : decode cX9_allPaper 6 = .ok (.iaload, 1) := by decide +kernel
theorem dX9_allPaper_7 : decode cX9_allPaper 7 = .ok (.aload_n 0, 1) := by decide +kernel
theorem dX9_allPaper_8 : decode cX9_allPaper 8 = .ok (.getfield 7, 3) := by decide +kernel
theorem dX9_allPaper_11 : decode cX9_allPaper 11 = .ok (.bipush 36, 2) := by decide +kernel
theorem dX9_allPaper_13 : decode cX9_allPaper 13 = .ok (.iaload, 1) := by decide +kernel
theorem dX9_allPaper_14 : decode cX9_allPaper 14 = .ok (.iadd, 1) := by decide +kernel
theorem dX9_allPaper_15 : decode cX9_allPaper 15 = .ok (.aload_n 0, 1) := by decide +kernel
theorem dX9_allPaper_16 : decode cX9_allPaper 16 = .ok (.getfield 7, 3) := by decide +kernel
theorem dX9_allPaper_19 : decode cX9_allPaper 19 = .ok (.bipush 37, 2) := by decide +kernel
theorem dX9_allPaper_21 : decode cX9_allPaper 21 = .ok (.iaload, 1) := by decide +kernel
theorem dX9_allPaper_22 : decode cX9_allPaper 22 = .ok (.iadd, 1) := by decide +kernel
theorem dX9_allPaper_23 : decode cX9_allPaper 23 = .ok (.aload_n 0, 1) := by decide +kernel
theorem dX9_allPaper_24 : decode cX9_allPaper 24 = .ok (.getfield 7, 3) := by decide +kernel
theorem dX9_allPaper_27 : decode cX9_allPaper 27 = .ok (.bipush 38, 2) := by decide +kernel
theorem dX9_allPaper_29 : decode cX9_allPaper 29 = .ok (.iaload, 1) := by decide +kernel
theorem dX9_allPaper_30 : decode cX9_allPaper 30 = .ok (.iadd, 1) := by decide +kernel
theorem dX9_allPaper_31 : decode cX9_allPaper 31 = .ok (.ireturn, 1) := by decide +kernel
def k_X9_allPaper : List pEn := [oAload 0, oGet 9 0, oConst (35), oIaldN 35, oAload 0, oGet 9 0, oConst (36), oIaldN 36, oAdd, oAload 0, oGet 9 0, oConst (37), oIaldN 37, oAdd, oAload 0, oGet 9 0, oConst (38), oIaldN 38, oAdd, oIret]
def pc_X9_allPaper (i : Nat) : Nat := ([0, 1, 4, 6, 7, 8, 11, 13, 14, 15, 16, 19, 21, 22, 23, 24, 27, 29, 30, 31] : List Nat).getD i 0
abbrev rm_X9_allPaper : Room := { frames := 0, cells := 0, slots := 0, locals := 0 }
theorem pl_X9_allPaper : pPlain yX9_allPaper 0 := by decide +kernel
set_option maxRecDepth 100000 in
set_option maxHeartbeats 4000000 in
theorem ok_k_X9_allPaper (l : Launch) : ∀ (i : Nat) (en : pEn), k_X9_allPaper[i]? = some en → EOK l cX9_allPaper yX9_allPaper.cls 1 ((some FieldType.int)) rm_X9_allPaper 0 pc_X9_allPaper i en := by
  refine allOK_at ?_
  refine And.intro (okAload_n dX9_allPaper_0 rfl rfl) ?_
  refine And.intro (okGet (C := RX9) (T := TX9) (N := 22) dX9_allPaper_1 rfl rfl (by decide) inX9 wm_3_141) ?_
  refine And.intro (okBipush dX9_allPaper_4 rfl (by first | rfl | decide)) ?_
  refine And.intro (okIaldN dX9_allPaper_6 rfl) ?_
  refine And.intro (okAload_n dX9_allPaper_7 rfl rfl) ?_
  refine And.intro (okGet (C := RX9) (T := TX9) (N := 22) dX9_allPaper_8 rfl rfl (by decide) inX9 wm_3_141) ?_
  refine And.intro (okBipush dX9_allPaper_11 rfl (by first | rfl | decide)) ?_
  refine And.intro (okIaldN dX9_allPaper_13 rfl) ?_
  refine And.intro (okAdd dX9_allPaper_14 rfl) ?_
  refine And.intro (okAload_n dX9_allPaper_15 rfl rfl) ?_
  refine And.intro (okGet (C := RX9) (T := TX9) (N := 22) dX9_allPaper_16 rfl rfl (by decide) inX9 wm_3_141) ?_
  refine And.intro (okBipush dX9_allPaper_19 rfl (by first | rfl | decide)) ?_
  refine And.intro (okIaldN dX9_allPaper_21 rfl) ?_
  refine And.intro (okAdd dX9_allPaper_22 rfl) ?_
  refine And.intro (okAload_n dX9_allPaper_23 rfl rfl) ?_
  refine And.intro (okGet (C := RX9) (T := TX9) (N := 22) dX9_allPaper_24 rfl rfl (by decide) inX9 wm_3_141) ?_
  refine And.intro (okBipush dX9_allPaper_27 rfl (by first | rfl | decide)) ?_
  refine And.intro (okIaldN dX9_allPaper_29 rfl) ?_
  refine And.intro (okAdd dX9_allPaper_30 rfl) ?_
  refine And.intro (okIret dX9_allPaper_31 rfl) ?_
  exact trivial
def G_X9_allPaper : pG := fun args w => match args with
  | [.ref 0] => unM w (fun m => some (some (.int (apM m)), mdl (m)))
  | _ => none
set_option maxHeartbeats 400000 in
set_option maxRecDepth 100000 in
theorem run_X9_allPaper (rg : pRg) (m : pLV)   : ∃ fu, ex k_X9_allPaper fu 0 [(0, .ref 0)] [] (mdl m) rg = some (some (.int (apM m)), mdl (m), rg) := by
  refine ⟨60, ?_⟩
  rfl
theorem ct_X9_allPaper (l : Launch) : ∀ args0 w0 v0 w1 rg, G_X9_allPaper args0 w0 = some (v0, w1) → pCT l yX9_allPaper (pWs yX9_allPaper cX9_allPaper 1 ((some FieldType.int))) rm_X9_allPaper args0 w0 rg (v0, w1, rg) := by
  intro args0 w0 v0 w1 rg h
  unfold G_X9_allPaper at h
  split at h
  next  =>
    obtain ⟨m, hw, h2⟩ := unM_some h
    clear h
    subst hw
    cases h2
    exact met_of_exM (by decide) (ok_k_X9_allPaper l) rfl (run_X9_allPaper rg m  ) (Nat.le_of_ble_eq_true rfl) rfl rfl
  next => cases h
def F_X9_allPaper : pF := faN G_X9_allPaper
theorem ok_F_X9_allPaper (l : Launch) : pFOK l yX9_allPaper (pWs yX9_allPaper cX9_allPaper 1 ((some FieldType.int))) rm_X9_allPaper F_X9_allPaper := pFOK_fa (fun a b c d rg h => ct_X9_allPaper l a b c d rg h)
theorem rc_F_X9_allPaper : pRcv 9 F_X9_allPaper := pRcv_fa (fun a b c d h => by
  unfold G_X9_allPaper at h
  split at h
  next =>
    obtain ⟨m, rfl, h⟩ := unM_some h
    exact ⟨_, _, _, rfl, rfl⟩
  next => cases h)
theorem cl_X9_allPaper (m : pLV)  (rg : pRg) : F_X9_allPaper [.ref 0] (mdl m) rg = some (some (.int (apM (NM m))), mdl ((NM m)), rg) := rfl
end
end
section
noncomputable section
def icM (m : pLV) : Int32 := m 1 18 + m 1 21 + m 1 24 + m 1 27
theorem dX9_inChests_0 : decode cX9_inChests 0 = .ok (.aload_n 0, 1) := by decide +kernel
theorem dX9_inChests_1 : decode cX9_inChests 1 = .ok (.getfield 7, 3) := by decide +kernel
theorem dX9_inChests_4 : decode cX9_inChests 4 = .ok (.bipush 18, 2) := by decide +kernel
theorem dX9_inChests_6 : decode cX9_inChests 6 = .ok (.iaload, 1) := by decide +kernel
theorem dX9_inChests_7 : decode cX9_inChests 7 = .ok (.aload_n 0, 1) := by decide +kernel
theorem dX9_inChests_8 : decode cX9_inChests 8 = .ok (.getfield 7, 3) := by decide +kernel
theorem dX9_inChests_11 : decode cX9_inChests 11 = .ok (.bipush 21, 2) := by decide +kernel
theorem dX9_inChests_13 : decode cX9_inChests 13 = .ok (.iaload, 1) := by decide +kernel
theorem dX9_inChests_14 : decode cX9_inChests 14 = .ok (.iadd, 1) := by decide +kernel
theorem dX9_inChests_15 : decode cX9_inChests 15 = .ok (.aload_n 0, 1) := by decide +kernel
theorem dX9_inChests_16 : decode cX9_inChests 16 = .ok (.getfield 7, 3) := by decide +kernel
theorem dX9_inChests_19 : decode cX9_inChests 19 = .ok (.bipush 24, 2) := by decide +kernel
theorem dX9_inChests_21 : decode cX9_inChests 21 = .ok (.iaload, 1) := by decide +kernel
theorem dX9_inChests_22 : decode cX9_inChests 22 = .ok (.iadd, 1) := by decide +kernel
theorem dX9_inChests_23 : decode cX9_inChests 23 = .ok (.aload_n 0, 1) := by decide +kernel
theorem dX9_inChests_24 : decode cX9_inChests 24 = .ok (.getfield 7, 3) := by decide +kernel
theorem dX9_inChests_27 : decode cX9_inChests 27 = .ok (.bipush 27, 2) := by decide +kernel
theorem dX9_inChests_29 : decode cX9_inChests 29 = .ok (.iaload, 1) := by decide +kernel
theorem dX9_inChests_30 : decode cX9_inChests 30 = .ok (.iadd, 1) := by decide +kernel
theorem dX9_inChests_31 : decode cX9_inChests 31 = .ok (.ireturn, 1) := by decide +kernel
def k_X9_inChests : List pEn := [oAload 0, oGet 9 0, oConst (18), oIaldN 18, oAload 0, oGet 9 0, oConst (21), oIaldN 21, oAdd, oAload 0, oGet 9 0, oConst (24), oIaldN 24, oAdd, oAload 0, oGet 9 0, oConst (27), oIaldN 27, oAdd, oIret]
def pc_X9_inChests (i : Nat) : Nat := ([0, 1, 4, 6, 7, 8, 11, 13, 14, 15, 16, 19, 21, 22, 23, 24, 27, 29, 30, 31] : List Nat).getD i 0
abbrev rm_X9_inChests : Room := { frames := 0, cells := 0, slots := 0, locals := 0 }
theorem pl_X9_inChests : pPlain yX9_inChests 0 := by decide +kernel
set_option maxRecDepth 100000 in
set_option maxHeartbeats 4000000 in
theorem ok_k_X9_inChests (l : Launch) : ∀ (i : Nat) (en : pEn), k_X9_inChests[i]? = some en → EOK l cX9_inChests yX9_inChests.cls 1 ((some FieldType.int)) rm_X9_inChests 0 pc_X9_inChests i en := by
  refine allOK_at ?_
  refine And.intro (okAload_n dX9_inChests_0 rfl rfl) ?_
  refine And.intro (okGet (C := RX9) (T := TX9) (N := 22) dX9_inChests_1 rfl rfl (by decide) inX9 wm_3_141) ?_
  refine And.intro (okBipush dX9_inChests_4 rfl (by first | rfl | decide)) ?_
  refine And.intro (okIaldN dX9_inChests_6 rfl) ?_
  refine And.intro (okAload_n dX9_inChests_7 rfl rfl) ?_
  refine And.intro (okGet (C := RX9) (T := TX9) (N := 22) dX9_inChests_8 rfl rfl (by decide) inX9 wm_3_141) ?_
  refine And.intro (okBipush dX9_inChests_11 rfl (by first | rfl | decide)) ?_
  refine And.intro (okIaldN dX9_inChests_13 rfl) ?_
  refine And.intro (okAdd dX9_inChests_14 rfl) ?_
  refine And.intro (okAload_n dX9_inChests_15 rfl rfl) ?_
  refine And.intro (okGet (C := RX9) (T := TX9) (N := 22) dX9_inChests_16 rfl rfl (by decide) inX9 wm_3_141) ?_
  refine And.intro (okBipush dX9_inChests_19 rfl (by first | rfl | decide)) ?_
  refine And.intro (okIaldN dX9_inChests_21 rfl) ?_
  refine And.intro (okAdd dX9_inChests_22 rfl) ?_
  refine And.intro (okAload_n dX9_inChests_23 rfl rfl) ?_
  refine And.intro (okGet (C := RX9) (T := TX9) (N := 22) dX9_inChests_24 rfl rfl (by decide) inX9 wm_3_141) ?_
  refine And.intro (okBipush dX9_inChests_27 rfl (by first | rfl | decide)) ?_
  refine And.intro (okIaldN dX9_inChests_29 rfl) ?_
  refine And.intro (okAdd dX9_inChests_30 rfl) ?_
  refine And.intro (okIret dX9_inChests_31 rfl) ?_
  exact trivial
def G_X9_inChests : pG := fun args w => match args with
  | [.ref 0] => unM w (fun m => some (some (.int (icM m)), mdl (m)))
  | _ => none
set_option maxHeartbeats 400000 in
set_option maxRecDepth 100000 in
theorem run_X9_inChests (rg : pRg) (m : pLV)   : ∃ fu, ex k_X9_inChests fu 0 [(0, .ref 0)] [] (mdl m) rg = some (some (.int (icM m)), mdl (m), rg) := by
  refine ⟨60, ?_⟩
  rfl
theorem ct_X9_inChests (l : Launch) : ∀ args0 w0 v0 w1 rg, G_X9_inChests args0 w0 = some (v0, w1) → pCT l yX9_inChests (pWs yX9_inChests cX9_inChests 1 ((some FieldType.int))) rm_X9_inChests args0 w0 rg (v0, w1, rg) := by
  intro args0 w0 v0 w1 rg h
  unfold G_X9_inChests at h
  split at h
  next  =>
    obtain ⟨m, hw, h2⟩ := unM_some h
    clear h
    subst hw
    cases h2
    exact met_of_exM (by decide) (ok_k_X9_inChests l) rfl (run_X9_inChests rg m  ) (Nat.le_of_ble_eq_true rfl) rfl rfl
  next => cases h
def F_X9_inChests : pF := faN G_X9_inChests
theorem ok_F_X9_inChests (l : Launch) : pFOK l yX9_inChests (pWs yX9_inChests cX9_inChests 1 ((some FieldType.int))) rm_X9_inChests F_X9_inChests := pFOK_fa (fun a b c d rg h => ct_X9_inChests l a b c d rg h)
theorem rc_F_X9_inChests : pRcv 9 F_X9_inChests := pRcv_fa (fun a b c d h => by
  unfold G_X9_inChests at h
  split at h
  next =>
    obtain ⟨m, rfl, h⟩ := unM_some h
    exact ⟨_, _, _, rfl, rfl⟩
  next => cases h)
theorem cl_X9_inChests (m : pLV)  (rg : pRg) : F_X9_inChests [.ref 0] (mdl m) rg = some (some (.int (icM (NM m))), mdl ((NM m)), rg) := rfl
end
end
section
noncomputable section
def faM (m : pLV) (k p : Int32) : pLV := vS (vS m 15 k) 16 p
theorem dX9_fails_0 : decode cX9_fails 0 = .ok (.aload_n 0, 1) := by decide +kernel
theorem dX9_fails_1 : decode cX9_fails 1 = .ok (.iload_n 1, 1) := by decide +kernel
theorem dX9_fails_2 : decode cX9_fails 2 = .ok (.putfield 98, 3) := by decide +kernel
theorem dX9_fails_5 : decode cX9_fails 5 = .ok (.aload_n 0, 1) := by decide +kernel
theorem dX9_fails_6 : decode cX9_fails 6 = .ok (.iload_n 2, 1) := by decide +kernel
theorem dX9_fails_7 : decode cX9_fails 7 = .ok (.putfield 101, 3) := by decide +kernel
theorem dX9_fails_10 : decode cX9_fails 10 = .ok (.return_, 1) := by decide +kernel
def k_X9_fails : List pEn := [oAload 0, oIload 1, oPut 9 15, oAload 0, oIload 2, oPut 9 16, oVret]
def pc_X9_fails (i : Nat) : Nat := ([0, 1, 2, 5, 6, 7, 10] : List Nat).getD i 0
abbrev rm_X9_fails : Room := { frames := 0, cells := 0, slots := 0, locals := 0 }
theorem pl_X9_fails : pPlain yX9_fails 2 := by decide +kernel
set_option maxRecDepth 100000 in
set_option maxHeartbeats 4000000 in
theorem ok_k_X9_fails (l : Launch) : ∀ (i : Nat) (en : pEn), k_X9_fails[i]? = some en → EOK l cX9_fails yX9_fails.cls 3 (none) rm_X9_fails 0 pc_X9_fails i en := by
  refine allOK_at ?_
  refine And.intro (okAload_n dX9_fails_0 rfl rfl) ?_
  refine And.intro (okIload_n dX9_fails_1 rfl rfl) ?_
  refine And.intro (okPut (C := RX9) (T := TX9) (N := 22) dX9_fails_2 rfl rfl (by decide) inX9 tyX9_ok nmX9 rfl rfl wm_3_156) ?_
  refine And.intro (okAload_n dX9_fails_5 rfl rfl) ?_
  refine And.intro (okIload_n dX9_fails_6 rfl rfl) ?_
  refine And.intro (okPut (C := RX9) (T := TX9) (N := 22) dX9_fails_7 rfl rfl (by decide) inX9 tyX9_ok nmX9 rfl rfl wm_3_157) ?_
  refine And.intro (okVret dX9_fails_10 rfl) ?_
  exact trivial
def G_X9_fails : pG := fun args w => match args with
  | [.ref 0, .int k, .int p] => unM w (fun m => some (none, mdl (faM m k p)))
  | _ => none
set_option maxHeartbeats 400000 in
set_option maxRecDepth 100000 in
theorem run_X9_fails (rg : pRg) (m : pLV) (k p : Int32)  : ∃ fu, ex k_X9_fails fu 0 [(0, .ref 0), (1, .int k), (2, .int p)] [] (mdl m) rg = some (none, mdl (faM m k p), rg) := by
  refine ⟨60, ?_⟩
  rfl
theorem ct_X9_fails (l : Launch) : ∀ args0 w0 v0 w1 rg, G_X9_fails args0 w0 = some (v0, w1) → pCT l yX9_fails (pWs yX9_fails cX9_fails 3 (none)) rm_X9_fails args0 w0 rg (v0, w1, rg) := by
  intro args0 w0 v0 w1 rg h
  unfold G_X9_fails at h
  split at h
  next k p =>
    obtain ⟨m, hw, h2⟩ := unM_some h
    clear h
    subst hw
    cases h2
    exact met_of_exM (by decide) (ok_k_X9_fails l) rfl (run_X9_fails rg m k p ) (Nat.le_of_ble_eq_true rfl) rfl rfl
  next => cases h
def F_X9_fails : pF := faN G_X9_fails
theorem ok_F_X9_fails (l : Launch) : pFOK l yX9_fails (pWs yX9_fails cX9_fails 3 (none)) rm_X9_fails F_X9_fails := pFOK_fa (fun a b c d rg h => ct_X9_fails l a b c d rg h)
theorem rc_F_X9_fails : pRcv 9 F_X9_fails := pRcv_fa (fun a b c d h => by
  unfold G_X9_fails at h
  split at h
  next =>
    obtain ⟨m, rfl, h⟩ := unM_some h
    exact ⟨_, _, _, rfl, rfl⟩
  next => cases h)
theorem cl_X9_fails (m : pLV) (k p : Int32) (rg : pRg) : F_X9_fails [.ref 0, .int k, .int p] (mdl m) rg = some (none, mdl (faM (NM m) k p), rg) := rfl
end
end
section
noncomputable section
def thM (x : pLV) : pLV := fillM 3 (NM x) (x 0 9) (x 0 10 + x 1 13 * (x 0 9 + x 0 10) / 1000)
def thinM (m : pLV) : pLV := thM (takeM 2 (NM m) (m 1 2))
theorem dX9_thin_0 : decode cX9_thin 0 = .ok (.aload_n 0, 1) := by decide +kernel
theorem dX9_thin_1 : decode cX9_thin 1 = .ok (.iconst 2, 1) := by decide +kernel
theorem dX9_thin_2 : decode cX9_thin 2 = .ok (.aload_n 0, 1) := by decide +kernel
theorem dX9_thin_3 : decode cX9_thin 3 = .ok (.getfield 7, 3) := by decide +kernel
theorem dX9_thin_6 : decode cX9_thin 6 = .ok (.iconst 2, 1) := by decide +kernel
theorem dX9_thin_7 : decode cX9_thin 7 = .ok (.iaload, 1) := by decide +kernel
theorem dX9_thin_8 : decode cX9_thin 8 = .ok (.invokevirtual 62, 3) := by decide +kernel
theorem dX9_thin_11 : decode cX9_thin 11 = .ok (.aload_n 0, 1) := by decide +kernel
theorem dX9_thin_12 : decode cX9_thin 12 = .ok (.getfield 7, 3) := by decide +kernel
theorem dX9_thin_15 : decode cX9_thin 15 = .ok (.bipush 13, 2) := by decide +kernel
theorem dX9_thin_17 : decode cX9_thin 17 = .ok (.iaload, 1) := by decide +kernel
theorem dX9_thin_18 : decode cX9_thin 18 = .ok (.aload_n 0, 1) := by decide +kernel
theorem dX9_thin_19 : decode cX9_thin 19 = .ok (.getfield 49, 3) := by decide +kernel
theorem dX9_thin_22 : decode cX9_thin 22 = .ok (.aload_n 0, 1) := by decide +kernel
theorem dX9_thin_23 : decode cX9_thin 23 = .ok (.getfield 52, 3) := by decide +kernel
theorem dX9_thin_26 : decode cX9_thin 26 = .ok (.iadd, 1) := by decide +kernel
theorem dX9_thin_27 : decode cX9_thin 27 = .ok (.imul, 1) := by decide +kernel
theorem dX9_thin_28 : decode cX9_thin 28 = .ok (.sipush 1000, 3) := by decide +kernel
theorem dX9_thin_31 : decode cX9_thin 31 = .ok (.idiv, 1) := by decide +kernel
theorem dX9_thin_32 : decode cX9_thin 32 = .ok (.istore_n 1, 1) := by decide +kernel
theorem dX9_thin_33 : decode cX9_thin 33 = .ok (.aload_n 0, 1) := by decide +kernel
theorem dX9_thin_34 : decode cX9_thin 34 = .ok (.iconst 3, 1) := by decide +kernel
theorem dX9_thin_35 : decode cX9_thin 35 = .ok (.aload_n 0, 1) := by decide +kernel
theorem dX9_thin_36 : decode cX9_thin 36 = .ok (.getfield 49, 3) := by decide +kernel
theorem dX9_thin_39 : decode cX9_thin 39 = .ok (.aload_n 0, 1) := by decide +kernel
theorem dX9_thin_40 : decode cX9_thin 40 = .ok (.getfield 52, 3) := by decide +kernel
theorem dX9_thin_43 : decode cX9_thin 43 = .ok (.iload_n 1, 1) := by decide +kernel
theorem dX9_thin_44 : decode cX9_thin 44 = .ok (.iadd, 1) := by decide +kernel
theorem dX9_thin_45 : decode cX9_thin 45 = .ok (.invokevirtual 73, 3) := by decide +kernel
theorem dX9_thin_48 : decode cX9_thin 48 = .ok (.istore_n 2, 1) := by decide +kernel
theorem dX9_thin_49 : decode cX9_thin 49 = .ok (.return_, 1) := by decide +kernel
def k_X9_thin : List pEn := [oAload 0, oConst (2), oAload 0, oGet 9 0, oConst (2), oIaldN 2, oCallZ 3 F_X9_takeFrom, oAload 0, oGet 9 0, oConst (13), oIaldN 13, oAload 0, oGet 9 9, oAload 0, oGet 9 10, oAdd, oMul, oConst (1000), oDivL, oIstore 1, oAload 0, oConst (3), oAload 0, oGet 9 9, oAload 0, oGet 9 10, oIload 1, oAdd, oCallZ 4 F_X9_fillInto, oIstore 2, oVret]
def pc_X9_thin (i : Nat) : Nat := ([0, 1, 2, 3, 6, 7, 8, 11, 12, 15, 17, 18, 19, 22, 23, 26, 27, 28, 31, 32, 33, 34, 35, 36, 39, 40, 43, 44, 45, 48, 49] : List Nat).getD i 0
abbrev rm_X9_thin : Room := { frames := 3, cells := 0, slots := 0, locals := 69 }
theorem pl_X9_thin : pPlain yX9_thin 0 := by decide +kernel
set_option maxRecDepth 100000 in
set_option maxHeartbeats 4000000 in
theorem ok_k_X9_thin (l : Launch) : ∀ (i : Nat) (en : pEn), k_X9_thin[i]? = some en → EOK l cX9_thin yX9_thin.cls 3 (none) rm_X9_thin 0 pc_X9_thin i en := by
  refine allOK_at ?_
  refine And.intro (okAload_n dX9_thin_0 rfl rfl) ?_
  refine And.intro (okIconst dX9_thin_1 rfl (by first | rfl | decide)) ?_
  refine And.intro (okAload_n dX9_thin_2 rfl rfl) ?_
  refine And.intro (okGet (C := RX9) (T := TX9) (N := 22) dX9_thin_3 rfl rfl (by decide) inX9 wm_3_141) ?_
  refine And.intro (okIconst dX9_thin_6 rfl (by first | rfl | decide)) ?_
  refine And.intro (okIaldN dX9_thin_7 rfl) ?_
  refine And.intro (okCallV (y := yX9_takeFrom) (T := TX9) (oCallZ_is _ _ _) dX9_thin_8 rfl (ok_F_X9_takeFrom l) rc_F_X9_takeFrom rfl wm_4_21 wm_4_23 wp_21 wm_1_10 wm_4_24 pl_X9_takeFrom (by decide)) ?_
  refine And.intro (okAload_n dX9_thin_11 rfl rfl) ?_
  refine And.intro (okGet (C := RX9) (T := TX9) (N := 22) dX9_thin_12 rfl rfl (by decide) inX9 wm_3_141) ?_
  refine And.intro (okBipush dX9_thin_15 rfl (by first | rfl | decide)) ?_
  refine And.intro (okIaldN dX9_thin_17 rfl) ?_
  refine And.intro (okAload_n dX9_thin_18 rfl rfl) ?_
  refine And.intro (okGet (C := RX9) (T := TX9) (N := 22) dX9_thin_19 rfl rfl (by decide) inX9 wm_3_150) ?_
  refine And.intro (okAload_n dX9_thin_22 rfl rfl) ?_
  refine And.intro (okGet (C := RX9) (T := TX9) (N := 22) dX9_thin_23 rfl rfl (by decide) inX9 wm_3_151) ?_
  refine And.intro (okAdd dX9_thin_26 rfl) ?_
  refine And.intro (okMul dX9_thin_27 rfl) ?_
  refine And.intro (okSipush dX9_thin_28 rfl (by first | rfl | decide)) ?_
  refine And.intro (okDivL dX9_thin_31 rfl) ?_
  refine And.intro (okIstore_n dX9_thin_32 rfl rfl (by decide)) ?_
  refine And.intro (okAload_n dX9_thin_33 rfl rfl) ?_
  refine And.intro (okIconst dX9_thin_34 rfl (by first | rfl | decide)) ?_
  refine And.intro (okAload_n dX9_thin_35 rfl rfl) ?_
  refine And.intro (okGet (C := RX9) (T := TX9) (N := 22) dX9_thin_36 rfl rfl (by decide) inX9 wm_3_150) ?_
  refine And.intro (okAload_n dX9_thin_39 rfl rfl) ?_
  refine And.intro (okGet (C := RX9) (T := TX9) (N := 22) dX9_thin_40 rfl rfl (by decide) inX9 wm_3_151) ?_
  refine And.intro (okIload_n dX9_thin_43 rfl rfl) ?_
  refine And.intro (okAdd dX9_thin_44 rfl) ?_
  refine And.intro (okCallV (y := yX9_fillInto) (T := TX9) (oCallZ_is _ _ _) dX9_thin_45 rfl (ok_F_X9_fillInto l) rc_F_X9_fillInto rfl wm_4_10 wm_4_12 wp_19 wm_1_10 wm_4_13 pl_X9_fillInto (by decide)) ?_
  refine And.intro (okIstore_n dX9_thin_48 rfl rfl (by decide)) ?_
  refine And.intro (okVret dX9_thin_49 rfl) ?_
  exact trivial
def G_X9_thin : pG := fun args w => match args with
  | [.ref 0] => unM w (fun m => some (none, mdl (thinM m)))
  | _ => none
set_option maxHeartbeats 400000 in
set_option maxRecDepth 100000 in
theorem run_X9_thin (rg : pRg) (m : pLV)   : ∃ fu, ex k_X9_thin fu 0 [(0, .ref 0)] [] (mdl m) rg = some (none, mdl (thinM m), rg) := by
  refine ⟨60, ?_⟩
  conv => lhs; whnf
  refine (callK_v (cl_X9_takeFrom2 m (m 1 2) rg) rfl).trans ?_
  unfold thinM
  generalize takeM 2 (NM m) (m 1 2) = x
  revert x; refine id ?_; intro x
  conv => lhs; whnf
  refine (callK_r (cl_X9_fillInto3 x (x 0 9) (x 0 10 + x 1 13 * (x 0 9 + x 0 10) / 1000) rg) rfl).trans ?_
  rfl
theorem ct_X9_thin (l : Launch) : ∀ args0 w0 v0 w1 rg, G_X9_thin args0 w0 = some (v0, w1) → pCT l yX9_thin (pWs yX9_thin cX9_thin 3 (none)) rm_X9_thin args0 w0 rg (v0, w1, rg) := by
  intro args0 w0 v0 w1 rg h
  unfold G_X9_thin at h
  split at h
  next  =>
    obtain ⟨m, hw, h2⟩ := unM_some h
    clear h
    subst hw
    cases h2
    exact met_of_exM (by decide) (ok_k_X9_thin l) rfl (run_X9_thin rg m  ) (Nat.le_of_ble_eq_true rfl) rfl rfl
  next => cases h
def F_X9_thin : pF := faN G_X9_thin
theorem ok_F_X9_thin (l : Launch) : pFOK l yX9_thin (pWs yX9_thin cX9_thin 3 (none)) rm_X9_thin F_X9_thin := pFOK_fa (fun a b c d rg h => ct_X9_thin l a b c d rg h)
theorem rc_F_X9_thin : pRcv 9 F_X9_thin := pRcv_fa (fun a b c d h => by
  unfold G_X9_thin at h
  split at h
  next =>
    obtain ⟨m, rfl, h⟩ := unM_some h
    exact ⟨_, _, _, rfl, rfl⟩
  next => cases h)
theorem cl_X9_thin (m : pLV)  (rg : pRg) : F_X9_thin [.ref 0] (mdl m) rg = some (none, mdl (thinM (NM m)), rg) := rfl
end
end
section
noncomputable section
def mdM (m : pLV) : Int32 := if rmI 2 - sumM 2 m ≤ m 1 2 then rmI 2 - sumM 2 m else m 1 2
def moM (m : pLV) : Int32 := if m 1 14 = m 1 10 then 0 else 1
def myM (m : pLV) : Int32 := if m 1 14 = m 1 10 then mdM m * m 1 3 / 1000 else 0
def rsM (x : pLV) (d o y t : Int32) : Int32 := if d = 0 then 0 else if o = 0 then (if x 1 3 = 0 then 1 else if y ≤ t then 0 else 2) else 3
def m3M (x : pLV) (d o y t : Int32) : pLV := vA x 1 (upd (x 1) 15 (rsM x d o y t))
def m2M (x1 x2 : pLV) (d o y : Int32) : pLV := m3M (fillM 2 (NM x2) (x1 0 9 + x2 0 9) (x1 0 10 + x2 0 10)) d o y (x1 0 9 + x1 0 10)
def m1M (x1 : pLV) (d o y : Int32) : pLV := m2M x1 (takeM 0 (NM x1) (d - (x1 0 9 + x1 0 10))) d o y
def m0M (x : pLV) (d o y : Int32) : pLV := m1M (takeM 1 (NM x) y) d o y
def mixM (m : pLV) : pLV := m0M (NM m) (mdM (NM m)) (moM (NM m)) (myM (NM m))
theorem dX9_mix_0 : decode cX9_mix 0 = .ok (.iconst 2, 1) := by decide +kernel
theorem dX9_mix_1 : decode cX9_mix 1 = .ok (.invokestatic 55, 3) := by decide +kernel
theorem dX9_mix_4 : decode cX9_mix 4 = .ok (.aload_n 0, 1) := by decide +kernel
theorem dX9_mix_5 : decode cX9_mix 5 = .ok (.iconst 2, 1) := by decide +kernel
theorem dX9_mix_6 : decode cX9_mix 6 = .ok (.invokevirtual 45, 3) := by decide +kernel
theorem dX9_mix_9 : decode cX9_mix 9 = .ok (.isub, 1) := by decide +kernel
theorem dX9_mix_10 : decode cX9_mix 10 = .ok (.istore_n 1, 1) := by decide +kernel
theorem dX9_mix_11 : decode cX9_mix 11 = .ok (.aload_n 0, 1) := by decide +kernel
theorem dX9_mix_12 : decode cX9_mix 12 = .ok (.getfield 7, 3) := by decide +kernel
theorem dX9_mix_15 : decode cX9_mix 15 = .ok (.iconst 2, 1) := by decide +kernel
theorem dX9_mix_16 : decode cX9_mix 16 = .ok (.iaload, 1) := by decide +kernel
theorem dX9_mix_17 : decode cX9_mix 17 = .ok (.iload_n 1, 1) := by decide +kernel
theorem dX9_mix_18 : decode cX9_mix 18 = .ok (.if_icmp .ge 12, 3) := by decide +kernel
theorem dX9_mix_21 : decode cX9_mix 21 = .ok (.aload_n 0, 1) := by decide +kernel
theorem dX9_mix_22 : decode cX9_mix 22 = .ok (.getfield 7, 3) := by decide +kernel
theorem dX9_mix_25 : decode cX9_mix 25 = .ok (.iconst 2, 1) := by decide +kernel
theorem dX9_mix_26 : decode cX9_mix 26 = .ok (.iaload, 1) := by decide +kernel
theorem dX9_mix_27 : decode cX9_mix 27 = .ok (.goto 4, 3) := by decide +kernel
theorem dX9_mix_30 : decode cX9_mix 30 = .ok (.iload_n 1, 1) := by decide +kernel
theorem dX9_mix_31 : decode cX9_mix 31 = .ok (.istore_n 2, 1) := by decide +kernel
theorem dX9_mix_32 : decode cX9_mix 32 = .ok (.aload_n 0, 1) := by decide +kernel
theorem dX9_mix_33 : decode cX9_mix 33 = .ok (.getfield 7, 3) := by decide +kernel
theorem dX9_mix_36 : decode cX9_mix 36 = .ok (.bipush 14, 2) := by decide +kernel
theorem dX9_mix_38 : decode cX9_mix 38 = .ok (.iaload, 1) := by decide +kernel
theorem dX9_mix_39 : decode cX9_mix 39 = .ok (.aload_n 0, 1) := by decide +kernel
theorem dX9_mix_40 : decode cX9_mix 40 = .ok (.getfield 7, 3) := by decide +kernel
theorem dX9_mix_43 : decode cX9_mix 43 = .ok (.bipush 10, 2) := by decide +kernel
theorem dX9_mix_45 : decode cX9_mix 45 = .ok (.iaload, 1) := by decide +kernel
theorem dX9_mix_46 : decode cX9_mix 46 = .ok (.if_icmp .eq 7, 3) := by decide +kernel
theorem dX9_mix_49 : decode cX9_mix 49 = .ok (.iconst 1, 1) := by decide +kernel
theorem dX9_mix_50 : decode cX9_mix 50 = .ok (.goto 4, 3) := by decide +kernel
theorem dX9_mix_53 : decode cX9_mix 53 = .ok (.iconst 0, 1) := by decide +kernel
theorem dX9_mix_54 : decode cX9_mix 54 = .ok (.istore_n 3, 1) := by decide +kernel
theorem dX9_mix_55 : decode cX9_mix 55 = .ok (.iload_n 3, 1) := by decide +kernel
theorem dX9_mix_56 : decode cX9_mix 56 = .ok (.ifCond .eq 7, 3) := by decide +kernel
theorem dX9_mix_59 : decode cX9_mix 59 = .ok (.iconst 0, 1) := by decide +kernel
theorem dX9_mix_60 : decode cX9_mix 60 = .ok (.goto 15, 3) := by decide +kernel
theorem dX9_mix_63 : decode cX9_mix 63 = .ok (.iload_n 2, 1) := by decide +kernel
theorem dX9_mix_64 : decode cX9_mix 64 = .ok (.aload_n 0, 1) := by decide +kernel
theorem dX9_mix_65 : decode cX9_mix 65 = .ok (.getfield 7, 3) := by decide +kernel
theorem dX9_mix_68 : decode cX9_mix 68 = .ok (.iconst 3, 1) := by decide +kernel
theorem dX9_mix_69 : decode cX9_mix 69 = .ok (.iaload, 1) := by decide +kernel
theorem dX9_mix_70 : decode cX9_mix 70 = .ok (.imul, 1) := by decide +kernel
theorem dX9_mix_71 : decode cX9_mix 71 = .ok (.sipush 1000, 3) := by decide +kernel
theorem dX9_mix_74 : decode cX9_mix 74 = .ok (.idiv, 1) := by decide +kernel
theorem dX9_mix_75 : decode cX9_mix 75 = .ok (.istore 4, 2) := by decide +kernel
theorem dX9_mix_77 : decode cX9_mix 77 = .ok (.aload_n 0, 1) := by decide +kernel
theorem dX9_mix_78 : decode cX9_mix 78 = .ok (.iconst 1, 1) := by decide +kernel
theorem dX9_mix_79 : decode cX9_mix 79 = .ok (.iload 4, 2) := by decide +kernel
theorem dX9_mix_81 : decode cX9_mix 81 = .ok (.invokevirtual 62, 3) := by decide +kernel
theorem dX9_mix_84 : decode cX9_mix 84 = .ok (.aload_n 0, 1) := by decide +kernel
theorem dX9_mix_85 : decode cX9_mix 85 = .ok (.getfield 49, 3) := by decide +kernel
theorem dX9_mix_88 : decode cX9_mix 88 = .ok (.aload_n 0, 1) := by decide +kernel
theorem dX9_mix_89 : decode cX9_mix 89 = .ok (.getfield 52, 3) := by decide +kernel
theorem dX9_mix_92 : decode cX9_mix 92 = .ok (.iadd, 1) := by decide +kernel
theorem dX9_mix_93 : decode cX9_mix 93 = .ok (.istore 5, 2) := by decide +kernel
theorem dX9_mix_95 : decode cX9_mix 95 = .ok (.aload_n 0, 1) := by decide +kernel
theorem dX9_mix_96 : decode cX9_mix 96 = .ok (.getfield 49, 3) := by decide +kernel
theorem dX9_mix_99 : decode cX9_mix 99 = .ok (.istore 6, 2) := by decide +kernel
theorem dX9_mix_101 : decode cX9_mix 101 = .ok (.aload_n 0, 1) := by decide +kernel
theorem dX9_mix_102 : decode cX9_mix 102 = .ok (.getfield 52, 3) := by decide +kernel
theorem dX9_mix_105 : decode cX9_mix 105 = .ok (.istore 7, 2) := by decide +kernel
theorem dX9_mix_107 : decode cX9_mix 107 = .ok (.aload_n 0, 1) := by decide +kernel
theorem dX9_mix_108 : decode cX9_mix 108 = .ok (.iconst 0, 1) := by decide +kernel
theorem dX9_mix_109 : decode cX9_mix 109 = .ok (.iload_n 2, 1) := by decide +kernel
theorem dX9_mix_110 : decode cX9_mix 110 = .ok (.iload 5, 2) := by decide +kernel
theorem dX9_mix_112 : decode cX9_mix 112 = .ok (.isub, 1) := by decide +kernel
theorem dX9_mix_113 : decode cX9_mix 113 = .ok (.invokevirtual 62, 3) := by decide +kernel
theorem dX9_mix_116 : decode cX9_mix 116 = .ok (.aload_n 0, 1) := by decide +kernel
theorem dX9_mix_117 : decode cX9_mix 117 = .ok (.iconst 2, 1) := by decide +kernel
theorem dX9_mix_118 : decode cX9_mix 118 = .ok (.iload 6, 2) := by decide +kernel
theorem dX9_mix_120 : decode cX9_mix 120 = .ok (.aload_n 0, 1) := by decide +kernel
theorem dX9_mix_121 : decode cX9_mix 121 = .ok (.getfield 49, 3) := by decide +kernel
theorem dX9_mix_124 : decode cX9_mix 124 = .ok (.iadd, 1) := by decide +kernel
theorem dX9_mix_125 : decode cX9_mix 125 = .ok (.iload 7, 2) := by decide +kernel
theorem dX9_mix_127 : decode cX9_mix 127 = .ok (.aload_n 0, 1) := by decide +kernel
theorem dX9_mix_128 : decode cX9_mix 128 = .ok (.getfield 52, 3) := by decide +kernel
theorem dX9_mix_131 : decode cX9_mix 131 = .ok (.iadd, 1) := by decide +kernel
theorem dX9_mix_132 : decode cX9_mix 132 = .ok (.invokevirtual 73, 3) := by decide +kernel
theorem dX9_mix_135 : decode cX9_mix 135 = .ok (.istore 8, 2) := by decide +kernel
theorem dX9_mix_137 : decode cX9_mix 137 = .ok (.aload_n 0, 1) := by decide +kernel
theorem dX9_mix_138 : decode cX9_mix 138 = .ok (.getfield 7, 3) := by decide +kernel
theorem dX9_mix_141 : decode cX9_mix 141 = .ok (.bipush 15, 2) := by decide +kernel
theorem dX9_mix_143 : decode cX9_mix 143 = .ok (.iload_n 2, 1) := by decide +kernel
theorem dX9_mix_144 : decode cX9_mix 144 = .ok (.ifCond .ne 7, 3) := by decide +kernel
theorem dX9_mix_147 : decode cX9_mix 147 = .ok (.iconst 0, 1) := by decide +kernel
theorem dX9_mix_148 : decode cX9_mix 148 = .ok (.goto 36, 3) := by decide +kernel
theorem dX9_mix_151 : decode cX9_mix 151 = .ok (.iload_n 3, 1) := by decide +kernel
theorem dX9_mix_152 : decode cX9_mix 152 = .ok (.ifCond .eq 7, 3) := by decide +kernel
theorem dX9_mix_155 : decode cX9_mix 155 = .ok (.iconst 3, 1) := by decide +kernel
theorem dX9_mix_156 : decode cX9_mix 156 = .ok (.goto 28, 3) := by decide +kernel
theorem dX9_mix_159 : decode cX9_mix 159 = .ok (.aload_n 0, 1) := by decide +kernel
theorem dX9_mix_160 : decode cX9_mix 160 = .ok (.getfield 7, 3) := by decide +kernel
theorem dX9_mix_163 : decode cX9_mix 163 = .ok (.iconst 3, 1) := by decide +kernel
theorem dX9_mix_164 : decode cX9_mix 164 = .ok (.iaload, 1) := by decide +kernel
theorem dX9_mix_165 : decode cX9_mix 165 = .ok (.ifCond .ne 7, 3) := by decide +kernel
theorem dX9_mix_168 : decode cX9_mix 168 = .ok (.iconst 1, 1) := by decide +kernel
theorem dX9_mix_169 : decode cX9_mix 169 = .ok (.goto 15, 3) := by decide +kernel
theorem dX9_mix_172 : decode cX9_mix 172 = .ok (.iload 5, 2) := by decide +kernel
theorem dX9_mix_174 : decode cX9_mix 174 = .ok (.iload 4, 2) := by decide +kernel
theorem dX9_mix_176 : decode cX9_mix 176 = .ok (.if_icmp .ge 7, 3) := by decide +kernel
theorem dX9_mix_179 : decode cX9_mix 179 = .ok (.iconst 2, 1) := by decide +kernel
theorem dX9_mix_180 : decode cX9_mix 180 = .ok (.goto 4, 3) := by decide +kernel
theorem dX9_mix_183 : decode cX9_mix 183 = .ok (.iconst 0, 1) := by decide +kernel
theorem dX9_mix_184 : decode cX9_mix 184 = .ok (.iastore, 1) := by decide +kernel
theorem dX9_mix_185 : decode cX9_mix 185 = .ok (.return_, 1) := by decide +kernel
def k_X9_mix : List pEn := [oConst (2), oCall 1 F_X9_roomOf, oAload 0, oConst (2), oCallZ 2 F_X9_sum, oSub, oIstore 1, oAload 0, oGet 9 0, oConst (2), oIaldN 2, oIload 1, oCge 18, oAload 0, oGet 9 0, oConst (2), oIaldN 2, oGoto 19, oIload 1, oIstore 2, oAload 0, oGet 9 0, oConst (14), oIaldN 14, oAload 0, oGet 9 0, oConst (10), oIaldN 10, oCeq 31, oConst (1), oGoto 32, oConst (0), oIstore 3, oIload 3, oIfeq 37, oConst (0), oGoto 45, oIload 2, oAload 0, oGet 9 0, oConst (3), oIaldN 3, oMul, oConst (1000), oDivL, oIstore 4, oAload 0, oConst (1), oIload 4, oCallZ 3 F_X9_takeFrom, oAload 0, oGet 9 9, oAload 0, oGet 9 10, oAdd, oIstore 5, oAload 0, oGet 9 9, oIstore 6, oAload 0, oGet 9 10, oIstore 7, oAload 0, oConst (0), oIload 2, oIload 5, oSub, oCallZ 3 F_X9_takeFrom, oAload 0, oConst (2), oIload 6, oAload 0, oGet 9 9, oAdd, oIload 7, oAload 0, oGet 9 10, oAdd, oCallZ 4 F_X9_fillInto, oIstore 8, oAload 0, oGet 9 0, oConst (15), oIload 2, oIfne 87, oConst (0), oGoto 104, oIload 3, oIfeq 91, oConst (3), oGoto 104, oAload 0, oGet 9 0, oConst (3), oIaldN 3, oIfne 98, oConst (1), oGoto 104, oIload 5, oIload 4, oCge 103, oConst (2), oGoto 104, oConst (0), oIastN 15, oVret]
def pc_X9_mix (i : Nat) : Nat := ([0, 1, 4, 5, 6, 9, 10, 11, 12, 15, 16, 17, 18, 21, 22, 25, 26, 27, 30, 31, 32, 33, 36, 38, 39, 40, 43, 45, 46, 49, 50, 53, 54, 55, 56, 59, 60, 63, 64, 65, 68, 69, 70, 71, 74, 75, 77, 78, 79, 81, 84, 85, 88, 89, 92, 93, 95, 96, 99, 101, 102, 105, 107, 108, 109, 110, 112, 113, 116, 117, 118, 120, 121, 124, 125, 127, 128, 131, 132, 135, 137, 138, 141, 143, 144, 147, 148, 151, 152, 155, 156, 159, 160, 163, 164, 165, 168, 169, 172, 174, 176, 179, 180, 183, 184, 185] : List Nat).getD i 0
abbrev rm_X9_mix : Room := { frames := 3, cells := 0, slots := 0, locals := 69 }
theorem pl_X9_mix : pPlain yX9_mix 0 := by decide +kernel
set_option maxRecDepth 100000 in
set_option maxHeartbeats 4000000 in
theorem ok_k_X9_mix (l : Launch) : ∀ (i : Nat) (en : pEn), k_X9_mix[i]? = some en → EOK l cX9_mix yX9_mix.cls 9 (none) rm_X9_mix 0 pc_X9_mix i en := by
  refine allOK_at ?_
  refine And.intro (okIconst dX9_mix_0 rfl (by first | rfl | decide)) ?_
  refine And.intro (okCallS (y := yX9_roomOf) (oCall_is _ _ _) dX9_mix_1 rfl (ok_F_X9_roomOf l) wm_4_18 wm_4_19 wm_1_10 wm_4_20 pl_X9_roomOf (by decide)) ?_
  refine And.intro (okAload_n dX9_mix_4 rfl rfl) ?_
  refine And.intro (okIconst dX9_mix_5 rfl (by first | rfl | decide)) ?_
  refine And.intro (okCallV (y := yX9_sum) (T := TX9) (oCallZ_is _ _ _) dX9_mix_6 rfl (ok_F_X9_sum l) rc_F_X9_sum rfl wm_4_14 wm_4_16 wp_20 wm_1_10 wm_4_17 pl_X9_sum (by decide)) ?_
  refine And.intro (okSub dX9_mix_9 rfl) ?_
  refine And.intro (okIstore_n dX9_mix_10 rfl rfl (by decide)) ?_
  refine And.intro (okAload_n dX9_mix_11 rfl rfl) ?_
  refine And.intro (okGet (C := RX9) (T := TX9) (N := 22) dX9_mix_12 rfl rfl (by decide) inX9 wm_3_141) ?_
  refine And.intro (okIconst dX9_mix_15 rfl (by first | rfl | decide)) ?_
  refine And.intro (okIaldN dX9_mix_16 rfl) ?_
  refine And.intro (okIload_n dX9_mix_17 rfl rfl) ?_
  refine And.intro (okCge dX9_mix_18 rfl (by rfl)) ?_
  refine And.intro (okAload_n dX9_mix_21 rfl rfl) ?_
  refine And.intro (okGet (C := RX9) (T := TX9) (N := 22) dX9_mix_22 rfl rfl (by decide) inX9 wm_3_141) ?_
  refine And.intro (okIconst dX9_mix_25 rfl (by first | rfl | decide)) ?_
  refine And.intro (okIaldN dX9_mix_26 rfl) ?_
  refine And.intro (okGoto dX9_mix_27 (by rfl)) ?_
  refine And.intro (okIload_n dX9_mix_30 rfl rfl) ?_
  refine And.intro (okIstore_n dX9_mix_31 rfl rfl (by decide)) ?_
  refine And.intro (okAload_n dX9_mix_32 rfl rfl) ?_
  refine And.intro (okGet (C := RX9) (T := TX9) (N := 22) dX9_mix_33 rfl rfl (by decide) inX9 wm_3_141) ?_
  refine And.intro (okBipush dX9_mix_36 rfl (by first | rfl | decide)) ?_
  refine And.intro (okIaldN dX9_mix_38 rfl) ?_
  refine And.intro (okAload_n dX9_mix_39 rfl rfl) ?_
  refine And.intro (okGet (C := RX9) (T := TX9) (N := 22) dX9_mix_40 rfl rfl (by decide) inX9 wm_3_141) ?_
  refine And.intro (okBipush dX9_mix_43 rfl (by first | rfl | decide)) ?_
  refine And.intro (okIaldN dX9_mix_45 rfl) ?_
  refine And.intro (okCeq dX9_mix_46 rfl (by rfl)) ?_
  refine And.intro (okIconst dX9_mix_49 rfl (by first | rfl | decide)) ?_
  refine And.intro (okGoto dX9_mix_50 (by rfl)) ?_
  refine And.intro (okIconst dX9_mix_53 rfl (by first | rfl | decide)) ?_
  refine And.intro (okIstore_n dX9_mix_54 rfl rfl (by decide)) ?_
  refine And.intro (okIload_n dX9_mix_55 rfl rfl) ?_
  refine And.intro (okIfeq dX9_mix_56 rfl (by rfl)) ?_
  refine And.intro (okIconst dX9_mix_59 rfl (by first | rfl | decide)) ?_
  refine And.intro (okGoto dX9_mix_60 (by rfl)) ?_
  refine And.intro (okIload_n dX9_mix_63 rfl rfl) ?_
  refine And.intro (okAload_n dX9_mix_64 rfl rfl) ?_
  refine And.intro (okGet (C := RX9) (T := TX9) (N := 22) dX9_mix_65 rfl rfl (by decide) inX9 wm_3_141) ?_
  refine And.intro (okIconst dX9_mix_68 rfl (by first | rfl | decide)) ?_
  refine And.intro (okIaldN dX9_mix_69 rfl) ?_
  refine And.intro (okMul dX9_mix_70 rfl) ?_
  refine And.intro (okSipush dX9_mix_71 rfl (by first | rfl | decide)) ?_
  refine And.intro (okDivL dX9_mix_74 rfl) ?_
  refine And.intro (okIstore dX9_mix_75 rfl (by decide)) ?_
  refine And.intro (okAload_n dX9_mix_77 rfl rfl) ?_
  refine And.intro (okIconst dX9_mix_78 rfl (by first | rfl | decide)) ?_
  refine And.intro (okIload dX9_mix_79 rfl) ?_
  refine And.intro (okCallV (y := yX9_takeFrom) (T := TX9) (oCallZ_is _ _ _) dX9_mix_81 rfl (ok_F_X9_takeFrom l) rc_F_X9_takeFrom rfl wm_4_21 wm_4_23 wp_21 wm_1_10 wm_4_24 pl_X9_takeFrom (by decide)) ?_
  refine And.intro (okAload_n dX9_mix_84 rfl rfl) ?_
  refine And.intro (okGet (C := RX9) (T := TX9) (N := 22) dX9_mix_85 rfl rfl (by decide) inX9 wm_3_150) ?_
  refine And.intro (okAload_n dX9_mix_88 rfl rfl) ?_
  refine And.intro (okGet (C := RX9) (T := TX9) (N := 22) dX9_mix_89 rfl rfl (by decide) inX9 wm_3_151) ?_
  refine And.intro (okAdd dX9_mix_92 rfl) ?_
  refine And.intro (okIstore dX9_mix_93 rfl (by decide)) ?_
  refine And.intro (okAload_n dX9_mix_95 rfl rfl) ?_
  refine And.intro (okGet (C := RX9) (T := TX9) (N := 22) dX9_mix_96 rfl rfl (by decide) inX9 wm_3_150) ?_
  refine And.intro (okIstore dX9_mix_99 rfl (by decide)) ?_
  refine And.intro (okAload_n dX9_mix_101 rfl rfl) ?_
  refine And.intro (okGet (C := RX9) (T := TX9) (N := 22) dX9_mix_102 rfl rfl (by decide) inX9 wm_3_151) ?_
  refine And.intro (okIstore dX9_mix_105 rfl (by decide)) ?_
  refine And.intro (okAload_n dX9_mix_107 rfl rfl) ?_
  refine And.intro (okIconst dX9_mix_108 rfl (by first | rfl | decide)) ?_
  refine And.intro (okIload_n dX9_mix_109 rfl rfl) ?_
  refine And.intro (okIload dX9_mix_110 rfl) ?_
  refine And.intro (okSub dX9_mix_112 rfl) ?_
  refine And.intro (okCallV (y := yX9_takeFrom) (T := TX9) (oCallZ_is _ _ _) dX9_mix_113 rfl (ok_F_X9_takeFrom l) rc_F_X9_takeFrom rfl wm_4_21 wm_4_23 wp_21 wm_1_10 wm_4_24 pl_X9_takeFrom (by decide)) ?_
  refine And.intro (okAload_n dX9_mix_116 rfl rfl) ?_
  refine And.intro (okIconst dX9_mix_117 rfl (by first | rfl | decide)) ?_
  refine And.intro (okIload dX9_mix_118 rfl) ?_
  refine And.intro (okAload_n dX9_mix_120 rfl rfl) ?_
  refine And.intro (okGet (C := RX9) (T := TX9) (N := 22) dX9_mix_121 rfl rfl (by decide) inX9 wm_3_150) ?_
  refine And.intro (okAdd dX9_mix_124 rfl) ?_
  refine And.intro (okIload dX9_mix_125 rfl) ?_
  refine And.intro (okAload_n dX9_mix_127 rfl rfl) ?_
  refine And.intro (okGet (C := RX9) (T := TX9) (N := 22) dX9_mix_128 rfl rfl (by decide) inX9 wm_3_151) ?_
  refine And.intro (okAdd dX9_mix_131 rfl) ?_
  refine And.intro (okCallV (y := yX9_fillInto) (T := TX9) (oCallZ_is _ _ _) dX9_mix_132 rfl (ok_F_X9_fillInto l) rc_F_X9_fillInto rfl wm_4_10 wm_4_12 wp_19 wm_1_10 wm_4_13 pl_X9_fillInto (by decide)) ?_
  refine And.intro (okIstore dX9_mix_135 rfl (by decide)) ?_
  refine And.intro (okAload_n dX9_mix_137 rfl rfl) ?_
  refine And.intro (okGet (C := RX9) (T := TX9) (N := 22) dX9_mix_138 rfl rfl (by decide) inX9 wm_3_141) ?_
  refine And.intro (okBipush dX9_mix_141 rfl (by first | rfl | decide)) ?_
  refine And.intro (okIload_n dX9_mix_143 rfl rfl) ?_
  refine And.intro (okIfne dX9_mix_144 rfl (by rfl)) ?_
  refine And.intro (okIconst dX9_mix_147 rfl (by first | rfl | decide)) ?_
  refine And.intro (okGoto dX9_mix_148 (by rfl)) ?_
  refine And.intro (okIload_n dX9_mix_151 rfl rfl) ?_
  refine And.intro (okIfeq dX9_mix_152 rfl (by rfl)) ?_
  refine And.intro (okIconst dX9_mix_155 rfl (by first | rfl | decide)) ?_
  refine And.intro (okGoto dX9_mix_156 (by rfl)) ?_
  refine And.intro (okAload_n dX9_mix_159 rfl rfl) ?_
  refine And.intro (okGet (C := RX9) (T := TX9) (N := 22) dX9_mix_160 rfl rfl (by decide) inX9 wm_3_141) ?_
  refine And.intro (okIconst dX9_mix_163 rfl (by first | rfl | decide)) ?_
  refine And.intro (okIaldN dX9_mix_164 rfl) ?_
  refine And.intro (okIfne dX9_mix_165 rfl (by rfl)) ?_
  refine And.intro (okIconst dX9_mix_168 rfl (by first | rfl | decide)) ?_
  refine And.intro (okGoto dX9_mix_169 (by rfl)) ?_
  refine And.intro (okIload dX9_mix_172 rfl) ?_
  refine And.intro (okIload dX9_mix_174 rfl) ?_
  refine And.intro (okCge dX9_mix_176 rfl (by rfl)) ?_
  refine And.intro (okIconst dX9_mix_179 rfl (by first | rfl | decide)) ?_
  refine And.intro (okGoto dX9_mix_180 (by rfl)) ?_
  refine And.intro (okIconst dX9_mix_183 rfl (by first | rfl | decide)) ?_
  refine And.intro (okIastN dX9_mix_184 rfl) ?_
  refine And.intro (okVret dX9_mix_185 rfl) ?_
  exact trivial
def G_X9_mix : pG := fun args w => match args with
  | [.ref 0] => unM w (fun m => some (none, mdl (mixM m)))
  | _ => none
set_option maxHeartbeats 400000 in
set_option maxRecDepth 100000 in
theorem run_X9_mix (rg : pRg) (m : pLV)   : ∃ fu, ex k_X9_mix fu 0 [(0, .ref 0)] [] (mdl m) rg = some (none, mdl (mixM m), rg) := by
  refine ⟨60, ?_⟩
  conv => lhs; whnf
  refine (callK_r (cl_X9_sum2 m rg) rfl).trans ?_
  conv => lhs; whnf
  refine pif_c (fun h => ?_) (fun h => ?_)
  · conv => lhs; whnf
    refine pif_c (fun h2 => ?_) (fun h2 => ?_)
    · have e1 : mdM (NM m) = rmI 2 - sumM 2 (NM m) := if_pos h
      have e2 : moM (NM m) = 0 := if_pos h2
      have e3 : myM (NM m) = mdM (NM m) * m 1 3 / 1000 := if_pos h2
      conv => lhs; whnf
      refine (pif_t (by decide)).trans ?_
      unfold mixM
      rw [e3, e2, e1]
      conv => lhs; whnf
      refine (callK_v (cl_X9_takeFrom1 (NM m) ((rmI 2 - sumM 2 (NM m)) * m 1 3 / 1000) rg) rfl).trans ?_
      unfold m0M
      generalize takeM 1 (NM (NM m)) ((rmI 2 - sumM 2 (NM m)) * m 1 3 / 1000) = x1
      revert x1; refine id ?_; intro x1
      conv => lhs; whnf
      refine (callK_v (cl_X9_takeFrom0 x1 (rmI 2 - sumM 2 (NM m) - (x1 0 9 + x1 0 10)) rg) rfl).trans ?_
      unfold m1M
      generalize takeM 0 (NM x1) (rmI 2 - sumM 2 (NM m) - (x1 0 9 + x1 0 10)) = x2
      revert x2; refine id ?_; intro x2
      conv => lhs; whnf
      refine (callK_r (cl_X9_fillInto2 x2 (x1 0 9 + x2 0 9) (x1 0 10 + x2 0 10) rg) rfl).trans ?_
      unfold m2M
      generalize fillM 2 (NM x2) (x1 0 9 + x2 0 9) (x1 0 10 + x2 0 10) = x3
      revert x3; refine id ?_; intro x3
      conv => lhs; whnf
      unfold m3M
      refine pif_c (fun g1 => ?_) (fun g1 => ?_)
      · rw [show rsM x3 (rmI 2 - sumM 2 (NM m)) (0) ((rmI 2 - sumM 2 (NM m)) * m 1 3 / 1000) (x1 0 9 + x1 0 10) = 0 from by unfold rsM; rw [if_pos (show rmI 2 - sumM 2 (NM m) = 0 from g1)]]
        rfl
      · conv => lhs; whnf
        refine (pif_t (by decide)).trans ?_
        conv => lhs; whnf
        refine pif_c (fun g2 => ?_) (fun g2 => ?_)
        · rw [show rsM x3 (rmI 2 - sumM 2 (NM m)) (0) ((rmI 2 - sumM 2 (NM m)) * m 1 3 / 1000) (x1 0 9 + x1 0 10) = 1 from by unfold rsM; rw [if_neg (show ¬ rmI 2 - sumM 2 (NM m) = 0 from g1), if_pos (show (0 : Int32) = 0 from rfl), if_pos g2]]
          rfl
        · conv => lhs; whnf
          refine pif_c (fun g3 => ?_) (fun g3 => ?_)
          · rw [show rsM x3 (rmI 2 - sumM 2 (NM m)) (0) ((rmI 2 - sumM 2 (NM m)) * m 1 3 / 1000) (x1 0 9 + x1 0 10) = 0 from by unfold rsM; rw [if_neg (show ¬ rmI 2 - sumM 2 (NM m) = 0 from g1), if_pos (show (0 : Int32) = 0 from rfl), if_neg g2, if_pos (show (rmI 2 - sumM 2 (NM m)) * m 1 3 / 1000 ≤ x1 0 9 + x1 0 10 from g3)]]
            rfl
          · rw [show rsM x3 (rmI 2 - sumM 2 (NM m)) (0) ((rmI 2 - sumM 2 (NM m)) * m 1 3 / 1000) (x1 0 9 + x1 0 10) = 2 from by unfold rsM; rw [if_neg (show ¬ rmI 2 - sumM 2 (NM m) = 0 from g1), if_pos (show (0 : Int32) = 0 from rfl), if_neg g2, if_neg (show ¬ (rmI 2 - sumM 2 (NM m)) * m 1 3 / 1000 ≤ x1 0 9 + x1 0 10 from g3)]]
            rfl
    · have e1 : mdM (NM m) = rmI 2 - sumM 2 (NM m) := if_pos h
      have e2 : moM (NM m) = 1 := if_neg h2
      have e3 : myM (NM m) = 0 := if_neg h2
      conv => lhs; whnf
      refine (pif_f (by decide)).trans ?_
      unfold mixM
      rw [e3, e2, e1]
      conv => lhs; whnf
      refine (callK_v (cl_X9_takeFrom1 (NM m) (0) rg) rfl).trans ?_
      unfold m0M
      generalize takeM 1 (NM (NM m)) (0) = x1
      revert x1; refine id ?_; intro x1
      conv => lhs; whnf
      refine (callK_v (cl_X9_takeFrom0 x1 (rmI 2 - sumM 2 (NM m) - (x1 0 9 + x1 0 10)) rg) rfl).trans ?_
      unfold m1M
      generalize takeM 0 (NM x1) (rmI 2 - sumM 2 (NM m) - (x1 0 9 + x1 0 10)) = x2
      revert x2; refine id ?_; intro x2
      conv => lhs; whnf
      refine (callK_r (cl_X9_fillInto2 x2 (x1 0 9 + x2 0 9) (x1 0 10 + x2 0 10) rg) rfl).trans ?_
      unfold m2M
      generalize fillM 2 (NM x2) (x1 0 9 + x2 0 9) (x1 0 10 + x2 0 10) = x3
      revert x3; refine id ?_; intro x3
      conv => lhs; whnf
      unfold m3M
      refine pif_c (fun g1 => ?_) (fun g1 => ?_)
      · rw [show rsM x3 (rmI 2 - sumM 2 (NM m)) (1) (0) (x1 0 9 + x1 0 10) = 0 from by unfold rsM; rw [if_pos (show rmI 2 - sumM 2 (NM m) = 0 from g1)]]
        rfl
      · conv => lhs; whnf
        refine (pif_f (by decide)).trans ?_
        rw [show rsM x3 (rmI 2 - sumM 2 (NM m)) (1) (0) (x1 0 9 + x1 0 10) = 3 from by unfold rsM; rw [if_neg (show ¬ rmI 2 - sumM 2 (NM m) = 0 from g1), if_neg (show ¬ (1 : Int32) = 0 by decide)]]
        rfl
  · conv => lhs; whnf
    refine pif_c (fun h2 => ?_) (fun h2 => ?_)
    · have e1 : mdM (NM m) = m 1 2 := if_neg h
      have e2 : moM (NM m) = 0 := if_pos h2
      have e3 : myM (NM m) = mdM (NM m) * m 1 3 / 1000 := if_pos h2
      conv => lhs; whnf
      refine (pif_t (by decide)).trans ?_
      unfold mixM
      rw [e3, e2, e1]
      conv => lhs; whnf
      refine (callK_v (cl_X9_takeFrom1 (NM m) ((m 1 2) * m 1 3 / 1000) rg) rfl).trans ?_
      unfold m0M
      generalize takeM 1 (NM (NM m)) ((m 1 2) * m 1 3 / 1000) = x1
      revert x1; refine id ?_; intro x1
      conv => lhs; whnf
      refine (callK_v (cl_X9_takeFrom0 x1 (m 1 2 - (x1 0 9 + x1 0 10)) rg) rfl).trans ?_
      unfold m1M
      generalize takeM 0 (NM x1) (m 1 2 - (x1 0 9 + x1 0 10)) = x2
      revert x2; refine id ?_; intro x2
      conv => lhs; whnf
      refine (callK_r (cl_X9_fillInto2 x2 (x1 0 9 + x2 0 9) (x1 0 10 + x2 0 10) rg) rfl).trans ?_
      unfold m2M
      generalize fillM 2 (NM x2) (x1 0 9 + x2 0 9) (x1 0 10 + x2 0 10) = x3
      revert x3; refine id ?_; intro x3
      conv => lhs; whnf
      unfold m3M
      refine pif_c (fun g1 => ?_) (fun g1 => ?_)
      · rw [show rsM x3 (m 1 2) (0) ((m 1 2) * m 1 3 / 1000) (x1 0 9 + x1 0 10) = 0 from by unfold rsM; rw [if_pos (show m 1 2 = 0 from g1)]]
        rfl
      · conv => lhs; whnf
        refine (pif_t (by decide)).trans ?_
        conv => lhs; whnf
        refine pif_c (fun g2 => ?_) (fun g2 => ?_)
        · rw [show rsM x3 (m 1 2) (0) ((m 1 2) * m 1 3 / 1000) (x1 0 9 + x1 0 10) = 1 from by unfold rsM; rw [if_neg (show ¬ m 1 2 = 0 from g1), if_pos (show (0 : Int32) = 0 from rfl), if_pos g2]]
          rfl
        · conv => lhs; whnf
          refine pif_c (fun g3 => ?_) (fun g3 => ?_)
          · rw [show rsM x3 (m 1 2) (0) ((m 1 2) * m 1 3 / 1000) (x1 0 9 + x1 0 10) = 0 from by unfold rsM; rw [if_neg (show ¬ m 1 2 = 0 from g1), if_pos (show (0 : Int32) = 0 from rfl), if_neg g2, if_pos (show (m 1 2) * m 1 3 / 1000 ≤ x1 0 9 + x1 0 10 from g3)]]
            rfl
          · rw [show rsM x3 (m 1 2) (0) ((m 1 2) * m 1 3 / 1000) (x1 0 9 + x1 0 10) = 2 from by unfold rsM; rw [if_neg (show ¬ m 1 2 = 0 from g1), if_pos (show (0 : Int32) = 0 from rfl), if_neg g2, if_neg (show ¬ (m 1 2) * m 1 3 / 1000 ≤ x1 0 9 + x1 0 10 from g3)]]
            rfl
    · have e1 : mdM (NM m) = m 1 2 := if_neg h
      have e2 : moM (NM m) = 1 := if_neg h2
      have e3 : myM (NM m) = 0 := if_neg h2
      conv => lhs; whnf
      refine (pif_f (by decide)).trans ?_
      unfold mixM
      rw [e3, e2, e1]
      conv => lhs; whnf
      refine (callK_v (cl_X9_takeFrom1 (NM m) (0) rg) rfl).trans ?_
      unfold m0M
      generalize takeM 1 (NM (NM m)) (0) = x1
      revert x1; refine id ?_; intro x1
      conv => lhs; whnf
      refine (callK_v (cl_X9_takeFrom0 x1 (m 1 2 - (x1 0 9 + x1 0 10)) rg) rfl).trans ?_
      unfold m1M
      generalize takeM 0 (NM x1) (m 1 2 - (x1 0 9 + x1 0 10)) = x2
      revert x2; refine id ?_; intro x2
      conv => lhs; whnf
      refine (callK_r (cl_X9_fillInto2 x2 (x1 0 9 + x2 0 9) (x1 0 10 + x2 0 10) rg) rfl).trans ?_
      unfold m2M
      generalize fillM 2 (NM x2) (x1 0 9 + x2 0 9) (x1 0 10 + x2 0 10) = x3
      revert x3; refine id ?_; intro x3
      conv => lhs; whnf
      unfold m3M
      refine pif_c (fun g1 => ?_) (fun g1 => ?_)
      · rw [show rsM x3 (m 1 2) (1) (0) (x1 0 9 + x1 0 10) = 0 from by unfold rsM; rw [if_pos (show m 1 2 = 0 from g1)]]
        rfl
      · conv => lhs; whnf
        refine (pif_f (by decide)).trans ?_
        rw [show rsM x3 (m 1 2) (1) (0) (x1 0 9 + x1 0 10) = 3 from by unfold rsM; rw [if_neg (show ¬ m 1 2 = 0 from g1), if_neg (show ¬ (1 : Int32) = 0 by decide)]]
        rfl
theorem ct_X9_mix (l : Launch) : ∀ args0 w0 v0 w1 rg, G_X9_mix args0 w0 = some (v0, w1) → pCT l yX9_mix (pWs yX9_mix cX9_mix 9 (none)) rm_X9_mix args0 w0 rg (v0, w1, rg) := by
  intro args0 w0 v0 w1 rg h
  unfold G_X9_mix at h
  split at h
  next  =>
    obtain ⟨m, hw, h2⟩ := unM_some h
    clear h
    subst hw
    cases h2
    exact met_of_exM (by decide) (ok_k_X9_mix l) rfl (run_X9_mix rg m  ) (Nat.le_of_ble_eq_true rfl) rfl rfl
  next => cases h
def F_X9_mix : pF := faN G_X9_mix
theorem ok_F_X9_mix (l : Launch) : pFOK l yX9_mix (pWs yX9_mix cX9_mix 9 (none)) rm_X9_mix F_X9_mix := pFOK_fa (fun a b c d rg h => ct_X9_mix l a b c d rg h)
theorem rc_F_X9_mix : pRcv 9 F_X9_mix := pRcv_fa (fun a b c d h => by
  unfold G_X9_mix at h
  split at h
  next =>
    obtain ⟨m, rfl, h⟩ := unM_some h
    exact ⟨_, _, _, rfl, rfl⟩
  next => cases h)
theorem cl_X9_mix (m : pLV)  (rg : pRg) : F_X9_mix [.ref 0] (mdl m) rg = some (none, mdl (mixM (NM m)), rg) := rfl
end
end
section
noncomputable section
/-! THE REFERENCE, FURTHER -/
def shW (f : Nat → Int32) : Nat → Nat → Int32
  | 0 => f
  | k + 1 => upd (shW f k) (48 - k) (shW f k (47 - k))
def k3I (x : Int32) : Int32 := x + (if x < 9 then 1 else 0)
def k3W (f : Nat → Int32) (c : Int32) : Nat → Int32 := upd (upd (upd f 16 c) 40 c) 39 (k3I (f 39))
def clpI (v : Int32) : Int32 := if v < 0 then 0 else if 3000 < v then 3000 else v
def clV (f : Nat → Int32) : Nat → Int32 := if f 5 < f 39 then upd f 13 (clpI (f 13 + (f (40 + f 5).toNatClampNeg - f 4) * f 6)) else f
def ct1M (x : pLV) (c : Int32) : pLV := vA x 1 (clV (k3W (x 1) c))
def ctlM (m : pLV) : pLV := ct1M (NM (vA m 1 (shW (m 1) 8))) (csM 3 (NM (vA m 1 (shW (m 1) 8))))
theorem bnd_lit {x : Int32} {a b : Int} (N : Nat) (k : Int32) (hk : k.toInt = a) (h1 : 0 ≤ x) (h2 : x.toInt ≤ b) (ha : 0 ≤ a) (hN : a + b < N) (hM : N < 2147483648) : ¬ (k + x < 0 ∨ N ≤ (k + x).toNatClampNeg) := by
  have e1 := Int32.le_iff_toInt_le.mp h1
  rw [Int32.toInt_zero] at e1
  have e2 : (k + x).toInt = a + x.toInt := by
    rw [Int32.toInt_add, hk]
    exact Int.bmod_eq_of_le (by omega) (by omega)
  have e3 : (k + x).toNatClampNeg = (k + x).toInt.toNat := rfl
  rintro (q | q)
  · have := Int32.lt_iff_toInt_lt.mp q
    rw [Int32.toInt_zero] at this
    omega
  · omega
theorem le_toInt {x : Int32} (y : Int32) {b : Int} (hy : y.toInt = b) (h : x ≤ y) : x.toInt ≤ b := by
  rw [← hy]; exact Int32.le_iff_toInt_le.mp h
theorem ct1_a {x : pLV} {c d : Int32} (hk : k3I (x 1 39) = d) (h : ¬ x 1 5 < d) : ct1M x c = vA x 1 (upd (upd (upd (x 1) 16 c) 40 c) 39 d) := by
  subst hk
  exact congrArg (vA x 1) (if_neg h)
theorem ct1_b {x : pLV} {c d v : Int32} (hk : k3I (x 1 39) = d) (h : x 1 5 < d) (hv : clpI (x 1 13 + (upd (upd (upd (x 1) 16 c) 40 c) 39 d (40 + x 1 5).toNatClampNeg - x 1 4) * x 1 6) = v) : ct1M x c = vA x 1 (upd (upd (upd (upd (x 1) 16 c) 40 c) 39 d) 13 v) := by
  subst hk
  rw [← hv]
  exact congrArg (vA x 1) (if_pos h)
theorem dX9_control_0 : decode cX9_control 0 = .ok (.bipush 8, 2) := by decide +kernel
theorem dX9_control_2 : decode cX9_control 2 = .ok (.istore_n 1, 1) := by decide +kernel
theorem dX9_control_3 : decode cX9_control 3 = .ok (.iload_n 1, 1) := by decide +kernel
theorem dX9_control_4 : decode cX9_control 4 = .ok (.ifCond .le 29, 3) := by decide +kernel
theorem dX9_control_7 : decode cX9_control 7 = .ok (.aload_n 0, 1) := by decide +kernel
theorem dX9_control_8 : decode cX9_control 8 = .ok (.getfield 7, 3) := by decide +kernel
theorem dX9_control_11 : decode cX9_control 11 = .ok (.bipush 40, 2) := by decide +kernel
theorem dX9_control_13 : decode cX9_control 13 = .ok (.iload_n 1, 1) := by decide +kernel
theorem dX9_control_14 : decode cX9_control 14 = .ok (.iadd, 1) := by decide +kernel
theorem dX9_control_15 : decode cX9_control 15 = .ok (.aload_n 0, 1) := by decide +kernel
theorem dX9_control_16 : decode cX9_control 16 = .ok (.getfield 7, 3) := by decide +kernel
theorem dX9_control_19 : decode cX9_control 19 = .ok (.bipush 40, 2) := by decide +kernel
theorem dX9_control_21 : decode cX9_control 21 = .ok (.iload_n 1, 1) := by decide +kernel
theorem dX9_control_22 : decode cX9_control 22 = .ok (.iadd, 1) := by decide +kernel
theorem dX9_control_23 : decode cX9_control 23 = .ok (.iconst 1, 1) := by decide +kernel
theorem dX9_control_24 : decode cX9_control 24 = .ok (.isub, 1) := by decide +kernel
theorem dX9_control_25 : decode cX9_control 25 = .ok (.iaload, 1) := by decide +kernel
theorem dX9_control_26 : decode cX9_control 26 = .ok (.iastore, 1) := by decide +kernel
theorem dX9_control_27 : decode cX9_control 27 = .ok (.iinc 1 (-1), 3) := by decide +kernel
theorem dX9_control_30 : decode cX9_control 30 = .ok (.goto (-27), 3) := by decide +kernel
theorem dX9_control_33 : decode cX9_control 33 = .ok (.aload_n 0, 1) := by decide +kernel
theorem dX9_control_34 : decode cX9_control 34 = .ok (.getfield 7, 3) := by decide +kernel
theorem dX9_control_37 : decode cX9_control 37 = .ok (.bipush 16, 2) := by decide +kernel
theorem dX9_control_39 : decode cX9_control 39 = .ok (.aload_n 0, 1) := by decide +kernel
theorem dX9_control_40 : decode cX9_control 40 = .ok (.iconst 3, 1) := by decide +kernel
theorem dX9_control_41 : decode cX9_control 41 = .ok (.invokevirtual 77, 3) := by decide +kernel
theorem dX9_control_44 : decode cX9_control 44 = .ok (.iastore, 1) := by decide +kernel
theorem dX9_control_45 : decode cX9_control 45 = .ok (.aload_n 0, 1) := by decide +kernel
theorem dX9_control_46 : decode cX9_control 46 = .ok (.getfield 7, 3) := by decide +kernel
theorem dX9_control_49 : decode cX9_control 49 = .ok (.bipush 40, 2) := by decide +kernel
theorem dX9_control_51 : decode cX9_control 51 = .ok (.aload_n 0, 1) := by decide +kernel
theorem dX9_control_52 : decode cX9_control 52 = .ok (.getfield 7, 3) := by decide +kernel
theorem dX9_control_55 : decode cX9_control 55 = .ok (.bipush 16, 2) := by decide +kernel
theorem dX9_control_57 : decode cX9_control 57 = .ok (.iaload, 1) := by decide +kernel
theorem dX9_control_58 : decode cX9_control 58 = .ok (.iastore, 1) := by decide +kernel
theorem dX9_control_59 : decode cX9_control 59 = .ok (.aload_n 0, 1) := by decide +kernel
theorem dX9_control_60 : decode cX9_control 60 = .ok (.getfield 7, 3) := by decide +kernel
theorem dX9_control_63 : decode cX9_control 63 = .ok (.bipush 39, 2) := by decide +kernel
theorem dX9_control_65 : decode cX9_control 65 = .ok (.dup2, 1) := by decide +kernel
theorem dX9_control_66 : decode cX9_control 66 = .ok (.iaload, 1) := by decide +kernel
theorem dX9_control_67 : decode cX9_control 67 = .ok (.aload_n 0, 1) := by decide +kernel
theorem dX9_control_68 : decode cX9_control 68 = .ok (.getfield 7, 3) := by decide +kernel
theorem dX9_control_71 : decode cX9_control 71 = .ok (.bipush 39, 2) := by decide +kernel
theorem dX9_control_73 : decode cX9_control 73 = .ok (.iaload, 1) := by decide +kernel
theorem dX9_control_74 : decode cX9_control 74 = .ok (.bipush 9, 2) := by decide +kernel
theorem dX9_control_76 : decode cX9_control 76 = .ok (.if_icmp .ge 7, 3) := by decide +kernel
theorem dX9_control_79 : decode cX9_control 79 = .ok (.iconst 1, 1) := by decide +kernel
theorem dX9_control_80 : decode cX9_control 80 = .ok (.goto 4, 3) := by decide +kernel
theorem dX9_control_83 : decode cX9_control 83 = .ok (.iconst 0, 1) := by decide +kernel
theorem dX9_control_84 : decode cX9_control 84 = .ok (.iadd, 1) := by decide +kernel
theorem dX9_control_85 : decode cX9_control 85 = .ok (.iastore, 1) := by decide +kernel
theorem dX9_control_86 : decode cX9_control 86 = .ok (.aload_n 0, 1) := by decide +kernel
theorem dX9_control_87 : decode cX9_control 87 = .ok (.getfield 7, 3) := by decide +kernel
theorem dX9_control_90 : decode cX9_control 90 = .ok (.iconst 5, 1) := by decide +kernel
theorem dX9_control_91 : decode cX9_control 91 = .ok (.iaload, 1) := by decide +kernel
theorem dX9_control_92 : decode cX9_control 92 = .ok (.aload_n 0, 1) := by decide +kernel
theorem dX9_control_93 : decode cX9_control 93 = .ok (.getfield 7, 3) := by decide +kernel
theorem dX9_control_96 : decode cX9_control 96 = .ok (.bipush 39, 2) := by decide +kernel
theorem dX9_control_98 : decode cX9_control 98 = .ok (.iaload, 1) := by decide +kernel
theorem dX9_control_99 : decode cX9_control 99 = .ok (.if_icmp .ge 70, 3) := by decide +kernel
theorem dX9_control_102 : decode cX9_control 102 = .ok (.aload_n 0, 1) := by decide +kernel
theorem dX9_control_103 : decode cX9_control 103 = .ok (.getfield 7, 3) := by decide +kernel
theorem dX9_control_106 : decode cX9_control 106 = .ok (.bipush 13, 2) := by decide +kernel
theorem dX9_control_108 : decode cX9_control 108 = .ok (.iaload, 1) := by decide +kernel
theorem dX9_control_109 : decode cX9_control 109 = .ok (.aload_n 0, 1) := by decide +kernel
theorem dX9_control_110 : decode cX9_control 110 = .ok (.getfield 7, 3) := by decide +kernel
theorem dX9_control_113 : decode cX9_control 113 = .ok (.bipush 40, 2) := by decide +kernel
theorem dX9_control_115 : decode cX9_control 115 = .ok (.aload_n 0, 1) := by decide +kernel
theorem dX9_control_116 : decode cX9_control 116 = .ok (.getfield 7, 3) := by decide +kernel
theorem dX9_control_119 : decode cX9_control 119 = .ok (.iconst 5, 1) := by decide +kernel
theorem dX9_control_120 : decode cX9_control 120 = .ok (.iaload, 1) := by decide +kernel
theorem dX9_control_121 : decode cX9_control 121 = .ok (.iadd, 1) := by decide +kernel
theorem dX9_control_122 : decode cX9_control 122 = .ok (.iaload, 1) := by decide +kernel
theorem dX9_control_123 : decode cX9_control 123 = .ok (.aload_n 0, 1) := by decide +kernel
theorem dX9_control_124 : decode cX9_control 124 = .ok (.getfield 7, 3) := by decide +kernel
theorem dX9_control_127 : decode cX9_control 127 = .ok (.iconst 4, 1) := by decide +kernel
theorem dX9_control_128 : decode cX9_control 128 = .ok (.iaload, 1) := by decide +kernel
theorem dX9_control_129 : decode cX9_control 129 = .ok (.isub, 1) := by decide +kernel
theorem dX9_control_130 : decode cX9_control 130 = .ok (.aload_n 0, 1) := by decide +kernel
theorem dX9_control_131 : decode cX9_control 131 = .ok (.getfield 7, 3) := by decide +kernel
theorem dX9_control_134 : decode cX9_control 134 = .ok (.bipush 6, 2) := by decide +kernel
theorem dX9_control_136 : decode cX9_control 136 = .ok (.iaload, 1) := by decide +kernel
theorem dX9_control_137 : decode cX9_control 137 = .ok (.imul, 1) := by decide +kernel
theorem dX9_control_138 : decode cX9_control 138 = .ok (.iadd, 1) := by decide +kernel
theorem dX9_control_139 : decode cX9_control 139 = .ok (.istore_n 1, 1) := by decide +kernel
theorem dX9_control_140 : decode cX9_control 140 = .ok (.aload_n 0, 1) := by decide +kernel
theorem dX9_control_141 : decode cX9_control 141 = .ok (.getfield 7, 3) := by decide +kernel
theorem dX9_control_144 : decode cX9_control 144 = .ok (.bipush 13, 2) := by decide +kernel
theorem dX9_control_146 : decode cX9_control 146 = .ok (.iload_n 1, 1) := by decide +kernel
theorem dX9_control_147 : decode cX9_control 147 = .ok (.ifCond .ge 7, 3) := by decide +kernel
theorem dX9_control_150 : decode cX9_control 150 = .ok (.iconst 0, 1) := by decide +kernel
theorem dX9_control_151 : decode cX9_control 151 = .ok (.goto 17, 3) := by decide +kernel
theorem dX9_control_154 : decode cX9_control 154 = .ok (.iload_n 1, 1) := by decide +kernel
theorem dX9_control_155 : decode cX9_control 155 = .ok (.sipush 3000, 3) := by decide +kernel
theorem dX9_control_158 : decode cX9_control 158 = .ok (.if_icmp .le 9, 3) := by decide +kernel
theorem dX9_control_161 : decode cX9_control 161 = .ok (.sipush 3000, 3) := by decide +kernel
theorem dX9_control_164 : decode cX9_control 164 = .ok (.goto 4, 3) := by decide +kernel
theorem dX9_control_167 : decode cX9_control 167 = .ok (.iload_n 1, 1) := by decide +kernel
theorem dX9_control_168 : decode cX9_control 168 = .ok (.iastore, 1) := by decide +kernel
theorem dX9_control_169 : decode cX9_control 169 = .ok (.return_, 1) := by decide +kernel
def k_X9_control : List pEn := [oConst (8), oIstore 1, oIload 1, oIfle 20, oAload 0, oGet 9 0, oConst (40), oIload 1, oAdd, oAload 0, oGet 9 0, oConst (40), oIload 1, oAdd, oConst (1), oSub, oIald, oIast, oIinc 1 (-1), oGoto 2, oAload 0, oGet 9 0, oConst (16), oAload 0, oConst (3), oCallZ 2 F_X9_consistency, oIastN 16, oAload 0, oGet 9 0, oConst (40), oAload 0, oGet 9 0, oConst (16), oIaldN 16, oIastN 40, oAload 0, oGet 9 0, oConst (39), oDup2, oIaldN 39, oAload 0, oGet 9 0, oConst (39), oIaldN 39, oConst (9), oCge 48, oConst (1), oGoto 49, oConst (0), oAdd, oIastN 39, oAload 0, oGet 9 0, oConst (5), oIaldN 5, oAload 0, oGet 9 0, oConst (39), oIaldN 39, oCge 99, oAload 0, oGet 9 0, oConst (13), oIaldN 13, oAload 0, oGet 9 0, oConst (40), oAload 0, oGet 9 0, oConst (5), oIaldN 5, oAdd, oIald, oAload 0, oGet 9 0, oConst (4), oIaldN 4, oSub, oAload 0, oGet 9 0, oConst (6), oIaldN 6, oMul, oAdd, oIstore 1, oAload 0, oGet 9 0, oConst (13), oIload 1, oIfge 92, oConst (0), oGoto 98, oIload 1, oConst (3000), oCle 97, oConst (3000), oGoto 98, oIload 1, oIastN 13, oVret]
def pc_X9_control (i : Nat) : Nat := ([0, 2, 3, 4, 7, 8, 11, 13, 14, 15, 16, 19, 21, 22, 23, 24, 25, 26, 27, 30, 33, 34, 37, 39, 40, 41, 44, 45, 46, 49, 51, 52, 55, 57, 58, 59, 60, 63, 65, 66, 67, 68, 71, 73, 74, 76, 79, 80, 83, 84, 85, 86, 87, 90, 91, 92, 93, 96, 98, 99, 102, 103, 106, 108, 109, 110, 113, 115, 116, 119, 120, 121, 122, 123, 124, 127, 128, 129, 130, 131, 134, 136, 137, 138, 139, 140, 141, 144, 146, 147, 150, 151, 154, 155, 158, 161, 164, 167, 168, 169] : List Nat).getD i 0
abbrev rm_X9_control : Room := { frames := 2, cells := 0, slots := 0, locals := 42 }
theorem pl_X9_control : pPlain yX9_control 0 := by decide +kernel
set_option maxRecDepth 100000 in
set_option maxHeartbeats 4000000 in
theorem ok_k_X9_control (l : Launch) : ∀ (i : Nat) (en : pEn), k_X9_control[i]? = some en → EOK l cX9_control yX9_control.cls 2 (none) rm_X9_control 0 pc_X9_control i en := by
  refine allOK_at ?_
  refine And.intro (okBipush dX9_control_0 rfl (by first | rfl | decide)) ?_
  refine And.intro (okIstore_n dX9_control_2 rfl rfl (by decide)) ?_
  refine And.intro (okIload_n dX9_control_3 rfl rfl) ?_
  refine And.intro (okIfle dX9_control_4 rfl (by rfl)) ?_
  refine And.intro (okAload_n dX9_control_7 rfl rfl) ?_
  refine And.intro (okGet (C := RX9) (T := TX9) (N := 22) dX9_control_8 rfl rfl (by decide) inX9 wm_3_141) ?_
  refine And.intro (okBipush dX9_control_11 rfl (by first | rfl | decide)) ?_
  refine And.intro (okIload_n dX9_control_13 rfl rfl) ?_
  refine And.intro (okAdd dX9_control_14 rfl) ?_
  refine And.intro (okAload_n dX9_control_15 rfl rfl) ?_
  refine And.intro (okGet (C := RX9) (T := TX9) (N := 22) dX9_control_16 rfl rfl (by decide) inX9 wm_3_141) ?_
  refine And.intro (okBipush dX9_control_19 rfl (by first | rfl | decide)) ?_
  refine And.intro (okIload_n dX9_control_21 rfl rfl) ?_
  refine And.intro (okAdd dX9_control_22 rfl) ?_
  refine And.intro (okIconst dX9_control_23 rfl (by first | rfl | decide)) ?_
  refine And.intro (okSub dX9_control_24 rfl) ?_
  refine And.intro (okIald dX9_control_25 rfl) ?_
  refine And.intro (okIast dX9_control_26 rfl) ?_
  refine And.intro (okIinc dX9_control_27 rfl (by first | rfl | decide) (by decide)) ?_
  refine And.intro (okGoto dX9_control_30 (by rfl)) ?_
  refine And.intro (okAload_n dX9_control_33 rfl rfl) ?_
  refine And.intro (okGet (C := RX9) (T := TX9) (N := 22) dX9_control_34 rfl rfl (by decide) inX9 wm_3_141) ?_
  refine And.intro (okBipush dX9_control_37 rfl (by first | rfl | decide)) ?_
  refine And.intro (okAload_n dX9_control_39 rfl rfl) ?_
  refine And.intro (okIconst dX9_control_40 rfl (by first | rfl | decide)) ?_
  refine And.intro (okCallV (y := yX9_consistency) (T := TX9) (oCallZ_is _ _ _) dX9_control_41 rfl (ok_F_X9_consistency l) rc_F_X9_consistency rfl wm_4_88 wm_4_90 wp_34 wm_1_10 wm_4_91 pl_X9_consistency (by decide)) ?_
  refine And.intro (okIastN dX9_control_44 rfl) ?_
  refine And.intro (okAload_n dX9_control_45 rfl rfl) ?_
  refine And.intro (okGet (C := RX9) (T := TX9) (N := 22) dX9_control_46 rfl rfl (by decide) inX9 wm_3_141) ?_
  refine And.intro (okBipush dX9_control_49 rfl (by first | rfl | decide)) ?_
  refine And.intro (okAload_n dX9_control_51 rfl rfl) ?_
  refine And.intro (okGet (C := RX9) (T := TX9) (N := 22) dX9_control_52 rfl rfl (by decide) inX9 wm_3_141) ?_
  refine And.intro (okBipush dX9_control_55 rfl (by first | rfl | decide)) ?_
  refine And.intro (okIaldN dX9_control_57 rfl) ?_
  refine And.intro (okIastN dX9_control_58 rfl) ?_
  refine And.intro (okAload_n dX9_control_59 rfl rfl) ?_
  refine And.intro (okGet (C := RX9) (T := TX9) (N := 22) dX9_control_60 rfl rfl (by decide) inX9 wm_3_141) ?_
  refine And.intro (okBipush dX9_control_63 rfl (by first | rfl | decide)) ?_
  refine And.intro (okDup2 dX9_control_65 rfl) ?_
  refine And.intro (okIaldN dX9_control_66 rfl) ?_
  refine And.intro (okAload_n dX9_control_67 rfl rfl) ?_
  refine And.intro (okGet (C := RX9) (T := TX9) (N := 22) dX9_control_68 rfl rfl (by decide) inX9 wm_3_141) ?_
  refine And.intro (okBipush dX9_control_71 rfl (by first | rfl | decide)) ?_
  refine And.intro (okIaldN dX9_control_73 rfl) ?_
  refine And.intro (okBipush dX9_control_74 rfl (by first | rfl | decide)) ?_
  refine And.intro (okCge dX9_control_76 rfl (by rfl)) ?_
  refine And.intro (okIconst dX9_control_79 rfl (by first | rfl | decide)) ?_
  refine And.intro (okGoto dX9_control_80 (by rfl)) ?_
  refine And.intro (okIconst dX9_control_83 rfl (by first | rfl | decide)) ?_
  refine And.intro (okAdd dX9_control_84 rfl) ?_
  refine And.intro (okIastN dX9_control_85 rfl) ?_
  refine And.intro (okAload_n dX9_control_86 rfl rfl) ?_
  refine And.intro (okGet (C := RX9) (T := TX9) (N := 22) dX9_control_87 rfl rfl (by decide) inX9 wm_3_141) ?_
  refine And.intro (okIconst dX9_control_90 rfl (by first | rfl | decide)) ?_
  refine And.intro (okIaldN dX9_control_91 rfl) ?_
  refine And.intro (okAload_n dX9_control_92 rfl rfl) ?_
  refine And.intro (okGet (C := RX9) (T := TX9) (N := 22) dX9_control_93 rfl rfl (by decide) inX9 wm_3_141) ?_
  refine And.intro (okBipush dX9_control_96 rfl (by first | rfl | decide)) ?_
  refine And.intro (okIaldN dX9_control_98 rfl) ?_
  refine And.intro (okCge dX9_control_99 rfl (by rfl)) ?_
  refine And.intro (okAload_n dX9_control_102 rfl rfl) ?_
  refine And.intro (okGet (C := RX9) (T := TX9) (N := 22) dX9_control_103 rfl rfl (by decide) inX9 wm_3_141) ?_
  refine And.intro (okBipush dX9_control_106 rfl (by first | rfl | decide)) ?_
  refine And.intro (okIaldN dX9_control_108 rfl) ?_
  refine And.intro (okAload_n dX9_control_109 rfl rfl) ?_
  refine And.intro (okGet (C := RX9) (T := TX9) (N := 22) dX9_control_110 rfl rfl (by decide) inX9 wm_3_141) ?_
  refine And.intro (okBipush dX9_control_113 rfl (by first | rfl | decide)) ?_
  refine And.intro (okAload_n dX9_control_115 rfl rfl) ?_
  refine And.intro (okGet (C := RX9) (T := TX9) (N := 22) dX9_control_116 rfl rfl (by decide) inX9 wm_3_141) ?_
  refine And.intro (okIconst dX9_control_119 rfl (by first | rfl | decide)) ?_
  refine And.intro (okIaldN dX9_control_120 rfl) ?_
  refine And.intro (okAdd dX9_control_121 rfl) ?_
  refine And.intro (okIald dX9_control_122 rfl) ?_
  refine And.intro (okAload_n dX9_control_123 rfl rfl) ?_
  refine And.intro (okGet (C := RX9) (T := TX9) (N := 22) dX9_control_124 rfl rfl (by decide) inX9 wm_3_141) ?_
  refine And.intro (okIconst dX9_control_127 rfl (by first | rfl | decide)) ?_
  refine And.intro (okIaldN dX9_control_128 rfl) ?_
  refine And.intro (okSub dX9_control_129 rfl) ?_
  refine And.intro (okAload_n dX9_control_130 rfl rfl) ?_
  refine And.intro (okGet (C := RX9) (T := TX9) (N := 22) dX9_control_131 rfl rfl (by decide) inX9 wm_3_141) ?_
  refine And.intro (okBipush dX9_control_134 rfl (by first | rfl | decide)) ?_
  refine And.intro (okIaldN dX9_control_136 rfl) ?_
  refine And.intro (okMul dX9_control_137 rfl) ?_
  refine And.intro (okAdd dX9_control_138 rfl) ?_
  refine And.intro (okIstore_n dX9_control_139 rfl rfl (by decide)) ?_
  refine And.intro (okAload_n dX9_control_140 rfl rfl) ?_
  refine And.intro (okGet (C := RX9) (T := TX9) (N := 22) dX9_control_141 rfl rfl (by decide) inX9 wm_3_141) ?_
  refine And.intro (okBipush dX9_control_144 rfl (by first | rfl | decide)) ?_
  refine And.intro (okIload_n dX9_control_146 rfl rfl) ?_
  refine And.intro (okIfge dX9_control_147 rfl (by rfl)) ?_
  refine And.intro (okIconst dX9_control_150 rfl (by first | rfl | decide)) ?_
  refine And.intro (okGoto dX9_control_151 (by rfl)) ?_
  refine And.intro (okIload_n dX9_control_154 rfl rfl) ?_
  refine And.intro (okSipush dX9_control_155 rfl (by first | rfl | decide)) ?_
  refine And.intro (okCle dX9_control_158 rfl (by rfl)) ?_
  refine And.intro (okSipush dX9_control_161 rfl (by first | rfl | decide)) ?_
  refine And.intro (okGoto dX9_control_164 (by rfl)) ?_
  refine And.intro (okIload_n dX9_control_167 rfl rfl) ?_
  refine And.intro (okIastN dX9_control_168 rfl) ?_
  refine And.intro (okVret dX9_control_169 rfl) ?_
  exact trivial
def G_X9_control : pG := fun args w => match args with
  | [.ref 0] => unM w (fun m => pif (0 ≤ m 1 5 ∧ m 1 5 ≤ 8) (some (none, mdl (ctlM m))) none)
  | _ => none
set_option maxHeartbeats 400000 in
set_option maxRecDepth 100000 in
theorem run_X9_control (rg : pRg) (m : pLV)  (hc : 0 ≤ m 1 5 ∧ m 1 5 ≤ 8) : ∃ fu, ex k_X9_control fu 0 [(0, .ref 0)] [] (mdl m) rg = some (none, mdl (ctlM m), rg) := by
  refine ⟨60, ?_⟩
  conv => lhs; whnf
  repeat (first | (refine (pif_f (by decide)).trans ?_; conv => lhs; whnf) | (refine (pif_t (by decide)).trans ?_; conv => lhs; whnf))
  refine (callK_r (cl_X9_consistency3 (vA m 1 (shW (m 1) 8)) rg) rfl).trans ?_
  unfold ctlM
  have hx : 0 ≤ (NM (vA m 1 (shW (m 1) 8))) 1 5 ∧ (NM (vA m 1 (shW (m 1) 8))) 1 5 ≤ 8 := hc
  revert hx
  generalize csM 3 (NM (vA m 1 (shW (m 1) 8))) = c
  generalize NM (vA m 1 (shW (m 1) 8)) = x
  revert c x; refine id ?_; intro c x hx
  conv => lhs; whnf
  refine pif_c (fun h1 => ?_) (fun h1 => ?_)
  · conv => lhs; whnf
    refine pif_c (fun h2 => ?_) (fun h2 => ?_)
    · rw [ct1_a (x := x) (c := c) (d := x 1 39 + 0) (congrArg (x 1 39 + ·) (if_neg (Int32.not_lt.mpr h1))) (Int32.not_lt.mpr h2)]
      rfl
    · conv => lhs; whnf
      refine (pif_f (bnd_lit 110 40 rfl hx.1 (le_toInt 8 rfl hx.2) (by decide) (by decide) (by decide))).trans ?_
      conv => lhs; whnf
      refine pif_c (fun h3 => ?_) (fun h3 => ?_)
      · conv => lhs; whnf
        refine pif_c (fun h4 => ?_) (fun h4 => ?_)
        · rw [ct1_b (x := x) (c := c) (d := x 1 39 + 0) (v := x 1 13 + (upd (upd (upd (x 1) 16 c) 40 c) 39 (x 1 39 + 0) (40 + x 1 5).toNatClampNeg - x 1 4) * x 1 6) (congrArg (x 1 39 + ·) (if_neg (Int32.not_lt.mpr h1))) (Int32.not_le.mp h2) ((if_neg (Int32.not_lt.mpr h3)).trans (if_neg (Int32.not_lt.mpr h4)))]
          rfl
        · rw [ct1_b (x := x) (c := c) (d := x 1 39 + 0) (v := 3000) (congrArg (x 1 39 + ·) (if_neg (Int32.not_lt.mpr h1))) (Int32.not_le.mp h2) ((if_neg (Int32.not_lt.mpr h3)).trans (if_pos (Int32.not_le.mp h4)))]
          rfl
      · rw [ct1_b (x := x) (c := c) (d := x 1 39 + 0) (v := 0) (congrArg (x 1 39 + ·) (if_neg (Int32.not_lt.mpr h1))) (Int32.not_le.mp h2) (if_pos (Int32.not_le.mp h3))]
        rfl
  · conv => lhs; whnf
    refine pif_c (fun h2 => ?_) (fun h2 => ?_)
    · rw [ct1_a (x := x) (c := c) (d := x 1 39 + 1) (congrArg (x 1 39 + ·) (if_pos (Int32.not_le.mp h1))) (Int32.not_lt.mpr h2)]
      rfl
    · conv => lhs; whnf
      refine (pif_f (bnd_lit 110 40 rfl hx.1 (le_toInt 8 rfl hx.2) (by decide) (by decide) (by decide))).trans ?_
      conv => lhs; whnf
      refine pif_c (fun h3 => ?_) (fun h3 => ?_)
      · conv => lhs; whnf
        refine pif_c (fun h4 => ?_) (fun h4 => ?_)
        · rw [ct1_b (x := x) (c := c) (d := x 1 39 + 1) (v := x 1 13 + (upd (upd (upd (x 1) 16 c) 40 c) 39 (x 1 39 + 1) (40 + x 1 5).toNatClampNeg - x 1 4) * x 1 6) (congrArg (x 1 39 + ·) (if_pos (Int32.not_le.mp h1))) (Int32.not_le.mp h2) ((if_neg (Int32.not_lt.mpr h3)).trans (if_neg (Int32.not_lt.mpr h4)))]
          rfl
        · rw [ct1_b (x := x) (c := c) (d := x 1 39 + 1) (v := 3000) (congrArg (x 1 39 + ·) (if_pos (Int32.not_le.mp h1))) (Int32.not_le.mp h2) ((if_neg (Int32.not_lt.mpr h3)).trans (if_pos (Int32.not_le.mp h4)))]
          rfl
      · rw [ct1_b (x := x) (c := c) (d := x 1 39 + 1) (v := 0) (congrArg (x 1 39 + ·) (if_pos (Int32.not_le.mp h1))) (Int32.not_le.mp h2) (if_pos (Int32.not_le.mp h3))]
        rfl
theorem ct_X9_control (l : Launch) : ∀ args0 w0 v0 w1 rg, G_X9_control args0 w0 = some (v0, w1) → pCT l yX9_control (pWs yX9_control cX9_control 2 (none)) rm_X9_control args0 w0 rg (v0, w1, rg) := by
  intro args0 w0 v0 w1 rg h
  unfold G_X9_control at h
  split at h
  next  =>
    obtain ⟨m, hw, h2⟩ := unM_some h
    clear h
    subst hw
    by_cases hc : 0 ≤ m 1 5 ∧ m 1 5 ≤ 8
    · have h2 := (pif_t hc).symm.trans h2
      cases h2
      exact met_of_exM (by decide) (ok_k_X9_control l) rfl (run_X9_control rg m  hc) (Nat.le_of_ble_eq_true rfl) rfl rfl
    · have h2 := (pif_f hc).symm.trans h2
      cases h2
  next => cases h
def F_X9_control : pF := faN G_X9_control
theorem ok_F_X9_control (l : Launch) : pFOK l yX9_control (pWs yX9_control cX9_control 2 (none)) rm_X9_control F_X9_control := pFOK_fa (fun a b c d rg h => ct_X9_control l a b c d rg h)
theorem rc_F_X9_control : pRcv 9 F_X9_control := pRcv_fa (fun a b c d h => by
  unfold G_X9_control at h
  split at h
  next =>
    obtain ⟨m, rfl, h⟩ := unM_some h
    exact ⟨_, _, _, rfl, rfl⟩
  next => cases h)
theorem cl_X9_control (m : pLV)  (rg : pRg) (hc : 0 ≤ (NM m) 1 5 ∧ (NM m) 1 5 ≤ 8) : F_X9_control [.ref 0] (mdl m) rg = some (none, mdl (ctlM (NM m)), rg) := by
  have h : G_X9_control [.ref 0] (mdl m) = some (none, mdl (ctlM (NM m))) := pif_t hc
  unfold F_X9_control faN
  rw [h]
end
end
section
noncomputable section
theorem fl_11 (n : Nat) (m : pLV) (a b : Int32) : fillM n m a b 0 11 = 0 ∨ fillM n m a b 0 11 = 1 := by
  unfold fillM flV
  split
  · exact Or.inl rfl
  · exact Or.inr rfl
def mpA (x : pLV) : pLV := vA x 1 (upd (x 1) (35 + x 1 10).toNatClampNeg (x 1 (35 + x 1 10).toNatClampNeg + x 0 9))
def mpB (x : pLV) : pLV := vA x 1 (upd (upd (upd (x 1) 34 (x 1 34 + x 0 9)) 17 (x 1 17 + 1)) 14 (x 1 10))
def mpC (y : pLV) : pLV := vS y 12 (y 0 11)
def mpD (x : pLV) : pLV := mpC (fillM 1 (NM (mpB x)) (x 0 9) (x 1 7))
def mpE (x : pLV) : pLV := if x 1 11 = 0 then (if x 1 12 = 0 then mpA x else mpD x) else mpD x
def mkpM (m : pLV) : pLV := mpE (takeM 3 (NM m) (m 1 2))
theorem dX9_makePaper_0 : decode cX9_makePaper 0 = .ok (.aload_n 0, 1) := by decide +kernel
theorem dX9_makePaper_1 : decode cX9_makePaper 1 = .ok (.iconst 3, 1) := by decide +kernel
theorem dX9_makePaper_2 : decode cX9_makePaper 2 = .ok (.aload_n 0, 1) := by decide +kernel
theorem dX9_makePaper_3 : decode cX9_makePaper 3 = .ok (.getfield 7, 3) := by decide +kernel
theorem dX9_makePaper_6 : decode cX9_makePaper 6 = .ok (.iconst 2, 1) := by decide +kernel
theorem dX9_makePaper_7 : decode cX9_makePaper 7 = .ok (.iaload, 1) := by decide +kernel
theorem dX9_makePaper_8 : decode cX9_makePaper 8 = .ok (.invokevirtual 62, 3) := by decide +kernel
theorem dX9_makePaper_11 : decode cX9_makePaper 11 = .ok (.aload_n 0, 1) := by decide +kernel
theorem dX9_makePaper_12 : decode cX9_makePaper 12 = .ok (.getfield 7, 3) := by decide +kernel
theorem dX9_makePaper_15 : decode cX9_makePaper 15 = .ok (.bipush 11, 2) := by decide +kernel
theorem dX9_makePaper_17 : decode cX9_makePaper 17 = .ok (.iaload, 1) := by decide +kernel
theorem dX9_makePaper_18 : decode cX9_makePaper 18 = .ok (.ifCond .ne 38, 3) := by decide +kernel
theorem dX9_makePaper_21 : decode cX9_makePaper 21 = .ok (.aload_n 0, 1) := by decide +kernel
theorem dX9_makePaper_22 : decode cX9_makePaper 22 = .ok (.getfield 7, 3) := by decide +kernel
theorem dX9_makePaper_25 : decode cX9_makePaper 25 = .ok (.bipush 12, 2) := by decide +kernel
theorem dX9_makePaper_27 : decode cX9_makePaper 27 = .ok (.iaload, 1) := by decide +kernel
theorem dX9_makePaper_28 : decode cX9_makePaper 28 = .ok (.ifCond .ne 28, 3) := by decide +kernel
theorem dX9_makePaper_31 : decode cX9_makePaper 31 = .ok (.aload_n 0, 1) := by decide +kernel
theorem dX9_makePaper_32 : decode cX9_makePaper 32 = .ok (.getfield 7, 3) := by decide +kernel
theorem dX9_makePaper_35 : decode cX9_makePaper 35 = .ok (.bipush 35, 2) := by decide +kernel
theorem dX9_makePaper_37 : decode cX9_makePaper 37 = .ok (.aload_n 0, 1) := by decide +kernel
theorem dX9_makePaper_38 : decode cX9_makePaper 38 = .ok (.getfield 7, 3) := by decide +kernel
theorem dX9_makePaper_41 : decode cX9_makePaper 41 = .ok (.bipush 10, 2) := by decide +kernel
theorem dX9_makePaper_43 : decode cX9_makePaper 43 = .ok (.iaload, 1) := by decide +kernel
theorem dX9_makePaper_44 : decode cX9_makePaper 44 = .ok (.iadd, 1) := by decide +kernel
theorem dX9_makePaper_45 : decode cX9_makePaper 45 = .ok (.dup2, 1) := by decide +kernel
theorem dX9_makePaper_46 : decode cX9_makePaper 46 = .ok (.iaload, 1) := by decide +kernel
theorem dX9_makePaper_47 : decode cX9_makePaper 47 = .ok (.aload_n 0, 1) := by decide +kernel
theorem dX9_makePaper_48 : decode cX9_makePaper 48 = .ok (.getfield 49, 3) := by decide +kernel
theorem dX9_makePaper_51 : decode cX9_makePaper 51 = .ok (.iadd, 1) := by decide +kernel
theorem dX9_makePaper_52 : decode cX9_makePaper 52 = .ok (.iastore, 1) := by decide +kernel
theorem dX9_makePaper_53 : decode cX9_makePaper 53 = .ok (.goto 67, 3) := by decide +kernel
theorem dX9_makePaper_56 : decode cX9_makePaper 56 = .ok (.aload_n 0, 1) := by decide +kernel
theorem dX9_makePaper_57 : decode cX9_makePaper 57 = .ok (.getfield 7, 3) := by decide +kernel
theorem dX9_makePaper_60 : decode cX9_makePaper 60 = .ok (.bipush 34, 2) := by decide +kernel
theorem dX9_makePaper_62 : decode cX9_makePaper 62 = .ok (.dup2, 1) := by decide +kernel
theorem dX9_makePaper_63 : decode cX9_makePaper 63 = .ok (.iaload, 1) := by decide +kernel
theorem dX9_makePaper_64 : decode cX9_makePaper 64 = .ok (.aload_n 0, 1) := by decide +kernel
theorem dX9_makePaper_65 : decode cX9_makePaper 65 = .ok (.getfield 49, 3) := by decide +kernel
theorem dX9_makePaper_68 : decode cX9_makePaper 68 = .ok (.iadd, 1) := by decide +kernel
theorem dX9_makePaper_69 : decode cX9_makePaper 69 = .ok (.iastore, 1) := by decide +kernel
theorem dX9_makePaper_70 : decode cX9_makePaper 70 = .ok (.aload_n 0, 1) := by decide +kernel
theorem dX9_makePaper_71 : decode cX9_makePaper 71 = .ok (.getfield 7, 3) := by decide +kernel
theorem dX9_makePaper_74 : decode cX9_makePaper 74 = .ok (.bipush 17, 2) := by decide +kernel
theorem dX9_makePaper_76 : decode cX9_makePaper 76 = .ok (.dup2, 1) := by decide +kernel
theorem dX9_makePaper_77 : decode cX9_makePaper 77 = .ok (.iaload, 1) := by decide +kernel
theorem dX9_makePaper_78 : decode cX9_makePaper 78 = .ok (.iconst 1, 1) := by decide +kernel
theorem dX9_makePaper_79 : decode cX9_makePaper 79 = .ok (.iadd, 1) := by decide +kernel
theorem dX9_makePaper_80 : decode cX9_makePaper 80 = .ok (.iastore, 1) := by decide +kernel
theorem dX9_makePaper_81 : decode cX9_makePaper 81 = .ok (.aload_n 0, 1) := by decide +kernel
theorem dX9_makePaper_82 : decode cX9_makePaper 82 = .ok (.getfield 7, 3) := by decide +kernel
theorem dX9_makePaper_85 : decode cX9_makePaper 85 = .ok (.bipush 14, 2) := by decide +kernel
theorem dX9_makePaper_87 : decode cX9_makePaper 87 = .ok (.aload_n 0, 1) := by decide +kernel
theorem dX9_makePaper_88 : decode cX9_makePaper 88 = .ok (.getfield 7, 3) := by decide +kernel
theorem dX9_makePaper_91 : decode cX9_makePaper 91 = .ok (.bipush 10, 2) := by decide +kernel
theorem dX9_makePaper_93 : decode cX9_makePaper 93 = .ok (.iaload, 1) := by decide +kernel
theorem dX9_makePaper_94 : decode cX9_makePaper 94 = .ok (.iastore, 1) := by decide +kernel
theorem dX9_makePaper_95 : decode cX9_makePaper 95 = .ok (.aload_n 0, 1) := by decide +kernel
theorem dX9_makePaper_96 : decode cX9_makePaper 96 = .ok (.iconst 1, 1) := by decide +kernel
theorem dX9_makePaper_97 : decode cX9_makePaper 97 = .ok (.aload_n 0, 1) := by decide +kernel
theorem dX9_makePaper_98 : decode cX9_makePaper 98 = .ok (.getfield 49, 3) := by decide +kernel
theorem dX9_makePaper_101 : decode cX9_makePaper 101 = .ok (.aload_n 0, 1) := by decide +kernel
theorem dX9_makePaper_102 : decode cX9_makePaper 102 = .ok (.getfield 7, 3) := by decide +kernel
theorem dX9_makePaper_105 : decode cX9_makePaper 105 = .ok (.bipush 7, 2) := by decide +kernel
theorem dX9_makePaper_107 : decode cX9_makePaper 107 = .ok (.iaload, 1) := by decide +kernel
theorem dX9_makePaper_108 : decode cX9_makePaper 108 = .ok (.invokevirtual 73, 3) := by decide +kernel
theorem dX9_makePaper_111 : decode cX9_makePaper 111 = .ok (.istore_n 1, 1) := by decide +kernel
theorem dX9_makePaper_112 : decode cX9_makePaper 112 = .ok (.aload_n 0, 1) := by decide +kernel
theorem dX9_makePaper_113 : decode cX9_makePaper 113 = .ok (.aload_n 0, 1) := by decide +kernel
theorem dX9_makePaper_114 : decode cX9_makePaper 114 = .ok (.getfield 58, 3) := by decide +kernel
theorem dX9_makePaper_117 : decode cX9_makePaper 117 = .ok (.putfield 80, 3) := by decide +kernel
theorem dX9_makePaper_120 : decode cX9_makePaper 120 = .ok (.return_, 1) := by decide +kernel
def k_X9_makePaper : List pEn := [oAload 0, oConst (3), oAload 0, oGet 9 0, oConst (2), oIaldN 2, oCallZ 3 F_X9_takeFrom, oAload 0, oGet 9 0, oConst (11), oIaldN 11, oIfne 32, oAload 0, oGet 9 0, oConst (12), oIaldN 12, oIfne 32, oAload 0, oGet 9 0, oConst (35), oAload 0, oGet 9 0, oConst (10), oIaldN 10, oAdd, oDup2, oIald, oAload 0, oGet 9 9, oAdd, oIast, oGoto 71, oAload 0, oGet 9 0, oConst (34), oDup2, oIaldN 34, oAload 0, oGet 9 9, oAdd, oIastN 34, oAload 0, oGet 9 0, oConst (17), oDup2, oIaldN 17, oConst (1), oAdd, oIastN 17, oAload 0, oGet 9 0, oConst (14), oAload 0, oGet 9 0, oConst (10), oIaldN 10, oIastN 14, oAload 0, oConst (1), oAload 0, oGet 9 9, oAload 0, oGet 9 0, oConst (7), oIaldN 7, oCallZ 4 F_X9_fillInto, oIstore 1, oAload 0, oAload 0, oGet 9 11, oPutB 9 12, oVret]
def pc_X9_makePaper (i : Nat) : Nat := ([0, 1, 2, 3, 6, 7, 8, 11, 12, 15, 17, 18, 21, 22, 25, 27, 28, 31, 32, 35, 37, 38, 41, 43, 44, 45, 46, 47, 48, 51, 52, 53, 56, 57, 60, 62, 63, 64, 65, 68, 69, 70, 71, 74, 76, 77, 78, 79, 80, 81, 82, 85, 87, 88, 91, 93, 94, 95, 96, 97, 98, 101, 102, 105, 107, 108, 111, 112, 113, 114, 117, 120] : List Nat).getD i 0
abbrev rm_X9_makePaper : Room := { frames := 3, cells := 0, slots := 0, locals := 69 }
theorem pl_X9_makePaper : pPlain yX9_makePaper 0 := by decide +kernel
set_option maxRecDepth 100000 in
set_option maxHeartbeats 4000000 in
theorem ok_k_X9_makePaper (l : Launch) : ∀ (i : Nat) (en : pEn), k_X9_makePaper[i]? = some en → EOK l cX9_makePaper yX9_makePaper.cls 2 (none) rm_X9_makePaper 0 pc_X9_makePaper i en := by
  refine allOK_at ?_
  refine And.intro (okAload_n dX9_makePaper_0 rfl rfl) ?_
  refine And.intro (okIconst dX9_makePaper_1 rfl (by first | rfl | decide)) ?_
  refine And.intro (okAload_n dX9_makePaper_2 rfl rfl) ?_
  refine And.intro (okGet (C := RX9) (T := TX9) (N := 22) dX9_makePaper_3 rfl rfl (by decide) inX9 wm_3_141) ?_
  refine And.intro (okIconst dX9_makePaper_6 rfl (by first | rfl | decide)) ?_
  refine And.intro (okIaldN dX9_makePaper_7 rfl) ?_
  refine And.intro (okCallV (y := yX9_takeFrom) (T := TX9) (oCallZ_is _ _ _) dX9_makePaper_8 rfl (ok_F_X9_takeFrom l) rc_F_X9_takeFrom rfl wm_4_21 wm_4_23 wp_21 wm_1_10 wm_4_24 pl_X9_takeFrom (by decide)) ?_
  refine And.intro (okAload_n dX9_makePaper_11 rfl rfl) ?_
  refine And.intro (okGet (C := RX9) (T := TX9) (N := 22) dX9_makePaper_12 rfl rfl (by decide) inX9 wm_3_141) ?_
  refine And.intro (okBipush dX9_makePaper_15 rfl (by first | rfl | decide)) ?_
  refine And.intro (okIaldN dX9_makePaper_17 rfl) ?_
  refine And.intro (okIfne dX9_makePaper_18 rfl (by rfl)) ?_
  refine And.intro (okAload_n dX9_makePaper_21 rfl rfl) ?_
  refine And.intro (okGet (C := RX9) (T := TX9) (N := 22) dX9_makePaper_22 rfl rfl (by decide) inX9 wm_3_141) ?_
  refine And.intro (okBipush dX9_makePaper_25 rfl (by first | rfl | decide)) ?_
  refine And.intro (okIaldN dX9_makePaper_27 rfl) ?_
  refine And.intro (okIfne dX9_makePaper_28 rfl (by rfl)) ?_
  refine And.intro (okAload_n dX9_makePaper_31 rfl rfl) ?_
  refine And.intro (okGet (C := RX9) (T := TX9) (N := 22) dX9_makePaper_32 rfl rfl (by decide) inX9 wm_3_141) ?_
  refine And.intro (okBipush dX9_makePaper_35 rfl (by first | rfl | decide)) ?_
  refine And.intro (okAload_n dX9_makePaper_37 rfl rfl) ?_
  refine And.intro (okGet (C := RX9) (T := TX9) (N := 22) dX9_makePaper_38 rfl rfl (by decide) inX9 wm_3_141) ?_
  refine And.intro (okBipush dX9_makePaper_41 rfl (by first | rfl | decide)) ?_
  refine And.intro (okIaldN dX9_makePaper_43 rfl) ?_
  refine And.intro (okAdd dX9_makePaper_44 rfl) ?_
  refine And.intro (okDup2 dX9_makePaper_45 rfl) ?_
  refine And.intro (okIald dX9_makePaper_46 rfl) ?_
  refine And.intro (okAload_n dX9_makePaper_47 rfl rfl) ?_
  refine And.intro (okGet (C := RX9) (T := TX9) (N := 22) dX9_makePaper_48 rfl rfl (by decide) inX9 wm_3_150) ?_
  refine And.intro (okAdd dX9_makePaper_51 rfl) ?_
  refine And.intro (okIast dX9_makePaper_52 rfl) ?_
  refine And.intro (okGoto dX9_makePaper_53 (by rfl)) ?_
  refine And.intro (okAload_n dX9_makePaper_56 rfl rfl) ?_
  refine And.intro (okGet (C := RX9) (T := TX9) (N := 22) dX9_makePaper_57 rfl rfl (by decide) inX9 wm_3_141) ?_
  refine And.intro (okBipush dX9_makePaper_60 rfl (by first | rfl | decide)) ?_
  refine And.intro (okDup2 dX9_makePaper_62 rfl) ?_
  refine And.intro (okIaldN dX9_makePaper_63 rfl) ?_
  refine And.intro (okAload_n dX9_makePaper_64 rfl rfl) ?_
  refine And.intro (okGet (C := RX9) (T := TX9) (N := 22) dX9_makePaper_65 rfl rfl (by decide) inX9 wm_3_150) ?_
  refine And.intro (okAdd dX9_makePaper_68 rfl) ?_
  refine And.intro (okIastN dX9_makePaper_69 rfl) ?_
  refine And.intro (okAload_n dX9_makePaper_70 rfl rfl) ?_
  refine And.intro (okGet (C := RX9) (T := TX9) (N := 22) dX9_makePaper_71 rfl rfl (by decide) inX9 wm_3_141) ?_
  refine And.intro (okBipush dX9_makePaper_74 rfl (by first | rfl | decide)) ?_
  refine And.intro (okDup2 dX9_makePaper_76 rfl) ?_
  refine And.intro (okIaldN dX9_makePaper_77 rfl) ?_
  refine And.intro (okIconst dX9_makePaper_78 rfl (by first | rfl | decide)) ?_
  refine And.intro (okAdd dX9_makePaper_79 rfl) ?_
  refine And.intro (okIastN dX9_makePaper_80 rfl) ?_
  refine And.intro (okAload_n dX9_makePaper_81 rfl rfl) ?_
  refine And.intro (okGet (C := RX9) (T := TX9) (N := 22) dX9_makePaper_82 rfl rfl (by decide) inX9 wm_3_141) ?_
  refine And.intro (okBipush dX9_makePaper_85 rfl (by first | rfl | decide)) ?_
  refine And.intro (okAload_n dX9_makePaper_87 rfl rfl) ?_
  refine And.intro (okGet (C := RX9) (T := TX9) (N := 22) dX9_makePaper_88 rfl rfl (by decide) inX9 wm_3_141) ?_
  refine And.intro (okBipush dX9_makePaper_91 rfl (by first | rfl | decide)) ?_
  refine And.intro (okIaldN dX9_makePaper_93 rfl) ?_
  refine And.intro (okIastN dX9_makePaper_94 rfl) ?_
  refine And.intro (okAload_n dX9_makePaper_95 rfl rfl) ?_
  refine And.intro (okIconst dX9_makePaper_96 rfl (by first | rfl | decide)) ?_
  refine And.intro (okAload_n dX9_makePaper_97 rfl rfl) ?_
  refine And.intro (okGet (C := RX9) (T := TX9) (N := 22) dX9_makePaper_98 rfl rfl (by decide) inX9 wm_3_150) ?_
  refine And.intro (okAload_n dX9_makePaper_101 rfl rfl) ?_
  refine And.intro (okGet (C := RX9) (T := TX9) (N := 22) dX9_makePaper_102 rfl rfl (by decide) inX9 wm_3_141) ?_
  refine And.intro (okBipush dX9_makePaper_105 rfl (by first | rfl | decide)) ?_
  refine And.intro (okIaldN dX9_makePaper_107 rfl) ?_
  refine And.intro (okCallV (y := yX9_fillInto) (T := TX9) (oCallZ_is _ _ _) dX9_makePaper_108 rfl (ok_F_X9_fillInto l) rc_F_X9_fillInto rfl wm_4_10 wm_4_12 wp_19 wm_1_10 wm_4_13 pl_X9_fillInto (by decide)) ?_
  refine And.intro (okIstore_n dX9_makePaper_111 rfl rfl (by decide)) ?_
  refine And.intro (okAload_n dX9_makePaper_112 rfl rfl) ?_
  refine And.intro (okAload_n dX9_makePaper_113 rfl rfl) ?_
  refine And.intro (okGet (C := RX9) (T := TX9) (N := 22) dX9_makePaper_114 rfl rfl (by decide) inX9 wm_3_152) ?_
  refine And.intro (okPutB (C := RX9) (T := TX9) (N := 22) dX9_makePaper_117 rfl rfl (by decide) inX9 tyX9_ok nmX9 rfl rfl wm_3_153) ?_
  refine And.intro (okVret dX9_makePaper_120 rfl) ?_
  exact trivial
def G_X9_makePaper : pG := fun args w => match args with
  | [.ref 0] => unM w (fun m => pif (0 ≤ m 1 10 ∧ m 1 10 ≤ 3) (some (none, mdl (mkpM m))) none)
  | _ => none
set_option maxHeartbeats 400000 in
set_option maxRecDepth 100000 in
theorem run_X9_makePaper (rg : pRg) (m : pLV)  (hc : 0 ≤ m 1 10 ∧ m 1 10 ≤ 3) : ∃ fu, ex k_X9_makePaper fu 0 [(0, .ref 0)] [] (mdl m) rg = some (none, mdl (mkpM m), rg) := by
  refine ⟨60, ?_⟩
  conv => lhs; whnf
  refine (callK_v (cl_X9_takeFrom3 m (m 1 2) rg) (by rfl)).trans ?_
  unfold mkpM
  have hx : 0 ≤ (takeM 3 (NM m) (m 1 2)) 1 10 ∧ (takeM 3 (NM m) (m 1 2)) 1 10 ≤ 3 := hc
  revert hx
  generalize takeM 3 (NM m) (m 1 2) = x
  revert x; refine id ?_; intro x hx
  conv => lhs; whnf
  refine pif_c (fun h1 => ?_) (fun h1 => ?_)
  · conv => lhs; whnf
    refine pif_c (fun h2 => ?_) (fun h2 => ?_)
    · conv => lhs; whnf
      refine (pif_f (bnd_lit 110 35 rfl hx.1 (le_toInt 3 rfl hx.2) (by decide) (by decide) (by decide))).trans ?_
      conv => lhs; whnf
      refine (pif_f (bnd_lit 110 35 rfl hx.1 (le_toInt 3 rfl hx.2) (by decide) (by decide) (by decide))).trans ?_
      rw [show mpE x = mpA x from (if_pos h1).trans (if_pos h2)]
      rfl
    · conv => lhs; whnf
      refine (callK_r (cl_X9_fillInto1 (mpB x) (x 0 9) (x 1 7) rg) (by rfl)).trans ?_
      rw [show mpE x = mpD x from (if_pos h1).trans (if_neg h2)]
      unfold mpD
      have hy := fl_11 1 (NM (mpB x)) (x 0 9) (x 1 7)
      revert hy
      generalize fillR 1 (NM (mpB x)) (x 0 9) (x 1 7) = z
      generalize fillM 1 (NM (mpB x)) (x 0 9) (x 1 7) = y
      revert z y; refine id ?_; intro z y hy
      conv => lhs; whnf
      refine (pif_t (hy)).trans ?_
      rfl
  · conv => lhs; whnf
    refine (callK_r (cl_X9_fillInto1 (mpB x) (x 0 9) (x 1 7) rg) (by rfl)).trans ?_
    rw [show mpE x = mpD x from if_neg h1]
    unfold mpD
    have hy := fl_11 1 (NM (mpB x)) (x 0 9) (x 1 7)
    revert hy
    generalize fillR 1 (NM (mpB x)) (x 0 9) (x 1 7) = z
    generalize fillM 1 (NM (mpB x)) (x 0 9) (x 1 7) = y
    revert z y; refine id ?_; intro z y hy
    conv => lhs; whnf
    refine (pif_t (hy)).trans ?_
    rfl
theorem ct_X9_makePaper (l : Launch) : ∀ args0 w0 v0 w1 rg, G_X9_makePaper args0 w0 = some (v0, w1) → pCT l yX9_makePaper (pWs yX9_makePaper cX9_makePaper 2 (none)) rm_X9_makePaper args0 w0 rg (v0, w1, rg) := by
  intro args0 w0 v0 w1 rg h
  unfold G_X9_makePaper at h
  split at h
  next  =>
    obtain ⟨m, hw, h2⟩ := unM_some h
    clear h
    subst hw
    by_cases hc : 0 ≤ m 1 10 ∧ m 1 10 ≤ 3
    · have h2 := (pif_t hc).symm.trans h2
      cases h2
      exact met_of_exM (by decide) (ok_k_X9_makePaper l) rfl (run_X9_makePaper rg m  hc) (Nat.le_of_ble_eq_true rfl) rfl rfl
    · have h2 := (pif_f hc).symm.trans h2
      cases h2
  next => cases h
def F_X9_makePaper : pF := faN G_X9_makePaper
theorem ok_F_X9_makePaper (l : Launch) : pFOK l yX9_makePaper (pWs yX9_makePaper cX9_makePaper 2 (none)) rm_X9_makePaper F_X9_makePaper := pFOK_fa (fun a b c d rg h => ct_X9_makePaper l a b c d rg h)
theorem rc_F_X9_makePaper : pRcv 9 F_X9_makePaper := pRcv_fa (fun a b c d h => by
  unfold G_X9_makePaper at h
  split at h
  next =>
    obtain ⟨m, rfl, h⟩ := unM_some h
    exact ⟨_, _, _, rfl, rfl⟩
  next => cases h)
theorem cl_X9_makePaper (m : pLV)  (rg : pRg) (hc : 0 ≤ (NM m) 1 10 ∧ (NM m) 1 10 ≤ 3) : F_X9_makePaper [.ref 0] (mdl m) rg = some (none, mdl (mkpM (NM m)), rg) := by
  have h : G_X9_makePaper [.ref 0] (mdl m) = some (none, mdl (mkpM (NM m))) := pif_t hc
  unfold F_X9_makePaper faN
  rw [h]
end
end
section
noncomputable section
theorem nI_plus (a b : Nat) : nI a + nI b = nI (a + b) := (Int32.ofNat_add a b).symm
theorem nI_tim (a b : Nat) : nI a * nI b = nI (a * b) := (Int32.ofNat_mul a b).symm
theorem nI_at (k : Nat) : (50 : Int32) + 3 * nI k = nI (50 + 3 * k) := by
  rw [← nI_plus, ← nI_tim]; rfl
theorem nI_p1 (k : Nat) : nI k + 1 = nI (k + 1) := (nI_plus k 1)
theorem nI_p2 (k : Nat) : nI k + 2 = nI (k + 2) := (nI_plus k 2)
def ce1M (m : pLV) (k : Nat) : pLV := if m 1 (50 + 3 * k + 1) = 0 then bkM (NM m) (m 1 (50 + 3 * k + 2)) else if m 1 (50 + 3 * k + 1) = 1 then cgM (NM m) (m 1 (50 + 3 * k + 2)) else vA m 1 (upd (m 1) 2 (m 1 (50 + 3 * k + 2)))
def ceM (m : pLV) (k : Nat) : pLV := if m 1 (50 + 3 * k) = m 1 9 then ce1M m k else m
def coI : Nat → pLV → pLV
  | 0, m => m
  | k + 1, m => ceM (coI k m) k
theorem ceM_49 (m : pLV) (k : Nat) : ceM m k 1 49 = m 1 49 := by
  unfold ceM
  split
  · unfold ce1M
    split
    · rfl
    · split <;> rfl
  · rfl
theorem coI_49 : ∀ (k : Nat) (m : pLV), coI k m 1 49 = m 1 49
  | 0, _ => rfl
  | k + 1, m => (ceM_49 _ _).trans (coI_49 k m)
def cryM (m : pLV) : pLV := coI (m 1 49).toNatClampNeg m
theorem dX9_carryOut_0 : decode cX9_carryOut 0 = .ok (.iconst 0, 1) := by decide +kernel
theorem dX9_carryOut_1 : decode cX9_carryOut 1 = .ok (.istore_n 1, 1) := by decide +kernel
theorem dX9_carryOut_2 : decode cX9_carryOut 2 = .ok (.iload_n 1, 1) := by decide +kernel
theorem dX9_carryOut_3 : decode cX9_carryOut 3 = .ok (.aload_n 0, 1) := by decide +kernel
theorem dX9_carryOut_4 : decode cX9_carryOut 4 = .ok (.getfield 7, 3) := by decide +kernel
theorem dX9_carryOut_7 : decode cX9_carryOut 7 = .ok (.bipush 49, 2) := by decide +kernel
theorem dX9_carryOut_9 : decode cX9_carryOut 9 = .ok (.iaload, 1) := by decide +kernel
theorem dX9_carryOut_10 : decode cX9_carryOut 10 = .ok (.if_icmp .ge 99, 3) := by decide +kernel
theorem dX9_carryOut_13 : decode cX9_carryOut 13 = .ok (.bipush 50, 2) := by decide +kernel
theorem dX9_carryOut_15 : decode cX9_carryOut 15 = .ok (.iconst 3, 1) := by decide +kernel
theorem dX9_carryOut_16 : decode cX9_carryOut 16 = .ok (.iload_n 1, 1) := by decide +kernel
theorem dX9_carryOut_17 : decode cX9_carryOut 17 = .ok (.imul, 1) := by decide +kernel
theorem dX9_carryOut_18 : decode cX9_carryOut 18 = .ok (.iadd, 1) := by decide +kernel
theorem dX9_carryOut_19 : decode cX9_carryOut 19 = .ok (.istore_n 2, 1) := by decide +kernel
theorem dX9_carryOut_20 : decode cX9_carryOut 20 = .ok (.aload_n 0, 1) := by decide +kernel
theorem dX9_carryOut_21 : decode cX9_carryOut 21 = .ok (.getfield 7, 3) := by decide +kernel
theorem dX9_carryOut_24 : decode cX9_carryOut 24 = .ok (.iload_n 2, 1) := by decide +kernel
theorem dX9_carryOut_25 : decode cX9_carryOut 25 = .ok (.iaload, 1) := by decide +kernel
theorem dX9_carryOut_26 : decode cX9_carryOut 26 = .ok (.aload_n 0, 1) := by decide +kernel
theorem dX9_carryOut_27 : decode cX9_carryOut 27 = .ok (.getfield 7, 3) := by decide +kernel
theorem dX9_carryOut_30 : decode cX9_carryOut 30 = .ok (.bipush 9, 2) := by decide +kernel
theorem dX9_carryOut_32 : decode cX9_carryOut 32 = .ok (.iaload, 1) := by decide +kernel
theorem dX9_carryOut_33 : decode cX9_carryOut 33 = .ok (.if_icmp .ne 70, 3) := by decide +kernel
theorem dX9_carryOut_36 : decode cX9_carryOut 36 = .ok (.aload_n 0, 1) := by decide +kernel
theorem dX9_carryOut_37 : decode cX9_carryOut 37 = .ok (.getfield 7, 3) := by decide +kernel
theorem dX9_carryOut_40 : decode cX9_carryOut 40 = .ok (.iload_n 2, 1) := by decide +kernel
theorem dX9_carryOut_41 : decode cX9_carryOut 41 = .ok (.iconst 1, 1) := by decide +kernel
theorem dX9_carryOut_42 : decode cX9_carryOut 42 = .ok (.iadd, 1) := by decide +kernel
theorem dX9_carryOut_43 : decode cX9_carryOut 43 = .ok (.iaload, 1) := by decide +kernel
theorem dX9_carryOut_44 : decode cX9_carryOut 44 = .ok (.ifCond .ne 18, 3) := by decide +kernel
theorem dX9_carryOut_47 : decode cX9_carryOut 47 = .ok (.aload_n 0, 1) := by decide +kernel
theorem dX9_carryOut_48 : decode cX9_carryOut 48 = .ok (.aload_n 0, 1) := by decide +kernel
theorem dX9_carryOut_49 : decode cX9_carryOut 49 = .ok (.getfield 7, 3) := by decide +kernel
theorem dX9_carryOut_52 : decode cX9_carryOut 52 = .ok (.iload_n 2, 1) := by decide +kernel
theorem dX9_carryOut_53 : decode cX9_carryOut 53 = .ok (.iconst 2, 1) := by decide +kernel
theorem dX9_carryOut_54 : decode cX9_carryOut 54 = .ok (.iadd, 1) := by decide +kernel
theorem dX9_carryOut_55 : decode cX9_carryOut 55 = .ok (.iaload, 1) := by decide +kernel
theorem dX9_carryOut_56 : decode cX9_carryOut 56 = .ok (.invokevirtual 66, 3) := by decide +kernel
theorem dX9_carryOut_59 : decode cX9_carryOut 59 = .ok (.goto 44, 3) := by decide +kernel
theorem dX9_carryOut_62 : decode cX9_carryOut 62 = .ok (.aload_n 0, 1) := by decide +kernel
theorem dX9_carryOut_63 : decode cX9_carryOut 63 = .ok (.getfield 7, 3) := by decide +kernel
theorem dX9_carryOut_66 : decode cX9_carryOut 66 = .ok (.iload_n 2, 1) := by decide +kernel
theorem dX9_carryOut_67 : decode cX9_carryOut 67 = .ok (.iconst 1, 1) := by decide +kernel
theorem dX9_carryOut_68 : decode cX9_carryOut 68 = .ok (.iadd, 1) := by decide +kernel
theorem dX9_carryOut_69 : decode cX9_carryOut 69 = .ok (.iaload, 1) := by decide +kernel
theorem dX9_carryOut_70 : decode cX9_carryOut 70 = .ok (.iconst 1, 1) := by decide +kernel
theorem dX9_carryOut_71 : decode cX9_carryOut 71 = .ok (.if_icmp .ne 18, 3) := by decide +kernel
theorem dX9_carryOut_74 : decode cX9_carryOut 74 = .ok (.aload_n 0, 1) := by decide +kernel
theorem dX9_carryOut_75 : decode cX9_carryOut 75 = .ok (.aload_n 0, 1) := by decide +kernel
theorem dX9_carryOut_76 : decode cX9_carryOut 76 = .ok (.getfield 7, 3) := by decide +kernel
theorem dX9_carryOut_79 : decode cX9_carryOut 79 = .ok (.iload_n 2, 1) := by decide +kernel
theorem dX9_carryOut_80 : decode cX9_carryOut 80 = .ok (.iconst 2, 1) := by decide +kernel
theorem dX9_carryOut_81 : decode cX9_carryOut 81 = .ok (.iadd, 1) := by decide +kernel
theorem dX9_carryOut_82 : decode cX9_carryOut 82 = .ok (.iaload, 1) := by decide +kernel
theorem dX9_carryOut_83 : decode cX9_carryOut 83 = .ok (.invokevirtual 70, 3) := by decide +kernel
theorem dX9_carryOut_86 : decode cX9_carryOut 86 = .ok (.goto 17, 3) := by decide +kernel
theorem dX9_carryOut_89 : decode cX9_carryOut 89 = .ok (.aload_n 0, 1) := by decide +kernel
theorem dX9_carryOut_90 : decode cX9_carryOut 90 = .ok (.getfield 7, 3) := by decide +kernel
theorem dX9_carryOut_93 : decode cX9_carryOut 93 = .ok (.iconst 2, 1) := by decide +kernel
theorem dX9_carryOut_94 : decode cX9_carryOut 94 = .ok (.aload_n 0, 1) := by decide +kernel
theorem dX9_carryOut_95 : decode cX9_carryOut 95 = .ok (.getfield 7, 3) := by decide +kernel
theorem dX9_carryOut_98 : decode cX9_carryOut 98 = .ok (.iload_n 2, 1) := by decide +kernel
theorem dX9_carryOut_99 : decode cX9_carryOut 99 = .ok (.iconst 2, 1) := by decide +kernel
theorem dX9_carryOut_100 : decode cX9_carryOut 100 = .ok (.iadd, 1) := by decide +kernel
theorem dX9_carryOut_101 : decode cX9_carryOut 101 = .ok (.iaload, 1) := by decide +kernel
theorem dX9_carryOut_102 : decode cX9_carryOut 102 = .ok (.iastore, 1) := by decide +kernel
theorem dX9_carryOut_103 : decode cX9_carryOut 103 = .ok (.iinc 1 1, 3) := by decide +kernel
theorem dX9_carryOut_106 : decode cX9_carryOut 106 = .ok (.goto (-104), 3) := by decide +kernel
theorem dX9_carryOut_109 : decode cX9_carryOut 109 = .ok (.return_, 1) := by decide +kernel
def k_X9_carryOut : List pEn := [oConst (0), oIstore 1, oIload 1, oAload 0, oGet 9 0, oConst (49), oIaldN 49, oCge 68, oConst (50), oConst (3), oIload 1, oMul, oAdd, oIstore 2, oAload 0, oGet 9 0, oIload 2, oIald, oAload 0, oGet 9 0, oConst (9), oIaldN 9, oCne 66, oAload 0, oGet 9 0, oIload 2, oConst (1), oAdd, oIald, oIfne 39, oAload 0, oAload 0, oGet 9 0, oIload 2, oConst (2), oAdd, oIald, oCallZ 2 F_X9_breakSheet, oGoto 66, oAload 0, oGet 9 0, oIload 2, oConst (1), oAdd, oIald, oConst (1), oCne 56, oAload 0, oAload 0, oGet 9 0, oIload 2, oConst (2), oAdd, oIald, oCallZ 2 F_X9_changeGrade, oGoto 66, oAload 0, oGet 9 0, oConst (2), oAload 0, oGet 9 0, oIload 2, oConst (2), oAdd, oIald, oIastN 2, oIinc 1 (1), oGoto 2, oVret]
def pc_X9_carryOut (i : Nat) : Nat := ([0, 1, 2, 3, 4, 7, 9, 10, 13, 15, 16, 17, 18, 19, 20, 21, 24, 25, 26, 27, 30, 32, 33, 36, 37, 40, 41, 42, 43, 44, 47, 48, 49, 52, 53, 54, 55, 56, 59, 62, 63, 66, 67, 68, 69, 70, 71, 74, 75, 76, 79, 80, 81, 82, 83, 86, 89, 90, 93, 94, 95, 98, 99, 100, 101, 102, 103, 106, 109] : List Nat).getD i 0
abbrev rm_X9_carryOut : Room := { frames := 1, cells := 0, slots := 0, locals := 21 }
theorem pl_X9_carryOut : pPlain yX9_carryOut 0 := by decide +kernel
set_option maxRecDepth 100000 in
set_option maxHeartbeats 4000000 in
theorem ok_k_X9_carryOut (l : Launch) : ∀ (i : Nat) (en : pEn), k_X9_carryOut[i]? = some en → EOK l cX9_carryOut yX9_carryOut.cls 3 (none) rm_X9_carryOut 0 pc_X9_carryOut i en := by
  refine allOK_at ?_
  refine And.intro (okIconst dX9_carryOut_0 rfl (by first | rfl | decide)) ?_
  refine And.intro (okIstore_n dX9_carryOut_1 rfl rfl (by decide)) ?_
  refine And.intro (okIload_n dX9_carryOut_2 rfl rfl) ?_
  refine And.intro (okAload_n dX9_carryOut_3 rfl rfl) ?_
  refine And.intro (okGet (C := RX9) (T := TX9) (N := 22) dX9_carryOut_4 rfl rfl (by decide) inX9 wm_3_141) ?_
  refine And.intro (okBipush dX9_carryOut_7 rfl (by first | rfl | decide)) ?_
  refine And.intro (okIaldN dX9_carryOut_9 rfl) ?_
  refine And.intro (okCge dX9_carryOut_10 rfl (by rfl)) ?_
  refine And.intro (okBipush dX9_carryOut_13 rfl (by first | rfl | decide)) ?_
  refine And.intro (okIconst dX9_carryOut_15 rfl (by first | rfl | decide)) ?_
  refine And.intro (okIload_n dX9_carryOut_16 rfl rfl) ?_
  refine And.intro (okMul dX9_carryOut_17 rfl) ?_
  refine And.intro (okAdd dX9_carryOut_18 rfl) ?_
  refine And.intro (okIstore_n dX9_carryOut_19 rfl rfl (by decide)) ?_
  refine And.intro (okAload_n dX9_carryOut_20 rfl rfl) ?_
  refine And.intro (okGet (C := RX9) (T := TX9) (N := 22) dX9_carryOut_21 rfl rfl (by decide) inX9 wm_3_141) ?_
  refine And.intro (okIload_n dX9_carryOut_24 rfl rfl) ?_
  refine And.intro (okIald dX9_carryOut_25 rfl) ?_
  refine And.intro (okAload_n dX9_carryOut_26 rfl rfl) ?_
  refine And.intro (okGet (C := RX9) (T := TX9) (N := 22) dX9_carryOut_27 rfl rfl (by decide) inX9 wm_3_141) ?_
  refine And.intro (okBipush dX9_carryOut_30 rfl (by first | rfl | decide)) ?_
  refine And.intro (okIaldN dX9_carryOut_32 rfl) ?_
  refine And.intro (okCne dX9_carryOut_33 rfl (by rfl)) ?_
  refine And.intro (okAload_n dX9_carryOut_36 rfl rfl) ?_
  refine And.intro (okGet (C := RX9) (T := TX9) (N := 22) dX9_carryOut_37 rfl rfl (by decide) inX9 wm_3_141) ?_
  refine And.intro (okIload_n dX9_carryOut_40 rfl rfl) ?_
  refine And.intro (okIconst dX9_carryOut_41 rfl (by first | rfl | decide)) ?_
  refine And.intro (okAdd dX9_carryOut_42 rfl) ?_
  refine And.intro (okIald dX9_carryOut_43 rfl) ?_
  refine And.intro (okIfne dX9_carryOut_44 rfl (by rfl)) ?_
  refine And.intro (okAload_n dX9_carryOut_47 rfl rfl) ?_
  refine And.intro (okAload_n dX9_carryOut_48 rfl rfl) ?_
  refine And.intro (okGet (C := RX9) (T := TX9) (N := 22) dX9_carryOut_49 rfl rfl (by decide) inX9 wm_3_141) ?_
  refine And.intro (okIload_n dX9_carryOut_52 rfl rfl) ?_
  refine And.intro (okIconst dX9_carryOut_53 rfl (by first | rfl | decide)) ?_
  refine And.intro (okAdd dX9_carryOut_54 rfl) ?_
  refine And.intro (okIald dX9_carryOut_55 rfl) ?_
  refine And.intro (okCallV (y := yX9_breakSheet) (T := TX9) (oCallZ_is _ _ _) dX9_carryOut_56 rfl (ok_F_X9_breakSheet l) rc_F_X9_breakSheet rfl wm_3_230 wm_3_232 wp_17 wm_1_10 wm_3_233 pl_X9_breakSheet (by decide)) ?_
  refine And.intro (okGoto dX9_carryOut_59 (by rfl)) ?_
  refine And.intro (okAload_n dX9_carryOut_62 rfl rfl) ?_
  refine And.intro (okGet (C := RX9) (T := TX9) (N := 22) dX9_carryOut_63 rfl rfl (by decide) inX9 wm_3_141) ?_
  refine And.intro (okIload_n dX9_carryOut_66 rfl rfl) ?_
  refine And.intro (okIconst dX9_carryOut_67 rfl (by first | rfl | decide)) ?_
  refine And.intro (okAdd dX9_carryOut_68 rfl) ?_
  refine And.intro (okIald dX9_carryOut_69 rfl) ?_
  refine And.intro (okIconst dX9_carryOut_70 rfl (by first | rfl | decide)) ?_
  refine And.intro (okCne dX9_carryOut_71 rfl (by rfl)) ?_
  refine And.intro (okAload_n dX9_carryOut_74 rfl rfl) ?_
  refine And.intro (okAload_n dX9_carryOut_75 rfl rfl) ?_
  refine And.intro (okGet (C := RX9) (T := TX9) (N := 22) dX9_carryOut_76 rfl rfl (by decide) inX9 wm_3_141) ?_
  refine And.intro (okIload_n dX9_carryOut_79 rfl rfl) ?_
  refine And.intro (okIconst dX9_carryOut_80 rfl (by first | rfl | decide)) ?_
  refine And.intro (okAdd dX9_carryOut_81 rfl) ?_
  refine And.intro (okIald dX9_carryOut_82 rfl) ?_
  refine And.intro (okCallV (y := yX9_changeGrade) (T := TX9) (oCallZ_is _ _ _) dX9_carryOut_83 rfl (ok_F_X9_changeGrade l) rc_F_X9_changeGrade rfl wm_3_238 wm_4_0 wp_18 wm_1_10 wm_4_1 pl_X9_changeGrade (by decide)) ?_
  refine And.intro (okGoto dX9_carryOut_86 (by rfl)) ?_
  refine And.intro (okAload_n dX9_carryOut_89 rfl rfl) ?_
  refine And.intro (okGet (C := RX9) (T := TX9) (N := 22) dX9_carryOut_90 rfl rfl (by decide) inX9 wm_3_141) ?_
  refine And.intro (okIconst dX9_carryOut_93 rfl (by first | rfl | decide)) ?_
  refine And.intro (okAload_n dX9_carryOut_94 rfl rfl) ?_
  refine And.intro (okGet (C := RX9) (T := TX9) (N := 22) dX9_carryOut_95 rfl rfl (by decide) inX9 wm_3_141) ?_
  refine And.intro (okIload_n dX9_carryOut_98 rfl rfl) ?_
  refine And.intro (okIconst dX9_carryOut_99 rfl (by first | rfl | decide)) ?_
  refine And.intro (okAdd dX9_carryOut_100 rfl) ?_
  refine And.intro (okIald dX9_carryOut_101 rfl) ?_
  refine And.intro (okIastN dX9_carryOut_102 rfl) ?_
  refine And.intro (okIinc dX9_carryOut_103 rfl (by first | rfl | decide) (by decide)) ?_
  refine And.intro (okGoto dX9_carryOut_106 (by rfl)) ?_
  refine And.intro (okVret dX9_carryOut_109 rfl) ?_
  exact trivial
set_option maxHeartbeats 3000000 in
theorem lp_co (rg : pRg) (m : pLV) (hc : (m 1 49).toNatClampNeg ≤ 20) : ∀ (d k : Nat), k + d = (m 1 49).toNatClampNeg → ∃ fu, ∀ ls0, (ls0 = [(1, .int (nI k)), (0, .ref 0)] ∨ ∃ z, ls0 = [(1, .int (nI k)), (2, .int z), (0, .ref 0)]) → ex k_X9_carryOut fu 2 ls0 [] (mdl (coI k m)) rg = some (none, mdl (cryM m), rg) := by
  intro d
  induction d with
  | zero =>
    intro k hk
    obtain rfl : k = (m 1 49).toNatClampNeg := by omega
    refine ⟨5, ?_⟩
    intro ls0 hl
    rcases hl with rfl | ⟨z, rfl⟩
    · conv => lhs; whnf
      refine (pif_t (by rw [coI_49]; exact clamp_ge (Nat.le_refl _) (by omega))).trans ?_
      rfl
    · conv => lhs; whnf
      refine (pif_t (by rw [coI_49]; exact clamp_ge (Nat.le_refl _) (by omega))).trans ?_
      rfl
  | succ d ih =>
    intro k hk
    obtain ⟨fu, hm⟩ := ih (k + 1) (by omega)
    by_cases h : coI k m 1 (50 + 3 * k) = coI k m 1 9
    · have e1 : coI (k + 1) m = ce1M (coI k m) k := if_pos h
      by_cases h2 : coI k m 1 (50 + 3 * k + 1) = 0
      · have e2 : coI (k + 1) m = bkM (NM (coI k m)) (coI k m 1 (50 + 3 * k + 2)) := e1.trans (if_pos h2)
        rw [e2] at hm
        refine ⟨fu + 2, fun ls0 hl => ?_⟩
        rcases hl with rfl | ⟨z, rfl⟩
        · conv => lhs; whnf
          refine (pif_f (by rw [coI_49]; exact clamp_le (by omega))).trans ?_
          conv => lhs; whnf
          rw [nI_at]
          refine (pif_f (nI_in (c := 50 + 3 * k) (N := 110) (by omega) (by omega))).trans ?_
          rw [nI_clamp (by omega : 50 + 3 * k < 2 ^ 31)]
          conv => lhs; whnf
          refine (pif_t (h)).trans ?_
          conv => lhs; whnf
          rw [nI_p1]
          refine (pif_f (nI_in (c := 50 + 3 * k + 1) (N := 110) (by omega) (by omega))).trans ?_
          rw [nI_clamp (by omega : 50 + 3 * k + 1 < 2 ^ 31)]
          conv => lhs; whnf
          refine (pif_t (h2)).trans ?_
          conv => lhs; whnf
          rw [nI_p2]
          refine (pif_f (nI_in (c := 50 + 3 * k + 2) (N := 110) (by omega) (by omega))).trans ?_
          rw [nI_clamp (by omega : 50 + 3 * k + 2 < 2 ^ 31)]
          conv => lhs; whnf
          refine (callK_v (cl_X9_breakSheet (coI k m) (coI k m 1 (50 + 3 * k + 2)) rg) (by rfl)).trans ?_
          conv => lhs; whnf
          rw [nI_1]
          exact hm _ (Or.inr ⟨nI (50 + 3 * k), rfl⟩)
        · conv => lhs; whnf
          refine (pif_f (by rw [coI_49]; exact clamp_le (by omega))).trans ?_
          conv => lhs; whnf
          rw [nI_at]
          refine (pif_f (nI_in (c := 50 + 3 * k) (N := 110) (by omega) (by omega))).trans ?_
          rw [nI_clamp (by omega : 50 + 3 * k < 2 ^ 31)]
          conv => lhs; whnf
          refine (pif_t (h)).trans ?_
          conv => lhs; whnf
          rw [nI_p1]
          refine (pif_f (nI_in (c := 50 + 3 * k + 1) (N := 110) (by omega) (by omega))).trans ?_
          rw [nI_clamp (by omega : 50 + 3 * k + 1 < 2 ^ 31)]
          conv => lhs; whnf
          refine (pif_t (h2)).trans ?_
          conv => lhs; whnf
          rw [nI_p2]
          refine (pif_f (nI_in (c := 50 + 3 * k + 2) (N := 110) (by omega) (by omega))).trans ?_
          rw [nI_clamp (by omega : 50 + 3 * k + 2 < 2 ^ 31)]
          conv => lhs; whnf
          refine (callK_v (cl_X9_breakSheet (coI k m) (coI k m 1 (50 + 3 * k + 2)) rg) (by rfl)).trans ?_
          conv => lhs; whnf
          rw [nI_1]
          exact hm _ (Or.inr ⟨nI (50 + 3 * k), rfl⟩)
      · by_cases h3 : coI k m 1 (50 + 3 * k + 1) = 1
        · have e2 : coI (k + 1) m = cgM (NM (coI k m)) (coI k m 1 (50 + 3 * k + 2)) := e1.trans ((if_neg h2).trans (if_pos h3))
          rw [e2] at hm
          refine ⟨fu + 3, fun ls0 hl => ?_⟩
          rcases hl with rfl | ⟨z, rfl⟩
          · conv => lhs; whnf
            refine (pif_f (by rw [coI_49]; exact clamp_le (by omega))).trans ?_
            conv => lhs; whnf
            rw [nI_at]
            refine (pif_f (nI_in (c := 50 + 3 * k) (N := 110) (by omega) (by omega))).trans ?_
            rw [nI_clamp (by omega : 50 + 3 * k < 2 ^ 31)]
            conv => lhs; whnf
            refine (pif_t (h)).trans ?_
            conv => lhs; whnf
            rw [nI_p1]
            refine (pif_f (nI_in (c := 50 + 3 * k + 1) (N := 110) (by omega) (by omega))).trans ?_
            rw [nI_clamp (by omega : 50 + 3 * k + 1 < 2 ^ 31)]
            conv => lhs; whnf
            refine (pif_f (h2)).trans ?_
            conv => lhs; whnf
            rw [nI_p1]
            refine (pif_f (nI_in (c := 50 + 3 * k + 1) (N := 110) (by omega) (by omega))).trans ?_
            rw [nI_clamp (by omega : 50 + 3 * k + 1 < 2 ^ 31)]
            conv => lhs; whnf
            refine (pif_t (h3)).trans ?_
            conv => lhs; whnf
            rw [nI_p2]
            refine (pif_f (nI_in (c := 50 + 3 * k + 2) (N := 110) (by omega) (by omega))).trans ?_
            rw [nI_clamp (by omega : 50 + 3 * k + 2 < 2 ^ 31)]
            conv => lhs; whnf
            refine (callK_v (cl_X9_changeGrade (coI k m) (coI k m 1 (50 + 3 * k + 2)) rg) (by rfl)).trans ?_
            conv => lhs; whnf
            rw [nI_1]
            exact hm _ (Or.inr ⟨nI (50 + 3 * k), rfl⟩)
          · conv => lhs; whnf
            refine (pif_f (by rw [coI_49]; exact clamp_le (by omega))).trans ?_
            conv => lhs; whnf
            rw [nI_at]
            refine (pif_f (nI_in (c := 50 + 3 * k) (N := 110) (by omega) (by omega))).trans ?_
            rw [nI_clamp (by omega : 50 + 3 * k < 2 ^ 31)]
            conv => lhs; whnf
            refine (pif_t (h)).trans ?_
            conv => lhs; whnf
            rw [nI_p1]
            refine (pif_f (nI_in (c := 50 + 3 * k + 1) (N := 110) (by omega) (by omega))).trans ?_
            rw [nI_clamp (by omega : 50 + 3 * k + 1 < 2 ^ 31)]
            conv => lhs; whnf
            refine (pif_f (h2)).trans ?_
            conv => lhs; whnf
            rw [nI_p1]
            refine (pif_f (nI_in (c := 50 + 3 * k + 1) (N := 110) (by omega) (by omega))).trans ?_
            rw [nI_clamp (by omega : 50 + 3 * k + 1 < 2 ^ 31)]
            conv => lhs; whnf
            refine (pif_t (h3)).trans ?_
            conv => lhs; whnf
            rw [nI_p2]
            refine (pif_f (nI_in (c := 50 + 3 * k + 2) (N := 110) (by omega) (by omega))).trans ?_
            rw [nI_clamp (by omega : 50 + 3 * k + 2 < 2 ^ 31)]
            conv => lhs; whnf
            refine (callK_v (cl_X9_changeGrade (coI k m) (coI k m 1 (50 + 3 * k + 2)) rg) (by rfl)).trans ?_
            conv => lhs; whnf
            rw [nI_1]
            exact hm _ (Or.inr ⟨nI (50 + 3 * k), rfl⟩)
        · have e2 : coI (k + 1) m = vA (coI k m) 1 (upd (coI k m 1) 2 (coI k m 1 (50 + 3 * k + 2))) := e1.trans ((if_neg h2).trans (if_neg h3))
          rw [e2] at hm
          refine ⟨fu + 3, fun ls0 hl => ?_⟩
          rcases hl with rfl | ⟨z, rfl⟩
          · conv => lhs; whnf
            refine (pif_f (by rw [coI_49]; exact clamp_le (by omega))).trans ?_
            conv => lhs; whnf
            rw [nI_at]
            refine (pif_f (nI_in (c := 50 + 3 * k) (N := 110) (by omega) (by omega))).trans ?_
            rw [nI_clamp (by omega : 50 + 3 * k < 2 ^ 31)]
            conv => lhs; whnf
            refine (pif_t (h)).trans ?_
            conv => lhs; whnf
            rw [nI_p1]
            refine (pif_f (nI_in (c := 50 + 3 * k + 1) (N := 110) (by omega) (by omega))).trans ?_
            rw [nI_clamp (by omega : 50 + 3 * k + 1 < 2 ^ 31)]
            conv => lhs; whnf
            refine (pif_f (h2)).trans ?_
            conv => lhs; whnf
            rw [nI_p1]
            refine (pif_f (nI_in (c := 50 + 3 * k + 1) (N := 110) (by omega) (by omega))).trans ?_
            rw [nI_clamp (by omega : 50 + 3 * k + 1 < 2 ^ 31)]
            conv => lhs; whnf
            refine (pif_f (h3)).trans ?_
            conv => lhs; whnf
            rw [nI_p2]
            refine (pif_f (nI_in (c := 50 + 3 * k + 2) (N := 110) (by omega) (by omega))).trans ?_
            rw [nI_clamp (by omega : 50 + 3 * k + 2 < 2 ^ 31)]
            conv => lhs; whnf
            rw [nI_1]
            exact hm _ (Or.inr ⟨nI (50 + 3 * k), rfl⟩)
          · conv => lhs; whnf
            refine (pif_f (by rw [coI_49]; exact clamp_le (by omega))).trans ?_
            conv => lhs; whnf
            rw [nI_at]
            refine (pif_f (nI_in (c := 50 + 3 * k) (N := 110) (by omega) (by omega))).trans ?_
            rw [nI_clamp (by omega : 50 + 3 * k < 2 ^ 31)]
            conv => lhs; whnf
            refine (pif_t (h)).trans ?_
            conv => lhs; whnf
            rw [nI_p1]
            refine (pif_f (nI_in (c := 50 + 3 * k + 1) (N := 110) (by omega) (by omega))).trans ?_
            rw [nI_clamp (by omega : 50 + 3 * k + 1 < 2 ^ 31)]
            conv => lhs; whnf
            refine (pif_f (h2)).trans ?_
            conv => lhs; whnf
            rw [nI_p1]
            refine (pif_f (nI_in (c := 50 + 3 * k + 1) (N := 110) (by omega) (by omega))).trans ?_
            rw [nI_clamp (by omega : 50 + 3 * k + 1 < 2 ^ 31)]
            conv => lhs; whnf
            refine (pif_f (h3)).trans ?_
            conv => lhs; whnf
            rw [nI_p2]
            refine (pif_f (nI_in (c := 50 + 3 * k + 2) (N := 110) (by omega) (by omega))).trans ?_
            rw [nI_clamp (by omega : 50 + 3 * k + 2 < 2 ^ 31)]
            conv => lhs; whnf
            rw [nI_1]
            exact hm _ (Or.inr ⟨nI (50 + 3 * k), rfl⟩)
    · have e2 : coI (k + 1) m = coI k m := if_neg h
      rw [e2] at hm
      refine ⟨fu + 2, fun ls0 hl => ?_⟩
      rcases hl with rfl | ⟨z, rfl⟩
      · conv => lhs; whnf
        refine (pif_f (by rw [coI_49]; exact clamp_le (by omega))).trans ?_
        conv => lhs; whnf
        rw [nI_at]
        refine (pif_f (nI_in (c := 50 + 3 * k) (N := 110) (by omega) (by omega))).trans ?_
        rw [nI_clamp (by omega : 50 + 3 * k < 2 ^ 31)]
        conv => lhs; whnf
        refine (pif_f (h)).trans ?_
        conv => lhs; whnf
        rw [nI_1]
        exact hm _ (Or.inr ⟨nI (50 + 3 * k), rfl⟩)
      · conv => lhs; whnf
        refine (pif_f (by rw [coI_49]; exact clamp_le (by omega))).trans ?_
        conv => lhs; whnf
        rw [nI_at]
        refine (pif_f (nI_in (c := 50 + 3 * k) (N := 110) (by omega) (by omega))).trans ?_
        rw [nI_clamp (by omega : 50 + 3 * k < 2 ^ 31)]
        conv => lhs; whnf
        refine (pif_f (h)).trans ?_
        conv => lhs; whnf
        rw [nI_1]
        exact hm _ (Or.inr ⟨nI (50 + 3 * k), rfl⟩)
def G_X9_carryOut : pG := fun args w => match args with
  | [.ref 0] => unM w (fun m => pif ((m 1 49).toNatClampNeg ≤ 20) (some (none, mdl (cryM m))) none)
  | _ => none
set_option maxHeartbeats 400000 in
set_option maxRecDepth 100000 in
theorem run_X9_carryOut (rg : pRg) (m : pLV)  (hc : (m 1 49).toNatClampNeg ≤ 20) : ∃ fu, ex k_X9_carryOut fu 0 [(0, .ref 0)] [] (mdl m) rg = some (none, mdl (cryM m), rg) := by
  obtain ⟨fu, h⟩ := lp_co rg m hc (m 1 49).toNatClampNeg 0 (by omega)
  exact ex_at ⟨fu, h _ (Or.inl rfl)⟩ (fun _ => rfl)
theorem ct_X9_carryOut (l : Launch) : ∀ args0 w0 v0 w1 rg, G_X9_carryOut args0 w0 = some (v0, w1) → pCT l yX9_carryOut (pWs yX9_carryOut cX9_carryOut 3 (none)) rm_X9_carryOut args0 w0 rg (v0, w1, rg) := by
  intro args0 w0 v0 w1 rg h
  unfold G_X9_carryOut at h
  split at h
  next  =>
    obtain ⟨m, hw, h2⟩ := unM_some h
    clear h
    subst hw
    by_cases hc : (m 1 49).toNatClampNeg ≤ 20
    · have h2 := (pif_t hc).symm.trans h2
      cases h2
      exact met_of_exM (by decide) (ok_k_X9_carryOut l) rfl (run_X9_carryOut rg m  hc) (Nat.le_of_ble_eq_true rfl) rfl rfl
    · have h2 := (pif_f hc).symm.trans h2
      cases h2
  next => cases h
def F_X9_carryOut : pF := faN G_X9_carryOut
theorem ok_F_X9_carryOut (l : Launch) : pFOK l yX9_carryOut (pWs yX9_carryOut cX9_carryOut 3 (none)) rm_X9_carryOut F_X9_carryOut := pFOK_fa (fun a b c d rg h => ct_X9_carryOut l a b c d rg h)
theorem rc_F_X9_carryOut : pRcv 9 F_X9_carryOut := pRcv_fa (fun a b c d h => by
  unfold G_X9_carryOut at h
  split at h
  next =>
    obtain ⟨m, rfl, h⟩ := unM_some h
    exact ⟨_, _, _, rfl, rfl⟩
  next => cases h)
theorem cl_X9_carryOut (m : pLV)  (rg : pRg) (hc : ((NM m) 1 49).toNatClampNeg ≤ 20) : F_X9_carryOut [.ref 0] (mdl m) rg = some (none, mdl (cryM (NM m)), rg) := by
  have h : G_X9_carryOut [.ref 0] (mdl m) = some (none, mdl (cryM (NM m))) := pif_t hc
  unfold F_X9_carryOut faN
  rw [h]
end
end
section
noncomputable section
def t0M (m : pLV) : pLV := vS (vA m 1 (upd (m 1) 9 (m 1 9 + 1))) 12 0
def t1M (m : pLV) : pLV := cryM (NM (t0M m))
def t2M (x : pLV) : pLV := fillM 0 (NM (vA x 1 (upd (x 1) 30 (x 1 30 + x 1 0)))) (x 1 0) (x 1 1)
def tA (m : pLV) : pLV := thinM (NM (mixM (NM (t2M (t1M m)))))
def tOK (m : pLV) : Prop := (m 1 49).toNatClampNeg ≤ 20 ∧ (0 ≤ tA m 1 5 ∧ tA m 1 5 ≤ 8) ∧ (0 ≤ ctlM (NM (tA m)) 1 10 ∧ ctlM (NM (tA m)) 1 10 ≤ 3)
def dcI (x : Int32) : Int32 := if x ≤ 0 then x - 0 else x - 1
def t8M (y : pLV) : pLV := vA y 1 (upd (upd (y 1) 11 (dcI (y 1 11))) 12 (dcI (y 1 12)))
def nsM (q : Nat) (x : pLV) : pLV := vA x 1 (upd (x 1) (20 + 3 * q) (if sumM q x ≤ x 1 (20 + 3 * q) then x 1 (20 + 3 * q) else sumM q x))
def ns4 (x : pLV) : pLV := nsM 3 (nsM 2 (nsM 1 (nsM 0 x)))
def tickM (m : pLV) : pLV := ns4 (t8M (mkpM (NM (ctlM (NM (tA m))))))
theorem dX9_tick_0 : decode cX9_tick 0 = .ok (.aload_n 0, 1) := by decide +kernel
theorem dX9_tick_1 : decode cX9_tick 1 = .ok (.getfield 7, 3) := by decide +kernel
theorem dX9_tick_4 : decode cX9_tick 4 = .ok (.bipush 9, 2) := by decide +kernel
theorem dX9_tick_6 : decode cX9_tick 6 = .ok (.dup2, 1) := by decide +kernel
theorem dX9_tick_7 : decode cX9_tick 7 = .ok (.iaload, 1) := by decide +kernel
theorem dX9_tick_8 : decode cX9_tick 8 = .ok (.iconst 1, 1) := by decide +kernel
theorem dX9_tick_9 : decode cX9_tick 9 = .ok (.iadd, 1) := by decide +kernel
theorem dX9_tick_10 : decode cX9_tick 10 = .ok (.iastore, 1) := by decide +kernel
theorem dX9_tick_11 : decode cX9_tick 11 = .ok (.aload_n 0, 1) := by decide +kernel
theorem dX9_tick_12 : decode cX9_tick 12 = .ok (.iconst 0, 1) := by decide +kernel
theorem dX9_tick_13 : decode cX9_tick 13 = .ok (.putfield 80, 3) := by decide +kernel
theorem dX9_tick_16 : decode cX9_tick 16 = .ok (.aload_n 0, 1) := by decide +kernel
theorem dX9_tick_17 : decode cX9_tick 17 = .ok (.invokevirtual 83, 3) := by decide +kernel
theorem dX9_tick_20 : decode cX9_tick 20 = .ok (.aload_n 0, 1) := by decide +kernel
theorem dX9_tick_21 : decode cX9_tick 21 = .ok (.getfield 7, 3) := by decide +kernel
theorem dX9_tick_24 : decode cX9_tick 24 = .ok (.bipush 30, 2) := by decide +kernel
theorem dX9_tick_26 : decode cX9_tick 26 = .ok (.dup2, 1) := by decide +kernel
theorem dX9_tick_27 : decode cX9_tick 27 = .ok (.iaload, 1) := by decide +kernel
theorem dX9_tick_28 : decode cX9_tick 28 = .ok (.aload_n 0, 1) := by decide +kernel
theorem dX9_tick_29 : decode cX9_tick 29 = .ok (.getfield 7, 3) := by decide +kernel
theorem dX9_tick_32 : decode cX9_tick 32 = .ok (.iconst 0, 1) := by decide +kernel
theorem dX9_tick_33 : decode cX9_tick 33 = .ok (.iaload, 1) := by decide +kernel
theorem dX9_tick_34 : decode cX9_tick 34 = .ok (.iadd, 1) := by decide +kernel
theorem dX9_tick_35 : decode cX9_tick 35 = .ok (.iastore, 1) := by decide +kernel
theorem dX9_tick_36 : decode cX9_tick 36 = .ok (.aload_n 0, 1) := by decide +kernel
theorem dX9_tick_37 : decode cX9_tick 37 = .ok (.iconst 0, 1) := by decide +kernel
theorem dX9_tick_38 : decode cX9_tick 38 = .ok (.aload_n 0, 1) := by decide +kernel
theorem dX9_tick_39 : decode cX9_tick 39 = .ok (.getfield 7, 3) := by decide +kernel
theorem dX9_tick_42 : decode cX9_tick 42 = .ok (.iconst 0, 1) := by decide +kernel
theorem dX9_tick_43 : decode cX9_tick 43 = .ok (.iaload, 1) := by decide +kernel
theorem dX9_tick_44 : decode cX9_tick 44 = .ok (.aload_n 0, 1) := by decide +kernel
theorem dX9_tick_45 : decode cX9_tick 45 = .ok (.getfield 7, 3) := by decide +kernel
theorem dX9_tick_48 : decode cX9_tick 48 = .ok (.iconst 1, 1) := by decide +kernel
theorem dX9_tick_49 : decode cX9_tick 49 = .ok (.iaload, 1) := by decide +kernel
theorem dX9_tick_50 : decode cX9_tick 50 = .ok (.invokevirtual 73, 3) := by decide +kernel
theorem dX9_tick_53 : decode cX9_tick 53 = .ok (.istore_n 1, 1) := by decide +kernel
theorem dX9_tick_54 : decode cX9_tick 54 = .ok (.aload_n 0, 1) := by decide +kernel
theorem dX9_tick_55 : decode cX9_tick 55 = .ok (.invokevirtual 86, 3) := by decide +kernel
theorem dX9_tick_58 : decode cX9_tick 58 = .ok (.aload_n 0, 1) := by decide +kernel
theorem dX9_tick_59 : decode cX9_tick 59 = .ok (.invokevirtual 89, 3) := by decide +kernel
theorem dX9_tick_62 : decode cX9_tick 62 = .ok (.aload_n 0, 1) := by decide +kernel
theorem dX9_tick_63 : decode cX9_tick 63 = .ok (.invokevirtual 92, 3) := by decide +kernel
theorem dX9_tick_66 : decode cX9_tick 66 = .ok (.aload_n 0, 1) := by decide +kernel
theorem dX9_tick_67 : decode cX9_tick 67 = .ok (.invokevirtual 95, 3) := by decide +kernel
theorem dX9_tick_70 : decode cX9_tick 70 = .ok (.aload_n 0, 1) := by decide +kernel
theorem dX9_tick_71 : decode cX9_tick 71 = .ok (.getfield 7, 3) := by decide +kernel
theorem dX9_tick_74 : decode cX9_tick 74 = .ok (.bipush 11, 2) := by decide +kernel
theorem dX9_tick_76 : decode cX9_tick 76 = .ok (.dup2, 1) := by decide +kernel
theorem dX9_tick_77 : decode cX9_tick 77 = .ok (.iaload, 1) := by decide +kernel
theorem dX9_tick_78 : decode cX9_tick 78 = .ok (.aload_n 0, 1) := by decide +kernel
theorem dX9_tick_79 : decode cX9_tick 79 = .ok (.getfield 7, 3) := by decide +kernel
theorem dX9_tick_82 : decode cX9_tick 82 = .ok (.bipush 11, 2) := by decide +kernel
theorem dX9_tick_84 : decode cX9_tick 84 = .ok (.iaload, 1) := by decide +kernel
theorem dX9_tick_85 : decode cX9_tick 85 = .ok (.ifCond .le 7, 3) := by decide +kernel
theorem dX9_tick_88 : decode cX9_tick 88 = .ok (.iconst 1, 1) := by decide +kernel
theorem dX9_tick_89 : decode cX9_tick 89 = .ok (.goto 4, 3) := by decide +kernel
theorem dX9_tick_92 : decode cX9_tick 92 = .ok (.iconst 0, 1) := by decide +kernel
theorem dX9_tick_93 : decode cX9_tick 93 = .ok (.isub, 1) := by decide +kernel
theorem dX9_tick_94 : decode cX9_tick 94 = .ok (.iastore, 1) := by decide +kernel
theorem dX9_tick_95 : decode cX9_tick 95 = .ok (.aload_n 0, 1) := by decide +kernel
theorem dX9_tick_96 : decode cX9_tick 96 = .ok (.getfield 7, 3) := by decide +kernel
theorem dX9_tick_99 : decode cX9_tick 99 = .ok (.bipush 12, 2) := by decide +kernel
theorem dX9_tick_101 : decode cX9_tick 101 = .ok (.dup2, 1) := by decide +kernel
theorem dX9_tick_102 : decode cX9_tick 102 = .ok (.iaload, 1) := by decide +kernel
theorem dX9_tick_103 : decode cX9_tick 103 = .ok (.aload_n 0, 1) := by decide +kernel
theorem dX9_tick_104 : decode cX9_tick 104 = .ok (.getfield 7, 3) := by decide +kernel
theorem dX9_tick_107 : decode cX9_tick 107 = .ok (.bipush 12, 2) := by decide +kernel
theorem dX9_tick_109 : decode cX9_tick 109 = .ok (.iaload, 1) := by decide +kernel
theorem dX9_tick_110 : decode cX9_tick 110 = .ok (.ifCond .le 7, 3) := by decide +kernel
theorem dX9_tick_113 : decode cX9_tick 113 = .ok (.iconst 1, 1) := by decide +kernel
theorem dX9_tick_114 : decode cX9_tick 114 = .ok (.goto 4, 3) := by decide +kernel
theorem dX9_tick_117 : decode cX9_tick 117 = .ok (.iconst 0, 1) := by decide +kernel
theorem dX9_tick_118 : decode cX9_tick 118 = .ok (.isub, 1) := by decide +kernel
theorem dX9_tick_119 : decode cX9_tick 119 = .ok (.iastore, 1) := by decide +kernel
theorem dX9_tick_120 : decode cX9_tick 120 = .ok (.iconst 0, 1) := by decide +kernel
theorem dX9_tick_121 : decode cX9_tick 121 = .ok (.istore_n 2, 1) := by decide +kernel
theorem dX9_tick_122 : decode cX9_tick 122 = .ok (.iload_n 2, 1) := by decide +kernel
theorem dX9_tick_123 : decode cX9_tick 123 = .ok (.iconst 4, 1) := by decide +kernel
theorem dX9_tick_124 : decode cX9_tick 124 = .ok (.if_icmp .ge 52, 3) := by decide +kernel
theorem dX9_tick_127 : decode cX9_tick 127 = .ok (.bipush 18, 2) := by decide +kernel
theorem dX9_tick_129 : decode cX9_tick 129 = .ok (.iconst 3, 1) := by decide +kernel
theorem dX9_tick_130 : decode cX9_tick 130 = .ok (.iload_n 2, 1) := by decide +kernel
theorem dX9_tick_131 : decode cX9_tick 131 = .ok (.imul, 1) := by decide +kernel
theorem dX9_tick_132 : decode cX9_tick 132 = .ok (.iadd, 1) := by decide +kernel
theorem dX9_tick_133 : decode cX9_tick 133 = .ok (.iconst 2, 1) := by decide +kernel
theorem dX9_tick_134 : decode cX9_tick 134 = .ok (.iadd, 1) := by decide +kernel
theorem dX9_tick_135 : decode cX9_tick 135 = .ok (.istore_n 3, 1) := by decide +kernel
theorem dX9_tick_136 : decode cX9_tick 136 = .ok (.aload_n 0, 1) := by decide +kernel
theorem dX9_tick_137 : decode cX9_tick 137 = .ok (.getfield 7, 3) := by decide +kernel
theorem dX9_tick_140 : decode cX9_tick 140 = .ok (.iload_n 3, 1) := by decide +kernel
theorem dX9_tick_141 : decode cX9_tick 141 = .ok (.aload_n 0, 1) := by decide +kernel
theorem dX9_tick_142 : decode cX9_tick 142 = .ok (.iload_n 2, 1) := by decide +kernel
theorem dX9_tick_143 : decode cX9_tick 143 = .ok (.invokevirtual 45, 3) := by decide +kernel
theorem dX9_tick_146 : decode cX9_tick 146 = .ok (.aload_n 0, 1) := by decide +kernel
theorem dX9_tick_147 : decode cX9_tick 147 = .ok (.getfield 7, 3) := by decide +kernel
theorem dX9_tick_150 : decode cX9_tick 150 = .ok (.iload_n 3, 1) := by decide +kernel
theorem dX9_tick_151 : decode cX9_tick 151 = .ok (.iaload, 1) := by decide +kernel
theorem dX9_tick_152 : decode cX9_tick 152 = .ok (.if_icmp .le 11, 3) := by decide +kernel
theorem dX9_tick_155 : decode cX9_tick 155 = .ok (.aload_n 0, 1) := by decide +kernel
theorem dX9_tick_156 : decode cX9_tick 156 = .ok (.iload_n 2, 1) := by decide +kernel
theorem dX9_tick_157 : decode cX9_tick 157 = .ok (.invokevirtual 45, 3) := by decide +kernel
theorem dX9_tick_160 : decode cX9_tick 160 = .ok (.goto 9, 3) := by decide +kernel
theorem dX9_tick_163 : decode cX9_tick 163 = .ok (.aload_n 0, 1) := by decide +kernel
theorem dX9_tick_164 : decode cX9_tick 164 = .ok (.getfield 7, 3) := by decide +kernel
theorem dX9_tick_167 : decode cX9_tick 167 = .ok (.iload_n 3, 1) := by decide +kernel
theorem dX9_tick_168 : decode cX9_tick 168 = .ok (.iaload, 1) := by decide +kernel
theorem dX9_tick_169 : decode cX9_tick 169 = .ok (.iastore, 1) := by decide +kernel
theorem dX9_tick_170 : decode cX9_tick 170 = .ok (.iinc 2 1, 3) := by decide +kernel
theorem dX9_tick_173 : decode cX9_tick 173 = .ok (.goto (-51), 3) := by decide +kernel
theorem dX9_tick_176 : decode cX9_tick 176 = .ok (.return_, 1) := by decide +kernel
def k_X9_tick : List pEn := [oAload 0, oGet 9 0, oConst (9), oDup2, oIaldN 9, oConst (1), oAdd, oIastN 9, oAload 0, oConst (0), oPutB 9 12, oAload 0, oCallZ 1 F_X9_carryOut, oAload 0, oGet 9 0, oConst (30), oDup2, oIaldN 30, oAload 0, oGet 9 0, oConst (0), oIaldN 0, oAdd, oIastN 30, oAload 0, oConst (0), oAload 0, oGet 9 0, oConst (0), oIaldN 0, oAload 0, oGet 9 0, oConst (1), oIaldN 1, oCallZ 4 F_X9_fillInto, oIstore 1, oAload 0, oCallZ 1 F_X9_mix, oAload 0, oCallZ 1 F_X9_thin, oAload 0, oCallZ 1 F_X9_control, oAload 0, oCallZ 1 F_X9_makePaper, oAload 0, oGet 9 0, oConst (11), oDup2, oIaldN 11, oAload 0, oGet 9 0, oConst (11), oIaldN 11, oIfle 56, oConst (1), oGoto 57, oConst (0), oSub, oIastN 11, oAload 0, oGet 9 0, oConst (12), oDup2, oIaldN 12, oAload 0, oGet 9 0, oConst (12), oIaldN 12, oIfle 71, oConst (1), oGoto 72, oConst (0), oSub, oIastN 12, oConst (0), oIstore 2, oIload 2, oConst (4), oCge 109, oConst (18), oConst (3), oIload 2, oMul, oAdd, oConst (2), oAdd, oIstore 3, oAload 0, oGet 9 0, oIload 3, oAload 0, oIload 2, oCallZ 2 F_X9_sum, oAload 0, oGet 9 0, oIload 3, oIaldP [20, 23, 26, 29], oCle 102, oAload 0, oIload 2, oCallZ 2 F_X9_sum, oGoto 106, oAload 0, oGet 9 0, oIload 3, oIaldP [20, 23, 26, 29], oIastP [20, 23, 26, 29], oIinc 2 (1), oGoto 76, oVret]
def pc_X9_tick (i : Nat) : Nat := ([0, 1, 4, 6, 7, 8, 9, 10, 11, 12, 13, 16, 17, 20, 21, 24, 26, 27, 28, 29, 32, 33, 34, 35, 36, 37, 38, 39, 42, 43, 44, 45, 48, 49, 50, 53, 54, 55, 58, 59, 62, 63, 66, 67, 70, 71, 74, 76, 77, 78, 79, 82, 84, 85, 88, 89, 92, 93, 94, 95, 96, 99, 101, 102, 103, 104, 107, 109, 110, 113, 114, 117, 118, 119, 120, 121, 122, 123, 124, 127, 129, 130, 131, 132, 133, 134, 135, 136, 137, 140, 141, 142, 143, 146, 147, 150, 151, 152, 155, 156, 157, 160, 163, 164, 167, 168, 169, 170, 173, 176] : List Nat).getD i 0
abbrev rm_X9_tick : Room := { frames := 4, cells := 0, slots := 0, locals := 97 }
theorem pl_X9_tick : pPlain yX9_tick 0 := by decide +kernel
set_option maxRecDepth 100000 in
set_option maxHeartbeats 4000000 in
theorem ok_k_X9_tick (l : Launch) : ∀ (i : Nat) (en : pEn), k_X9_tick[i]? = some en → EOK l cX9_tick yX9_tick.cls 4 (none) rm_X9_tick 0 pc_X9_tick i en := by
  refine allOK_at ?_
  refine And.intro (okAload_n dX9_tick_0 rfl rfl) ?_
  refine And.intro (okGet (C := RX9) (T := TX9) (N := 22) dX9_tick_1 rfl rfl (by decide) inX9 wm_3_141) ?_
  refine And.intro (okBipush dX9_tick_4 rfl (by first | rfl | decide)) ?_
  refine And.intro (okDup2 dX9_tick_6 rfl) ?_
  refine And.intro (okIaldN dX9_tick_7 rfl) ?_
  refine And.intro (okIconst dX9_tick_8 rfl (by first | rfl | decide)) ?_
  refine And.intro (okAdd dX9_tick_9 rfl) ?_
  refine And.intro (okIastN dX9_tick_10 rfl) ?_
  refine And.intro (okAload_n dX9_tick_11 rfl rfl) ?_
  refine And.intro (okIconst dX9_tick_12 rfl (by first | rfl | decide)) ?_
  refine And.intro (okPutB (C := RX9) (T := TX9) (N := 22) dX9_tick_13 rfl rfl (by decide) inX9 tyX9_ok nmX9 rfl rfl wm_3_153) ?_
  refine And.intro (okAload_n dX9_tick_16 rfl rfl) ?_
  refine And.intro (okCallV (y := yX9_carryOut) (T := TX9) (oCallZ_is _ _ _) dX9_tick_17 rfl (ok_F_X9_carryOut l) rc_F_X9_carryOut rfl wm_4_72 wm_4_74 wp_30 wm_1_10 wm_4_75 pl_X9_carryOut (by decide)) ?_
  refine And.intro (okAload_n dX9_tick_20 rfl rfl) ?_
  refine And.intro (okGet (C := RX9) (T := TX9) (N := 22) dX9_tick_21 rfl rfl (by decide) inX9 wm_3_141) ?_
  refine And.intro (okBipush dX9_tick_24 rfl (by first | rfl | decide)) ?_
  refine And.intro (okDup2 dX9_tick_26 rfl) ?_
  refine And.intro (okIaldN dX9_tick_27 rfl) ?_
  refine And.intro (okAload_n dX9_tick_28 rfl rfl) ?_
  refine And.intro (okGet (C := RX9) (T := TX9) (N := 22) dX9_tick_29 rfl rfl (by decide) inX9 wm_3_141) ?_
  refine And.intro (okIconst dX9_tick_32 rfl (by first | rfl | decide)) ?_
  refine And.intro (okIaldN dX9_tick_33 rfl) ?_
  refine And.intro (okAdd dX9_tick_34 rfl) ?_
  refine And.intro (okIastN dX9_tick_35 rfl) ?_
  refine And.intro (okAload_n dX9_tick_36 rfl rfl) ?_
  refine And.intro (okIconst dX9_tick_37 rfl (by first | rfl | decide)) ?_
  refine And.intro (okAload_n dX9_tick_38 rfl rfl) ?_
  refine And.intro (okGet (C := RX9) (T := TX9) (N := 22) dX9_tick_39 rfl rfl (by decide) inX9 wm_3_141) ?_
  refine And.intro (okIconst dX9_tick_42 rfl (by first | rfl | decide)) ?_
  refine And.intro (okIaldN dX9_tick_43 rfl) ?_
  refine And.intro (okAload_n dX9_tick_44 rfl rfl) ?_
  refine And.intro (okGet (C := RX9) (T := TX9) (N := 22) dX9_tick_45 rfl rfl (by decide) inX9 wm_3_141) ?_
  refine And.intro (okIconst dX9_tick_48 rfl (by first | rfl | decide)) ?_
  refine And.intro (okIaldN dX9_tick_49 rfl) ?_
  refine And.intro (okCallV (y := yX9_fillInto) (T := TX9) (oCallZ_is _ _ _) dX9_tick_50 rfl (ok_F_X9_fillInto l) rc_F_X9_fillInto rfl wm_4_10 wm_4_12 wp_19 wm_1_10 wm_4_13 pl_X9_fillInto (by decide)) ?_
  refine And.intro (okIstore_n dX9_tick_53 rfl rfl (by decide)) ?_
  refine And.intro (okAload_n dX9_tick_54 rfl rfl) ?_
  refine And.intro (okCallV (y := yX9_mix) (T := TX9) (oCallZ_is _ _ _) dX9_tick_55 rfl (ok_F_X9_mix l) rc_F_X9_mix rfl wm_4_76 wm_4_78 wp_31 wm_1_10 wm_4_79 pl_X9_mix (by decide)) ?_
  refine And.intro (okAload_n dX9_tick_58 rfl rfl) ?_
  refine And.intro (okCallV (y := yX9_thin) (T := TX9) (oCallZ_is _ _ _) dX9_tick_59 rfl (ok_F_X9_thin l) rc_F_X9_thin rfl wm_4_80 wm_4_82 wp_32 wm_1_10 wm_4_83 pl_X9_thin (by decide)) ?_
  refine And.intro (okAload_n dX9_tick_62 rfl rfl) ?_
  refine And.intro (okCallV (y := yX9_control) (T := TX9) (oCallZ_is _ _ _) dX9_tick_63 rfl (ok_F_X9_control l) rc_F_X9_control rfl wm_4_84 wm_4_86 wp_33 wm_1_10 wm_4_87 pl_X9_control (by decide)) ?_
  refine And.intro (okAload_n dX9_tick_66 rfl rfl) ?_
  refine And.intro (okCallV (y := yX9_makePaper) (T := TX9) (oCallZ_is _ _ _) dX9_tick_67 rfl (ok_F_X9_makePaper l) rc_F_X9_makePaper rfl wm_4_92 wm_4_94 wp_35 wm_1_10 wm_4_95 pl_X9_makePaper (by decide)) ?_
  refine And.intro (okAload_n dX9_tick_70 rfl rfl) ?_
  refine And.intro (okGet (C := RX9) (T := TX9) (N := 22) dX9_tick_71 rfl rfl (by decide) inX9 wm_3_141) ?_
  refine And.intro (okBipush dX9_tick_74 rfl (by first | rfl | decide)) ?_
  refine And.intro (okDup2 dX9_tick_76 rfl) ?_
  refine And.intro (okIaldN dX9_tick_77 rfl) ?_
  refine And.intro (okAload_n dX9_tick_78 rfl rfl) ?_
  refine And.intro (okGet (C := RX9) (T := TX9) (N := 22) dX9_tick_79 rfl rfl (by decide) inX9 wm_3_141) ?_
  refine And.intro (okBipush dX9_tick_82 rfl (by first | rfl | decide)) ?_
  refine And.intro (okIaldN dX9_tick_84 rfl) ?_
  refine And.intro (okIfle dX9_tick_85 rfl (by rfl)) ?_
  refine And.intro (okIconst dX9_tick_88 rfl (by first | rfl | decide)) ?_
  refine And.intro (okGoto dX9_tick_89 (by rfl)) ?_
  refine And.intro (okIconst dX9_tick_92 rfl (by first | rfl | decide)) ?_
  refine And.intro (okSub dX9_tick_93 rfl) ?_
  refine And.intro (okIastN dX9_tick_94 rfl) ?_
  refine And.intro (okAload_n dX9_tick_95 rfl rfl) ?_
  refine And.intro (okGet (C := RX9) (T := TX9) (N := 22) dX9_tick_96 rfl rfl (by decide) inX9 wm_3_141) ?_
  refine And.intro (okBipush dX9_tick_99 rfl (by first | rfl | decide)) ?_
  refine And.intro (okDup2 dX9_tick_101 rfl) ?_
  refine And.intro (okIaldN dX9_tick_102 rfl) ?_
  refine And.intro (okAload_n dX9_tick_103 rfl rfl) ?_
  refine And.intro (okGet (C := RX9) (T := TX9) (N := 22) dX9_tick_104 rfl rfl (by decide) inX9 wm_3_141) ?_
  refine And.intro (okBipush dX9_tick_107 rfl (by first | rfl | decide)) ?_
  refine And.intro (okIaldN dX9_tick_109 rfl) ?_
  refine And.intro (okIfle dX9_tick_110 rfl (by rfl)) ?_
  refine And.intro (okIconst dX9_tick_113 rfl (by first | rfl | decide)) ?_
  refine And.intro (okGoto dX9_tick_114 (by rfl)) ?_
  refine And.intro (okIconst dX9_tick_117 rfl (by first | rfl | decide)) ?_
  refine And.intro (okSub dX9_tick_118 rfl) ?_
  refine And.intro (okIastN dX9_tick_119 rfl) ?_
  refine And.intro (okIconst dX9_tick_120 rfl (by first | rfl | decide)) ?_
  refine And.intro (okIstore_n dX9_tick_121 rfl rfl (by decide)) ?_
  refine And.intro (okIload_n dX9_tick_122 rfl rfl) ?_
  refine And.intro (okIconst dX9_tick_123 rfl (by first | rfl | decide)) ?_
  refine And.intro (okCge dX9_tick_124 rfl (by rfl)) ?_
  refine And.intro (okBipush dX9_tick_127 rfl (by first | rfl | decide)) ?_
  refine And.intro (okIconst dX9_tick_129 rfl (by first | rfl | decide)) ?_
  refine And.intro (okIload_n dX9_tick_130 rfl rfl) ?_
  refine And.intro (okMul dX9_tick_131 rfl) ?_
  refine And.intro (okAdd dX9_tick_132 rfl) ?_
  refine And.intro (okIconst dX9_tick_133 rfl (by first | rfl | decide)) ?_
  refine And.intro (okAdd dX9_tick_134 rfl) ?_
  refine And.intro (okIstore_n dX9_tick_135 rfl rfl (by decide)) ?_
  refine And.intro (okAload_n dX9_tick_136 rfl rfl) ?_
  refine And.intro (okGet (C := RX9) (T := TX9) (N := 22) dX9_tick_137 rfl rfl (by decide) inX9 wm_3_141) ?_
  refine And.intro (okIload_n dX9_tick_140 rfl rfl) ?_
  refine And.intro (okAload_n dX9_tick_141 rfl rfl) ?_
  refine And.intro (okIload_n dX9_tick_142 rfl rfl) ?_
  refine And.intro (okCallV (y := yX9_sum) (T := TX9) (oCallZ_is _ _ _) dX9_tick_143 rfl (ok_F_X9_sum l) rc_F_X9_sum rfl wm_4_14 wm_4_16 wp_20 wm_1_10 wm_4_17 pl_X9_sum (by decide)) ?_
  refine And.intro (okAload_n dX9_tick_146 rfl rfl) ?_
  refine And.intro (okGet (C := RX9) (T := TX9) (N := 22) dX9_tick_147 rfl rfl (by decide) inX9 wm_3_141) ?_
  refine And.intro (okIload_n dX9_tick_150 rfl rfl) ?_
  refine And.intro (okIaldP dX9_tick_151 rfl) ?_
  refine And.intro (okCle dX9_tick_152 rfl (by rfl)) ?_
  refine And.intro (okAload_n dX9_tick_155 rfl rfl) ?_
  refine And.intro (okIload_n dX9_tick_156 rfl rfl) ?_
  refine And.intro (okCallV (y := yX9_sum) (T := TX9) (oCallZ_is _ _ _) dX9_tick_157 rfl (ok_F_X9_sum l) rc_F_X9_sum rfl wm_4_14 wm_4_16 wp_20 wm_1_10 wm_4_17 pl_X9_sum (by decide)) ?_
  refine And.intro (okGoto dX9_tick_160 (by rfl)) ?_
  refine And.intro (okAload_n dX9_tick_163 rfl rfl) ?_
  refine And.intro (okGet (C := RX9) (T := TX9) (N := 22) dX9_tick_164 rfl rfl (by decide) inX9 wm_3_141) ?_
  refine And.intro (okIload_n dX9_tick_167 rfl rfl) ?_
  refine And.intro (okIaldP dX9_tick_168 rfl) ?_
  refine And.intro (okIastP dX9_tick_169 rfl) ?_
  refine And.intro (okIinc dX9_tick_170 rfl (by first | rfl | decide) (by decide)) ?_
  refine And.intro (okGoto dX9_tick_173 (by rfl)) ?_
  refine And.intro (okVret dX9_tick_176 rfl) ?_
  exact trivial
theorem lp_ns4 (rg : pRg) (x : pLV) (z : Int32) : ex k_X9_tick 5 76 [(2, .int 4), (3, .int (18 + 3 * 3 + 2)), (1, .int z), (0, .ref 0)] [] (mdl x) rg = some (none, mdl x, rg) := by
  conv => lhs; whnf
  refine (pif_t (by decide)).trans ?_
  rfl
set_option maxHeartbeats 400000 in
theorem lp_ns3 (rg : pRg) (x : pLV) (z : Int32) : ex k_X9_tick 7 76 [(2, .int 3), (3, .int (18 + 3 * 2 + 2)), (1, .int z), (0, .ref 0)] [] (mdl x) rg = some (none, mdl (nsM 3 x), rg) := by
  have hn := lp_ns4 rg (nsM 3 x) z
  conv => lhs; whnf
  refine (pif_f (by decide)).trans ?_
  conv => lhs; whnf
  refine (callK_r (cl_X9_sum3 x rg) (by rfl)).trans ?_
  conv => lhs; whnf
  refine pif_c (fun h => ?_) (fun h => ?_)
  · have e : nsM 3 x = vA x 1 (upd (x 1) (20 + 3 * 3) (x 1 (20 + 3 * 3))) := congrArg (fun y => vA x 1 (upd (x 1) (20 + 3 * 3) y)) (if_pos h)
    rw [e] at hn ⊢
    exact hn
  · conv => lhs; whnf
    refine (callK_r (cl_X9_sum3 x rg) (by rfl)).trans ?_
    have e : nsM 3 x = vA x 1 (upd (x 1) (20 + 3 * 3) (sumM 3 x)) := congrArg (fun y => vA x 1 (upd (x 1) (20 + 3 * 3) y)) (if_neg h)
    rw [e] at hn ⊢
    exact hn
set_option maxHeartbeats 400000 in
theorem lp_ns2 (rg : pRg) (x : pLV) (z : Int32) : ex k_X9_tick 9 76 [(2, .int 2), (3, .int (18 + 3 * 1 + 2)), (1, .int z), (0, .ref 0)] [] (mdl x) rg = some (none, mdl (nsM 3 (nsM 2 x)), rg) := by
  have hn := lp_ns3 rg (nsM 2 x) z
  conv => lhs; whnf
  refine (pif_f (by decide)).trans ?_
  conv => lhs; whnf
  refine (callK_r (cl_X9_sum2 x rg) (by rfl)).trans ?_
  conv => lhs; whnf
  refine pif_c (fun h => ?_) (fun h => ?_)
  · have e : nsM 2 x = vA x 1 (upd (x 1) (20 + 3 * 2) (x 1 (20 + 3 * 2))) := congrArg (fun y => vA x 1 (upd (x 1) (20 + 3 * 2) y)) (if_pos h)
    rw [e] at hn ⊢
    exact hn
  · conv => lhs; whnf
    refine (callK_r (cl_X9_sum2 x rg) (by rfl)).trans ?_
    have e : nsM 2 x = vA x 1 (upd (x 1) (20 + 3 * 2) (sumM 2 x)) := congrArg (fun y => vA x 1 (upd (x 1) (20 + 3 * 2) y)) (if_neg h)
    rw [e] at hn ⊢
    exact hn
set_option maxHeartbeats 400000 in
theorem lp_ns1 (rg : pRg) (x : pLV) (z : Int32) : ex k_X9_tick 11 76 [(2, .int 1), (3, .int (18 + 3 * 0 + 2)), (1, .int z), (0, .ref 0)] [] (mdl x) rg = some (none, mdl (nsM 3 (nsM 2 (nsM 1 x))), rg) := by
  have hn := lp_ns2 rg (nsM 1 x) z
  conv => lhs; whnf
  refine (pif_f (by decide)).trans ?_
  conv => lhs; whnf
  refine (callK_r (cl_X9_sum1 x rg) (by rfl)).trans ?_
  conv => lhs; whnf
  refine pif_c (fun h => ?_) (fun h => ?_)
  · have e : nsM 1 x = vA x 1 (upd (x 1) (20 + 3 * 1) (x 1 (20 + 3 * 1))) := congrArg (fun y => vA x 1 (upd (x 1) (20 + 3 * 1) y)) (if_pos h)
    rw [e] at hn ⊢
    exact hn
  · conv => lhs; whnf
    refine (callK_r (cl_X9_sum1 x rg) (by rfl)).trans ?_
    have e : nsM 1 x = vA x 1 (upd (x 1) (20 + 3 * 1) (sumM 1 x)) := congrArg (fun y => vA x 1 (upd (x 1) (20 + 3 * 1) y)) (if_neg h)
    rw [e] at hn ⊢
    exact hn
set_option maxHeartbeats 400000 in
theorem lp_ns0 (rg : pRg) (x : pLV) (z : Int32) : ex k_X9_tick 13 76 [(2, .int 0), (1, .int z), (0, .ref 0)] [] (mdl x) rg = some (none, mdl (nsM 3 (nsM 2 (nsM 1 (nsM 0 x)))), rg) := by
  have hn := lp_ns1 rg (nsM 0 x) z
  conv => lhs; whnf
  refine (pif_f (by decide)).trans ?_
  conv => lhs; whnf
  refine (callK_r (cl_X9_sum0 x rg) (by rfl)).trans ?_
  conv => lhs; whnf
  refine pif_c (fun h => ?_) (fun h => ?_)
  · have e : nsM 0 x = vA x 1 (upd (x 1) (20 + 3 * 0) (x 1 (20 + 3 * 0))) := congrArg (fun y => vA x 1 (upd (x 1) (20 + 3 * 0) y)) (if_pos h)
    rw [e] at hn ⊢
    exact hn
  · conv => lhs; whnf
    refine (callK_r (cl_X9_sum0 x rg) (by rfl)).trans ?_
    have e : nsM 0 x = vA x 1 (upd (x 1) (20 + 3 * 0) (sumM 0 x)) := congrArg (fun y => vA x 1 (upd (x 1) (20 + 3 * 0) y)) (if_neg h)
    rw [e] at hn ⊢
    exact hn
set_option maxHeartbeats 1000000 in
theorem lp_tail (rg : pRg) (y : pLV) (z : Int32) : ex k_X9_tick 15 44 [(1, .int z), (0, .ref 0)] [] (mdl y) rg = some (none, mdl (ns4 (t8M y)), rg) := by
  conv => lhs; whnf
  refine pif_c (fun g1 => ?_) (fun g1 => ?_)
  · conv => lhs; whnf
    refine pif_c (fun g2 => ?_) (fun g2 => ?_)
    · have e : t8M y = vA y 1 (upd (upd (y 1) 11 (y 1 11 - 0)) 12 (y 1 12 - 0)) := by
        unfold t8M; rw [show dcI (y 1 11) = _ from if_pos g1, show dcI (y 1 12) = _ from if_pos g2]
      rw [e]
      have hn := lp_ns0 rg (vA y 1 (upd (upd (y 1) 11 (y 1 11 - 0)) 12 (y 1 12 - 0))) z
      conv at hn => lhs; whnf
      conv => lhs; whnf
      exact hn
    · have e : t8M y = vA y 1 (upd (upd (y 1) 11 (y 1 11 - 0)) 12 (y 1 12 - 1)) := by
        unfold t8M; rw [show dcI (y 1 11) = _ from if_pos g1, show dcI (y 1 12) = _ from if_neg g2]
      rw [e]
      have hn := lp_ns0 rg (vA y 1 (upd (upd (y 1) 11 (y 1 11 - 0)) 12 (y 1 12 - 1))) z
      conv at hn => lhs; whnf
      conv => lhs; whnf
      exact hn
  · conv => lhs; whnf
    refine pif_c (fun g2 => ?_) (fun g2 => ?_)
    · have e : t8M y = vA y 1 (upd (upd (y 1) 11 (y 1 11 - 1)) 12 (y 1 12 - 0)) := by
        unfold t8M; rw [show dcI (y 1 11) = _ from if_neg g1, show dcI (y 1 12) = _ from if_pos g2]
      rw [e]
      have hn := lp_ns0 rg (vA y 1 (upd (upd (y 1) 11 (y 1 11 - 1)) 12 (y 1 12 - 0))) z
      conv at hn => lhs; whnf
      conv => lhs; whnf
      exact hn
    · have e : t8M y = vA y 1 (upd (upd (y 1) 11 (y 1 11 - 1)) 12 (y 1 12 - 1)) := by
        unfold t8M; rw [show dcI (y 1 11) = _ from if_neg g1, show dcI (y 1 12) = _ from if_neg g2]
      rw [e]
      have hn := lp_ns0 rg (vA y 1 (upd (upd (y 1) 11 (y 1 11 - 1)) 12 (y 1 12 - 1))) z
      conv at hn => lhs; whnf
      conv => lhs; whnf
      exact hn
def G_X9_tick : pG := fun args w => match args with
  | [.ref 0] => unM w (fun m => pif (tOK m) (some (none, mdl (tickM m))) none)
  | _ => none
set_option maxHeartbeats 400000 in
set_option maxRecDepth 100000 in
theorem run_X9_tick (rg : pRg) (m : pLV)  (hc : tOK m) : ∃ fu, ex k_X9_tick fu 0 [(0, .ref 0)] [] (mdl m) rg = some (none, mdl (tickM m), rg) := by
  refine ⟨15, ?_⟩
  obtain ⟨h1, h2, h3⟩ := hc
  unfold tickM
  unfold tA at h2 h3 ⊢
  unfold t1M at h2 h3 ⊢
  conv => lhs; whnf
  refine (pif_t (by decide)).trans ?_
  conv => lhs; whnf
  refine (callK_v (cl_X9_carryOut (t0M m) rg h1) (by rfl)).trans ?_
  revert h2 h3
  generalize cryM (NM (t0M m)) = x1
  revert x1; refine id ?_; intro x1 h2 h3
  conv => lhs; whnf
  refine (callK_r (cl_X9_fillInto0 (vA x1 1 (upd (x1 1) 30 (x1 1 30 + x1 1 0))) (x1 1 0) (x1 1 1) rg) (by rfl)).trans ?_
  unfold t2M at h2 h3 ⊢
  revert h2 h3
  generalize fillM 0 (NM (vA x1 1 (upd (x1 1) 30 (x1 1 30 + x1 1 0)))) (x1 1 0) (x1 1 1) = x2
  revert x2; refine id ?_; intro x2 h2 h3
  generalize fillR 0 (NM (vA x1 1 (upd (x1 1) 30 (x1 1 30 + x1 1 0)))) (x1 1 0) (x1 1 1) = z
  revert z; refine id ?_; intro z
  conv => lhs; whnf
  refine (callK_v (cl_X9_mix x2 rg) (by rfl)).trans ?_
  revert h2 h3
  generalize mixM (NM x2) = x3
  revert x3; refine id ?_; intro x3 h2 h3
  conv => lhs; whnf
  refine (callK_v (cl_X9_thin x3 rg) (by rfl)).trans ?_
  revert h2 h3
  generalize thinM (NM x3) = x4
  revert x4; refine id ?_; intro x4 h2 h3
  conv => lhs; whnf
  refine (callK_v (cl_X9_control x4 rg h2) (by rfl)).trans ?_
  clear h2
  revert h3
  generalize ctlM (NM x4) = x5
  revert x5; refine id ?_; intro x5 h3
  conv => lhs; whnf
  refine (callK_v (cl_X9_makePaper x5 rg h3) (by rfl)).trans ?_
  clear h3
  generalize mkpM (NM x5) = y
  revert y; refine id ?_; intro y
  exact lp_tail rg y z
theorem ct_X9_tick (l : Launch) : ∀ args0 w0 v0 w1 rg, G_X9_tick args0 w0 = some (v0, w1) → pCT l yX9_tick (pWs yX9_tick cX9_tick 4 (none)) rm_X9_tick args0 w0 rg (v0, w1, rg) := by
  intro args0 w0 v0 w1 rg h
  unfold G_X9_tick at h
  split at h
  next  =>
    obtain ⟨m, hw, h2⟩ := unM_some h
    clear h
    subst hw
    by_cases hc : tOK m
    · have h2 := (pif_t hc).symm.trans h2
      cases h2
      exact met_of_exM (by decide) (ok_k_X9_tick l) rfl (run_X9_tick rg m  hc) (Nat.le_of_ble_eq_true rfl) rfl rfl
    · have h2 := (pif_f hc).symm.trans h2
      cases h2
  next => cases h
def F_X9_tick : pF := faN G_X9_tick
theorem ok_F_X9_tick (l : Launch) : pFOK l yX9_tick (pWs yX9_tick cX9_tick 4 (none)) rm_X9_tick F_X9_tick := pFOK_fa (fun a b c d rg h => ct_X9_tick l a b c d rg h)
theorem rc_F_X9_tick : pRcv 9 F_X9_tick := pRcv_fa (fun a b c d h => by
  unfold G_X9_tick at h
  split at h
  next =>
    obtain ⟨m, rfl, h⟩ := unM_some h
    exact ⟨_, _, _, rfl, rfl⟩
  next => cases h)
theorem cl_X9_tick (m : pLV)  (rg : pRg) (hc : tOK (NM m)) : F_X9_tick [.ref 0] (mdl m) rg = some (none, mdl (tickM (NM m)), rg) := by
  have h : G_X9_tick [.ref 0] (mdl m) = some (none, mdl (tickM (NM m))) := pif_t hc
  unfold F_X9_tick faN
  rw [h]
end
end
section
noncomputable section
def zB (k : Nat) (f : Nat → Int32) : Nat → Int32 := fun j => if 9 ≤ j ∧ j < k then 0 else f j
theorem zB_9 (f : Nat → Int32) : zB 9 f = f := by
  funext j
  unfold zB
  rw [if_neg (by omega)]
theorem zB_s {k : Nat} (h : 9 ≤ k) (f : Nat → Int32) : upd (zB k f) k 0 = zB (k + 1) f := by
  funext j
  by_cases hj : j = k
  · subst hj
    unfold upd zB
    rw [if_pos rfl, if_pos (by omega)]
  · have : (9 ≤ j ∧ j < k) = (9 ≤ j ∧ j < k + 1) := by rw [eq_iff_iff]; omega
    unfold upd zB
    rw [if_neg hj]
    simp only [this]
def layW (f : Nat → Int32) : Nat → Int32 := upd (upd (upd (upd (zB 49 f) 15 (-9)) 16 (-9)) 18 400) 19 9600
def layM (m : pLV) : pLV := vA m 1 (layW (m 1))
theorem dX9_lay_0 : decode cX9_lay 0 = .ok (.bipush 9, 2) := by decide +kernel
theorem dX9_lay_2 : decode cX9_lay 2 = .ok (.istore_n 1, 1) := by decide +kernel
theorem dX9_lay_3 : decode cX9_lay 3 = .ok (.iload_n 1, 1) := by decide +kernel
theorem dX9_lay_4 : decode cX9_lay 4 = .ok (.bipush 49, 2) := by decide +kernel
theorem dX9_lay_6 : decode cX9_lay 6 = .ok (.if_icmp .ge 16, 3) := by decide +kernel
theorem dX9_lay_9 : decode cX9_lay 9 = .ok (.aload_n 0, 1) := by decide +kernel
theorem dX9_lay_10 : decode cX9_lay 10 = .ok (.getfield 7, 3) := by decide +kernel
theorem dX9_lay_13 : decode cX9_lay 13 = .ok (.iload_n 1, 1) := by decide +kernel
theorem dX9_lay_14 : decode cX9_lay 14 = .ok (.iconst 0, 1) := by decide +kernel
theorem dX9_lay_15 : decode cX9_lay 15 = .ok (.iastore, 1) := by decide +kernel
theorem dX9_lay_16 : decode cX9_lay 16 = .ok (.iinc 1 1, 3) := by decide +kernel
theorem dX9_lay_19 : decode cX9_lay 19 = .ok (.goto (-16), 3) := by decide +kernel
theorem dX9_lay_22 : decode cX9_lay 22 = .ok (.aload_n 0, 1) := by decide +kernel
theorem dX9_lay_23 : decode cX9_lay 23 = .ok (.getfield 7, 3) := by decide +kernel
theorem dX9_lay_26 : decode cX9_lay 26 = .ok (.bipush 15, 2) := by decide +kernel
theorem dX9_lay_28 : decode cX9_lay 28 = .ok (.bipush (-9), 2) := by decide +kernel
theorem dX9_lay_30 : decode cX9_lay 30 = .ok (.iastore, 1) := by decide +kernel
theorem dX9_lay_31 : decode cX9_lay 31 = .ok (.aload_n 0, 1) := by decide +kernel
theorem dX9_lay_32 : decode cX9_lay 32 = .ok (.getfield 7, 3) := by decide +kernel
theorem dX9_lay_35 : decode cX9_lay 35 = .ok (.bipush 16, 2) := by decide +kernel
theorem dX9_lay_37 : decode cX9_lay 37 = .ok (.bipush (-9), 2) := by decide +kernel
theorem dX9_lay_39 : decode cX9_lay 39 = .ok (.iastore, 1) := by decide +kernel
theorem dX9_lay_40 : decode cX9_lay 40 = .ok (.aload_n 0, 1) := by decide +kernel
theorem dX9_lay_41 : decode cX9_lay 41 = .ok (.getfield 7, 3) := by decide +kernel
theorem dX9_lay_44 : decode cX9_lay 44 = .ok (.bipush 18, 2) := by decide +kernel
theorem dX9_lay_46 : decode cX9_lay 46 = .ok (.sipush 400, 3) := by decide +kernel
theorem dX9_lay_49 : decode cX9_lay 49 = .ok (.iastore, 1) := by decide +kernel
theorem dX9_lay_50 : decode cX9_lay 50 = .ok (.aload_n 0, 1) := by decide +kernel
theorem dX9_lay_51 : decode cX9_lay 51 = .ok (.getfield 7, 3) := by decide +kernel
theorem dX9_lay_54 : decode cX9_lay 54 = .ok (.bipush 19, 2) := by decide +kernel
theorem dX9_lay_56 : decode cX9_lay 56 = .ok (.sipush 9600, 3) := by decide +kernel
theorem dX9_lay_59 : decode cX9_lay 59 = .ok (.iastore, 1) := by decide +kernel
theorem dX9_lay_60 : decode cX9_lay 60 = .ok (.return_, 1) := by decide +kernel
def k_X9_lay : List pEn := [oConst (9), oIstore 1, oIload 1, oConst (49), oCge 12, oAload 0, oGet 9 0, oIload 1, oConst (0), oIast, oIinc 1 (1), oGoto 2, oAload 0, oGet 9 0, oConst (15), oConst (-9), oIastN 15, oAload 0, oGet 9 0, oConst (16), oConst (-9), oIastN 16, oAload 0, oGet 9 0, oConst (18), oConst (400), oIastN 18, oAload 0, oGet 9 0, oConst (19), oConst (9600), oIastN 19, oVret]
def pc_X9_lay (i : Nat) : Nat := ([0, 2, 3, 4, 6, 9, 10, 13, 14, 15, 16, 19, 22, 23, 26, 28, 30, 31, 32, 35, 37, 39, 40, 41, 44, 46, 49, 50, 51, 54, 56, 59, 60] : List Nat).getD i 0
abbrev rm_X9_lay : Room := { frames := 0, cells := 0, slots := 0, locals := 0 }
theorem pl_X9_lay : pPlain yX9_lay 0 := by decide +kernel
set_option maxRecDepth 100000 in
set_option maxHeartbeats 4000000 in
theorem ok_k_X9_lay (l : Launch) : ∀ (i : Nat) (en : pEn), k_X9_lay[i]? = some en → EOK l cX9_lay yX9_lay.cls 2 (none) rm_X9_lay 0 pc_X9_lay i en := by
  refine allOK_at ?_
  refine And.intro (okBipush dX9_lay_0 rfl (by first | rfl | decide)) ?_
  refine And.intro (okIstore_n dX9_lay_2 rfl rfl (by decide)) ?_
  refine And.intro (okIload_n dX9_lay_3 rfl rfl) ?_
  refine And.intro (okBipush dX9_lay_4 rfl (by first | rfl | decide)) ?_
  refine And.intro (okCge dX9_lay_6 rfl (by rfl)) ?_
  refine And.intro (okAload_n dX9_lay_9 rfl rfl) ?_
  refine And.intro (okGet (C := RX9) (T := TX9) (N := 22) dX9_lay_10 rfl rfl (by decide) inX9 wm_3_141) ?_
  refine And.intro (okIload_n dX9_lay_13 rfl rfl) ?_
  refine And.intro (okIconst dX9_lay_14 rfl (by first | rfl | decide)) ?_
  refine And.intro (okIast dX9_lay_15 rfl) ?_
  refine And.intro (okIinc dX9_lay_16 rfl (by first | rfl | decide) (by decide)) ?_
  refine And.intro (okGoto dX9_lay_19 (by rfl)) ?_
  refine And.intro (okAload_n dX9_lay_22 rfl rfl) ?_
  refine And.intro (okGet (C := RX9) (T := TX9) (N := 22) dX9_lay_23 rfl rfl (by decide) inX9 wm_3_141) ?_
  refine And.intro (okBipush dX9_lay_26 rfl (by first | rfl | decide)) ?_
  refine And.intro (okBipush dX9_lay_28 rfl (by first | rfl | decide)) ?_
  refine And.intro (okIastN dX9_lay_30 rfl) ?_
  refine And.intro (okAload_n dX9_lay_31 rfl rfl) ?_
  refine And.intro (okGet (C := RX9) (T := TX9) (N := 22) dX9_lay_32 rfl rfl (by decide) inX9 wm_3_141) ?_
  refine And.intro (okBipush dX9_lay_35 rfl (by first | rfl | decide)) ?_
  refine And.intro (okBipush dX9_lay_37 rfl (by first | rfl | decide)) ?_
  refine And.intro (okIastN dX9_lay_39 rfl) ?_
  refine And.intro (okAload_n dX9_lay_40 rfl rfl) ?_
  refine And.intro (okGet (C := RX9) (T := TX9) (N := 22) dX9_lay_41 rfl rfl (by decide) inX9 wm_3_141) ?_
  refine And.intro (okBipush dX9_lay_44 rfl (by first | rfl | decide)) ?_
  refine And.intro (okSipush dX9_lay_46 rfl (by first | rfl | decide)) ?_
  refine And.intro (okIastN dX9_lay_49 rfl) ?_
  refine And.intro (okAload_n dX9_lay_50 rfl rfl) ?_
  refine And.intro (okGet (C := RX9) (T := TX9) (N := 22) dX9_lay_51 rfl rfl (by decide) inX9 wm_3_141) ?_
  refine And.intro (okBipush dX9_lay_54 rfl (by first | rfl | decide)) ?_
  refine And.intro (okSipush dX9_lay_56 rfl (by first | rfl | decide)) ?_
  refine And.intro (okIastN dX9_lay_59 rfl) ?_
  refine And.intro (okVret dX9_lay_60 rfl) ?_
  exact trivial
set_option maxHeartbeats 400000 in
theorem lp_lay (rg : pRg) (m : pLV) : ∀ (d k : Nat), 9 ≤ k → k + d = 49 → ∃ fu, ex k_X9_lay fu 2 [(1, .int (nI k)), (0, .ref 0)] [] (mdl (vA m 1 (zB k (m 1)))) rg = some (none, mdl (layM m), rg) := by
  intro d
  induction d with
  | zero =>
    intro k hk0 hk
    obtain rfl : k = 49 := by omega
    refine ⟨5, ?_⟩
    conv => lhs; whnf
    refine (pif_t (by decide)).trans ?_
    rfl
  | succ d ih =>
    intro k hk0 hk
    obtain ⟨m0, hm⟩ := ih (k + 1) (by omega) (by omega)
    refine ⟨m0 + 1, ?_⟩
    conv => lhs; whnf
    refine (pif_f (nI_ge (a := k) (b := 49) (by omega) (by omega))).trans ?_
    conv => lhs; whnf
    refine (pif_f (nI_in (c := k) (N := 110) (by omega) (by omega))).trans ?_
    conv => lhs; whnf
    rw [nI_clamp (by omega : k < 2 ^ 31), nI_1]
    rw [← zB_s hk0] at hm
    exact hm
def G_X9_lay : pG := fun args w => match args with
  | [.ref 0] => unM w (fun m => some (none, mdl (layM m)))
  | _ => none
set_option maxHeartbeats 400000 in
set_option maxRecDepth 100000 in
theorem run_X9_lay (rg : pRg) (m : pLV)   : ∃ fu, ex k_X9_lay fu 0 [(0, .ref 0)] [] (mdl m) rg = some (none, mdl (layM m), rg) := by
  have h := lp_lay rg m 40 9 (by omega) (by omega)
  rw [zB_9] at h
  exact ex_at h (fun _ => rfl)
theorem ct_X9_lay (l : Launch) : ∀ args0 w0 v0 w1 rg, G_X9_lay args0 w0 = some (v0, w1) → pCT l yX9_lay (pWs yX9_lay cX9_lay 2 (none)) rm_X9_lay args0 w0 rg (v0, w1, rg) := by
  intro args0 w0 v0 w1 rg h
  unfold G_X9_lay at h
  split at h
  next  =>
    obtain ⟨m, hw, h2⟩ := unM_some h
    clear h
    subst hw
    cases h2
    exact met_of_exM (by decide) (ok_k_X9_lay l) rfl (run_X9_lay rg m  ) (Nat.le_of_ble_eq_true rfl) rfl rfl
  next => cases h
def F_X9_lay : pF := faN G_X9_lay
theorem ok_F_X9_lay (l : Launch) : pFOK l yX9_lay (pWs yX9_lay cX9_lay 2 (none)) rm_X9_lay F_X9_lay := pFOK_fa (fun a b c d rg h => ct_X9_lay l a b c d rg h)
theorem rc_F_X9_lay : pRcv 9 F_X9_lay := pRcv_fa (fun a b c d h => by
  unfold G_X9_lay at h
  split at h
  next =>
    obtain ⟨m, rfl, h⟩ := unM_some h
    exact ⟨_, _, _, rfl, rfl⟩
  next => cases h)
theorem cl_X9_lay (m : pLV)  (rg : pRg) : F_X9_lay [.ref 0] (mdl m) rg = some (none, mdl (layM (NM m)), rg) := rfl
end
end
section
noncomputable section
def holdM (m : pLV) : pLV := vA m 6 (cpN 110 (m 1) (m 6))
def restM (m : pLV) : pLV := vA m 1 (cpN 110 (m 6) (m 1))
theorem dX9_hold_0 : decode cX9_hold 0 = .ok (.iconst 0, 1) := by decide +kernel
theorem dX9_hold_1 : decode cX9_hold 1 = .ok (.istore_n 1, 1) := by decide +kernel
theorem dX9_hold_2 : decode cX9_hold 2 = .ok (.iload_n 1, 1) := by decide +kernel
theorem dX9_hold_3 : decode cX9_hold 3 = .ok (.bipush 110, 2) := by decide +kernel
theorem dX9_hold_5 : decode cX9_hold 5 = .ok (.if_icmp .ge 21, 3) := by decide +kernel
theorem dX9_hold_8 : decode cX9_hold 8 = .ok (.aload_n 0, 1) := by decide +kernel
theorem dX9_hold_9 : decode cX9_hold 9 = .ok (.getfield 32, 3) := by decide +kernel
theorem dX9_hold_12 : decode cX9_hold 12 = .ok (.iload_n 1, 1) := by decide +kernel
theorem dX9_hold_13 : decode cX9_hold 13 = .ok (.aload_n 0, 1) := by decide +kernel
theorem dX9_hold_14 : decode cX9_hold 14 = .ok (.getfield 7, 3) := by decide +kernel
theorem dX9_hold_17 : decode cX9_hold 17 = .ok (.iload_n 1, 1) := by decide +kernel
theorem dX9_hold_18 : decode cX9_hold 18 = .ok (.iaload, 1) := by decide +kernel
theorem dX9_hold_19 : decode cX9_hold 19 = .ok (.iastore, 1) := by decide +kernel
theorem dX9_hold_20 : decode cX9_hold 20 = .ok (.iinc 1 1, 3) := by decide +kernel
theorem dX9_hold_23 : decode cX9_hold 23 = .ok (.goto (-21), 3) := by decide +kernel
theorem dX9_hold_26 : decode cX9_hold 26 = .ok (.return_, 1) := by decide +kernel
def k_X9_hold : List pEn := [oConst (0), oIstore 1, oIload 1, oConst (110), oCge 15, oAload 0, oGet 9 21, oIload 1, oAload 0, oGet 9 0, oIload 1, oIald, oIast, oIinc 1 (1), oGoto 2, oVret]
def pc_X9_hold (i : Nat) : Nat := ([0, 1, 2, 3, 5, 8, 9, 12, 13, 14, 17, 18, 19, 20, 23, 26] : List Nat).getD i 0
abbrev rm_X9_hold : Room := { frames := 0, cells := 0, slots := 0, locals := 0 }
theorem pl_X9_hold : pPlain yX9_hold 0 := by decide +kernel
set_option maxRecDepth 100000 in
set_option maxHeartbeats 4000000 in
theorem ok_k_X9_hold (l : Launch) : ∀ (i : Nat) (en : pEn), k_X9_hold[i]? = some en → EOK l cX9_hold yX9_hold.cls 2 (none) rm_X9_hold 0 pc_X9_hold i en := by
  refine allOK_at ?_
  refine And.intro (okIconst dX9_hold_0 rfl (by first | rfl | decide)) ?_
  refine And.intro (okIstore_n dX9_hold_1 rfl rfl (by decide)) ?_
  refine And.intro (okIload_n dX9_hold_2 rfl rfl) ?_
  refine And.intro (okBipush dX9_hold_3 rfl (by first | rfl | decide)) ?_
  refine And.intro (okCge dX9_hold_5 rfl (by rfl)) ?_
  refine And.intro (okAload_n dX9_hold_8 rfl rfl) ?_
  refine And.intro (okGet (C := RX9) (T := TX9) (N := 22) dX9_hold_9 rfl rfl (by decide) inX9 wm_3_162) ?_
  refine And.intro (okIload_n dX9_hold_12 rfl rfl) ?_
  refine And.intro (okAload_n dX9_hold_13 rfl rfl) ?_
  refine And.intro (okGet (C := RX9) (T := TX9) (N := 22) dX9_hold_14 rfl rfl (by decide) inX9 wm_3_141) ?_
  refine And.intro (okIload_n dX9_hold_17 rfl rfl) ?_
  refine And.intro (okIald dX9_hold_18 rfl) ?_
  refine And.intro (okIast dX9_hold_19 rfl) ?_
  refine And.intro (okIinc dX9_hold_20 rfl (by first | rfl | decide) (by decide)) ?_
  refine And.intro (okGoto dX9_hold_23 (by rfl)) ?_
  refine And.intro (okVret dX9_hold_26 rfl) ?_
  exact trivial
set_option maxHeartbeats 400000 in
theorem lp_hold (rg : pRg) (m : pLV) : ∀ (d k : Nat), 0 ≤ k → k + d = 110 → ∃ fu, ex k_X9_hold fu 2 [(1, .int (nI k)), (0, .ref 0)] [] (mdl (vA m 6 (cpN k (m 1) (m 6)))) rg = some (none, mdl (holdM m), rg) := by
  intro d
  induction d with
  | zero =>
    intro k hk0 hk
    obtain rfl : k = 110 := by omega
    refine ⟨5, ?_⟩
    conv => lhs; whnf
    refine (pif_t (by decide)).trans ?_
    rfl
  | succ d ih =>
    intro k hk0 hk
    obtain ⟨m0, hm⟩ := ih (k + 1) (by omega) (by omega)
    refine ⟨m0 + 1, ?_⟩
    conv => lhs; whnf
    refine (pif_f (nI_ge (a := k) (b := 110) (by omega) (by omega))).trans ?_
    conv => lhs; whnf
    refine (pif_f (nI_in (c := k) (N := 110) (by omega) (by omega))).trans ?_
    conv => lhs; whnf
    refine (pif_f (nI_in (c := k) (N := 110) (by omega) (by omega))).trans ?_
    conv => lhs; whnf
    rw [nI_clamp (by omega : k < 2 ^ 31), nI_1]
    rw [← cpN_s] at hm
    exact hm
def G_X9_hold : pG := fun args w => match args with
  | [.ref 0] => unM w (fun m => some (none, mdl (holdM m)))
  | _ => none
set_option maxHeartbeats 400000 in
set_option maxRecDepth 100000 in
theorem run_X9_hold (rg : pRg) (m : pLV)   : ∃ fu, ex k_X9_hold fu 0 [(0, .ref 0)] [] (mdl m) rg = some (none, mdl (holdM m), rg) := by
  have h := lp_hold rg m 110 0 (by omega) (by omega)
  rw [cpN_0] at h
  exact ex_at h (fun _ => rfl)
theorem ct_X9_hold (l : Launch) : ∀ args0 w0 v0 w1 rg, G_X9_hold args0 w0 = some (v0, w1) → pCT l yX9_hold (pWs yX9_hold cX9_hold 2 (none)) rm_X9_hold args0 w0 rg (v0, w1, rg) := by
  intro args0 w0 v0 w1 rg h
  unfold G_X9_hold at h
  split at h
  next  =>
    obtain ⟨m, hw, h2⟩ := unM_some h
    clear h
    subst hw
    cases h2
    exact met_of_exM (by decide) (ok_k_X9_hold l) rfl (run_X9_hold rg m  ) (Nat.le_of_ble_eq_true rfl) rfl rfl
  next => cases h
def F_X9_hold : pF := faN G_X9_hold
theorem ok_F_X9_hold (l : Launch) : pFOK l yX9_hold (pWs yX9_hold cX9_hold 2 (none)) rm_X9_hold F_X9_hold := pFOK_fa (fun a b c d rg h => ct_X9_hold l a b c d rg h)
theorem rc_F_X9_hold : pRcv 9 F_X9_hold := pRcv_fa (fun a b c d h => by
  unfold G_X9_hold at h
  split at h
  next =>
    obtain ⟨m, rfl, h⟩ := unM_some h
    exact ⟨_, _, _, rfl, rfl⟩
  next => cases h)
theorem cl_X9_hold (m : pLV)  (rg : pRg) : F_X9_hold [.ref 0] (mdl m) rg = some (none, mdl (holdM (NM m)), rg) := rfl
end
end
section
noncomputable section
theorem dX9_restore_0 : decode cX9_restore 0 = .ok (.iconst 0, 1) := by decide +kernel
theorem dX9_restore_1 : decode cX9_restore 1 = .ok (.istore_n 1, 1) := by decide +kernel
theorem dX9_restore_2 : decode cX9_restore 2 = .ok (.iload_n 1, 1) := by decide +kernel
theorem dX9_restore_3 : decode cX9_restore 3 = .ok (.bipush 110, 2) := by decide +kernel
theorem dX9_restore_5 : decode cX9_restore 5 = .ok (.if_icmp .ge 21, 3) := by decide +kernel
theorem dX9_restore_8 : decode cX9_restore 8 = .ok (.aload_n 0, 1) := by decide +kernel
theorem dX9_restore_9 : decode cX9_restore 9 = .ok (.getfield 7, 3) := by decide +kernel
theorem dX9_restore_12 : decode cX9_restore 12 = .ok (.iload_n 1, 1) := by decide +kernel
theorem dX9_restore_13 : decode cX9_restore 13 = .ok (.aload_n 0, 1) := by decide +kernel
theorem dX9_restore_14 : decode cX9_restore 14 = .ok (.getfield 32, 3) := by decide +kernel
theorem dX9_restore_17 : decode cX9_restore 17 = .ok (.iload_n 1, 1) := by decide +kernel
theorem dX9_restore_18 : decode cX9_restore 18 = .ok (.iaload, 1) := by decide +kernel
theorem dX9_restore_19 : decode cX9_restore 19 = .ok (.iastore, 1) := by decide +kernel
theorem dX9_restore_20 : decode cX9_restore 20 = .ok (.iinc 1 1, 3) := by decide +kernel
theorem dX9_restore_23 : decode cX9_restore 23 = .ok (.goto (-21), 3) := by decide +kernel
theorem dX9_restore_26 : decode cX9_restore 26 = .ok (.return_, 1) := by decide +kernel
def k_X9_restore : List pEn := [oConst (0), oIstore 1, oIload 1, oConst (110), oCge 15, oAload 0, oGet 9 0, oIload 1, oAload 0, oGet 9 21, oIload 1, oIald, oIast, oIinc 1 (1), oGoto 2, oVret]
def pc_X9_restore (i : Nat) : Nat := ([0, 1, 2, 3, 5, 8, 9, 12, 13, 14, 17, 18, 19, 20, 23, 26] : List Nat).getD i 0
abbrev rm_X9_restore : Room := { frames := 0, cells := 0, slots := 0, locals := 0 }
theorem pl_X9_restore : pPlain yX9_restore 0 := by decide +kernel
set_option maxRecDepth 100000 in
set_option maxHeartbeats 4000000 in
theorem ok_k_X9_restore (l : Launch) : ∀ (i : Nat) (en : pEn), k_X9_restore[i]? = some en → EOK l cX9_restore yX9_restore.cls 2 (none) rm_X9_restore 0 pc_X9_restore i en := by
  refine allOK_at ?_
  refine And.intro (okIconst dX9_restore_0 rfl (by first | rfl | decide)) ?_
  refine And.intro (okIstore_n dX9_restore_1 rfl rfl (by decide)) ?_
  refine And.intro (okIload_n dX9_restore_2 rfl rfl) ?_
  refine And.intro (okBipush dX9_restore_3 rfl (by first | rfl | decide)) ?_
  refine And.intro (okCge dX9_restore_5 rfl (by rfl)) ?_
  refine And.intro (okAload_n dX9_restore_8 rfl rfl) ?_
  refine And.intro (okGet (C := RX9) (T := TX9) (N := 22) dX9_restore_9 rfl rfl (by decide) inX9 wm_3_141) ?_
  refine And.intro (okIload_n dX9_restore_12 rfl rfl) ?_
  refine And.intro (okAload_n dX9_restore_13 rfl rfl) ?_
  refine And.intro (okGet (C := RX9) (T := TX9) (N := 22) dX9_restore_14 rfl rfl (by decide) inX9 wm_3_162) ?_
  refine And.intro (okIload_n dX9_restore_17 rfl rfl) ?_
  refine And.intro (okIald dX9_restore_18 rfl) ?_
  refine And.intro (okIast dX9_restore_19 rfl) ?_
  refine And.intro (okIinc dX9_restore_20 rfl (by first | rfl | decide) (by decide)) ?_
  refine And.intro (okGoto dX9_restore_23 (by rfl)) ?_
  refine And.intro (okVret dX9_restore_26 rfl) ?_
  exact trivial
set_option maxHeartbeats 400000 in
theorem lp_restore (rg : pRg) (m : pLV) : ∀ (d k : Nat), 0 ≤ k → k + d = 110 → ∃ fu, ex k_X9_restore fu 2 [(1, .int (nI k)), (0, .ref 0)] [] (mdl (vA m 1 (cpN k (m 6) (m 1)))) rg = some (none, mdl (restM m), rg) := by
  intro d
  induction d with
  | zero =>
    intro k hk0 hk
    obtain rfl : k = 110 := by omega
    refine ⟨5, ?_⟩
    conv => lhs; whnf
    refine (pif_t (by decide)).trans ?_
    rfl
  | succ d ih =>
    intro k hk0 hk
    obtain ⟨m0, hm⟩ := ih (k + 1) (by omega) (by omega)
    refine ⟨m0 + 1, ?_⟩
    conv => lhs; whnf
    refine (pif_f (nI_ge (a := k) (b := 110) (by omega) (by omega))).trans ?_
    conv => lhs; whnf
    refine (pif_f (nI_in (c := k) (N := 110) (by omega) (by omega))).trans ?_
    conv => lhs; whnf
    refine (pif_f (nI_in (c := k) (N := 110) (by omega) (by omega))).trans ?_
    conv => lhs; whnf
    rw [nI_clamp (by omega : k < 2 ^ 31), nI_1]
    rw [← cpN_s] at hm
    exact hm
def G_X9_restore : pG := fun args w => match args with
  | [.ref 0] => unM w (fun m => some (none, mdl (restM m)))
  | _ => none
set_option maxHeartbeats 400000 in
set_option maxRecDepth 100000 in
theorem run_X9_restore (rg : pRg) (m : pLV)   : ∃ fu, ex k_X9_restore fu 0 [(0, .ref 0)] [] (mdl m) rg = some (none, mdl (restM m), rg) := by
  have h := lp_restore rg m 110 0 (by omega) (by omega)
  rw [cpN_0] at h
  exact ex_at h (fun _ => rfl)
theorem ct_X9_restore (l : Launch) : ∀ args0 w0 v0 w1 rg, G_X9_restore args0 w0 = some (v0, w1) → pCT l yX9_restore (pWs yX9_restore cX9_restore 2 (none)) rm_X9_restore args0 w0 rg (v0, w1, rg) := by
  intro args0 w0 v0 w1 rg h
  unfold G_X9_restore at h
  split at h
  next  =>
    obtain ⟨m, hw, h2⟩ := unM_some h
    clear h
    subst hw
    cases h2
    exact met_of_exM (by decide) (ok_k_X9_restore l) rfl (run_X9_restore rg m  ) (Nat.le_of_ble_eq_true rfl) rfl rfl
  next => cases h
def F_X9_restore : pF := faN G_X9_restore
theorem ok_F_X9_restore (l : Launch) : pFOK l yX9_restore (pWs yX9_restore cX9_restore 2 (none)) rm_X9_restore F_X9_restore := pFOK_fa (fun a b c d rg h => ct_X9_restore l a b c d rg h)
theorem rc_F_X9_restore : pRcv 9 F_X9_restore := pRcv_fa (fun a b c d h => by
  unfold G_X9_restore at h
  split at h
  next =>
    obtain ⟨m, rfl, h⟩ := unM_some h
    exact ⟨_, _, _, rfl, rfl⟩
  next => cases h)
theorem cl_X9_restore (m : pLV)  (rg : pRg) : F_X9_restore [.ref 0] (mdl m) rg = some (none, mdl (restM (NM m)), rg) := rfl
end
end
section
noncomputable section
def cpS (k : Nat) (f : Nat → Int32) : Nat → Int32 := fun j => if j < k then f (j + 110) else f j
theorem cpS_0 (f : Nat → Int32) : cpS 0 f = f := by funext j; simp [cpS]
theorem cpS_a (k : Nat) (f : Nat → Int32) : cpS k f (k + 110) = f (k + 110) := by
  unfold cpS
  rw [if_neg (by omega)]
theorem cpS_s (k : Nat) (f : Nat → Int32) : upd (cpS k f) k (cpS k f (k + 110)) = cpS (k + 1) f := by
  rw [cpS_a]
  funext j
  by_cases hj : j = k
  · subst hj
    unfold upd cpS
    rw [if_pos rfl, if_pos (by omega)]
  · have : (j < k) = (j < k + 1) := by rw [eq_iff_iff]; omega
    unfold upd cpS
    rw [if_neg hj]
    simp only [this]
def cpR (k b : Nat) (f g : Nat → Int32) : Nat → Int32 := fun j => if b ≤ j ∧ j < b + k then f (j - b) else g j
theorem cpR_0 (b : Nat) (f g : Nat → Int32) : cpR 0 b f g = g := by
  funext j
  unfold cpR
  rw [if_neg (by omega)]
theorem cpR_s (k b : Nat) (f g : Nat → Int32) : upd (cpR k b f g) (b + k) (f k) = cpR (k + 1) b f g := by
  funext j
  by_cases hj : j = b + k
  · subst hj
    unfold upd cpR
    rw [if_pos rfl, if_pos (by omega)]
    congr 1
    omega
  · have : (b ≤ j ∧ j < b + k) = (b ≤ j ∧ j < b + (k + 1)) := by rw [eq_iff_iff]; omega
    unfold upd cpR
    rw [if_neg hj]
    simp only [this]
theorem nI_ofN {x : Int32} (h : 0 ≤ x) : x = nI x.toNatClampNeg := by
  have e1 := Int32.le_iff_toInt_le.mp h
  rw [Int32.toInt_zero] at e1
  have e3 : x.toNatClampNeg = x.toInt.toNat := rfl
  have e2 : x.toInt < 2 ^ 31 := Int32.toInt_lt x
  refine Int32.toInt_inj.mp ?_
  rw [nI_toInt (by omega)]
  omega
theorem clamp_b {x : Int32} (y : Int32) {n : Nat} (hy : y.toInt = n) (h : x ≤ y) : x.toNatClampNeg ≤ n := by
  have e1 := Int32.le_iff_toInt_le.mp h
  have e3 : x.toNatClampNeg = x.toInt.toNat := rfl
  omega
theorem nI_pk (p k : Nat) : (110 : Int32) * nI p + nI k = nI (110 * p + k) := by
  rw [← nI_plus, ← nI_tim]; rfl
theorem nI_k110 (k : Nat) : nI k + 110 = nI (k + 110) := nI_plus k 110
/-- where the past is written: behind its p states -/
def psM (k : Nat) (x : pLV) : pLV := vA x 2 (cpR k (110 * (x 0 2).toNatClampNeg) (x 1) (x 2))
def rm2 (x : pLV) : pLV := vS (psM 110 x) 2 (x 0 2 + 1)
def rm1 (m : pLV) : pLV := vS (vA m 2 (cpS 770 (m 2))) 2 (m 0 2 - 1)
def rememM (m : pLV) : pLV := if m 0 2 = 8 then rm2 (rm1 m) else rm2 m
def pOK (m : pLV) : Prop := 0 ≤ m 0 2 ∧ m 0 2 ≤ 8
theorem dX9_remember_0 : decode cX9_remember 0 = .ok (.aload_n 0, 1) := by decide +kernel
theorem dX9_remember_1 : decode cX9_remember 1 = .ok (.getfield 38, 3) := by decide +kernel
theorem dX9_remember_4 : decode cX9_remember 4 = .ok (.bipush 8, 2) := by decide +kernel
theorem dX9_remember_6 : decode cX9_remember 6 = .ok (.if_icmp .ne 43, 3) := by decide +kernel
theorem dX9_remember_9 : decode cX9_remember 9 = .ok (.iconst 0, 1) := by decide +kernel
theorem dX9_remember_10 : decode cX9_remember 10 = .ok (.istore_n 1, 1) := by decide +kernel
theorem dX9_remember_11 : decode cX9_remember 11 = .ok (.iload_n 1, 1) := by decide +kernel
theorem dX9_remember_12 : decode cX9_remember 12 = .ok (.sipush 770, 3) := by decide +kernel
theorem dX9_remember_15 : decode cX9_remember 15 = .ok (.if_icmp .ge 24, 3) := by decide +kernel
theorem dX9_remember_18 : decode cX9_remember 18 = .ok (.aload_n 0, 1) := by decide +kernel
theorem dX9_remember_19 : decode cX9_remember 19 = .ok (.getfield 13, 3) := by decide +kernel
theorem dX9_remember_22 : decode cX9_remember 22 = .ok (.iload_n 1, 1) := by decide +kernel
theorem dX9_remember_23 : decode cX9_remember 23 = .ok (.aload_n 0, 1) := by decide +kernel
theorem dX9_remember_24 : decode cX9_remember 24 = .ok (.getfield 13, 3) := by decide +kernel
theorem dX9_remember_27 : decode cX9_remember 27 = .ok (.iload_n 1, 1) := by decide +kernel
theorem dX9_remember_28 : decode cX9_remember 28 = .ok (.bipush 110, 2) := by decide +kernel
theorem dX9_remember_30 : decode cX9_remember 30 = .ok (.iadd, 1) := by decide +kernel
theorem dX9_remember_31 : decode cX9_remember 31 = .ok (.iaload, 1) := by decide +kernel
theorem dX9_remember_32 : decode cX9_remember 32 = .ok (.iastore, 1) := by decide +kernel
theorem dX9_remember_33 : decode cX9_remember 33 = .ok (.iinc 1 1, 3) := by decide +kernel
theorem dX9_remember_36 : decode cX9_remember 36 = .ok (.goto (-25), 3) := by decide +kernel
theorem dX9_remember_39 : decode cX9_remember 39 = .ok (.aload_n 0, 1) := by decide +kernel
theorem dX9_remember_40 : decode cX9_remember 40 = .ok (.dup, 1) := by decide +kernel
theorem dX9_remember_41 : decode cX9_remember 41 = .ok (.getfield 38, 3) := by decide +kernel
theorem dX9_remember_44 : decode cX9_remember 44 = .ok (.iconst 1, 1) := by decide +kernel
theorem dX9_remember_45 : decode cX9_remember 45 = .ok (.isub, 1) := by decide +kernel
theorem dX9_remember_46 : decode cX9_remember 46 = .ok (.putfield 38, 3) := by decide +kernel
theorem dX9_remember_49 : decode cX9_remember 49 = .ok (.iconst 0, 1) := by decide +kernel
theorem dX9_remember_50 : decode cX9_remember 50 = .ok (.istore_n 1, 1) := by decide +kernel
theorem dX9_remember_51 : decode cX9_remember 51 = .ok (.iload_n 1, 1) := by decide +kernel
theorem dX9_remember_52 : decode cX9_remember 52 = .ok (.bipush 110, 2) := by decide +kernel
theorem dX9_remember_54 : decode cX9_remember 54 = .ok (.if_icmp .ge 29, 3) := by decide +kernel
theorem dX9_remember_57 : decode cX9_remember 57 = .ok (.aload_n 0, 1) := by decide +kernel
theorem dX9_remember_58 : decode cX9_remember 58 = .ok (.getfield 13, 3) := by decide +kernel
theorem dX9_remember_61 : decode cX9_remember 61 = .ok (.bipush 110, 2) := by decide +kernel
theorem dX9_remember_63 : decode cX9_remember 63 = .ok (.aload_n 0, 1) := by decide +kernel
theorem dX9_remember_64 : decode cX9_remember 64 = .ok (.getfield 38, 3) := by decide +kernel
theorem dX9_remember_67 : decode cX9_remember 67 = .ok (.imul, 1) := by decide +kernel
theorem dX9_remember_68 : decode cX9_remember 68 = .ok (.iload_n 1, 1) := by decide +kernel
theorem dX9_remember_69 : decode cX9_remember 69 = .ok (.iadd, 1) := by decide +kernel
theorem dX9_remember_70 : decode cX9_remember 70 = .ok (.aload_n 0, 1) := by decide +kernel
theorem dX9_remember_71 : decode cX9_remember 71 = .ok (.getfield 7, 3) := by decide +kernel
theorem dX9_remember_74 : decode cX9_remember 74 = .ok (.iload_n 1, 1) := by decide +kernel
theorem dX9_remember_75 : decode cX9_remember 75 = .ok (.iaload, 1) := by decide +kernel
theorem dX9_remember_76 : decode cX9_remember 76 = .ok (.iastore, 1) := by decide +kernel
theorem dX9_remember_77 : decode cX9_remember 77 = .ok (.iinc 1 1, 3) := by decide +kernel
theorem dX9_remember_80 : decode cX9_remember 80 = .ok (.goto (-29), 3) := by decide +kernel
theorem dX9_remember_83 : decode cX9_remember 83 = .ok (.aload_n 0, 1) := by decide +kernel
theorem dX9_remember_84 : decode cX9_remember 84 = .ok (.dup, 1) := by decide +kernel
theorem dX9_remember_85 : decode cX9_remember 85 = .ok (.getfield 38, 3) := by decide +kernel
theorem dX9_remember_88 : decode cX9_remember 88 = .ok (.iconst 1, 1) := by decide +kernel
theorem dX9_remember_89 : decode cX9_remember 89 = .ok (.iadd, 1) := by decide +kernel
theorem dX9_remember_90 : decode cX9_remember 90 = .ok (.putfield 38, 3) := by decide +kernel
theorem dX9_remember_93 : decode cX9_remember 93 = .ok (.return_, 1) := by decide +kernel
def k_X9_remember : List pEn := [oAload 0, oGet 9 2, oConst (8), oCne 27, oConst (0), oIstore 1, oIload 1, oConst (770), oCge 21, oAload 0, oGet 9 1, oIload 1, oAload 0, oGet 9 1, oIload 1, oConst (110), oAdd, oIald, oIast, oIinc 1 (1), oGoto 6, oAload 0, oDup, oGet 9 2, oConst (1), oSub, oPut 9 2, oConst (0), oIstore 1, oIload 1, oConst (110), oCge 47, oAload 0, oGet 9 1, oConst (110), oAload 0, oGet 9 2, oMul, oIload 1, oAdd, oAload 0, oGet 9 0, oIload 1, oIald, oIast, oIinc 1 (1), oGoto 29, oAload 0, oDup, oGet 9 2, oConst (1), oAdd, oPut 9 2, oVret]
def pc_X9_remember (i : Nat) : Nat := ([0, 1, 4, 6, 9, 10, 11, 12, 15, 18, 19, 22, 23, 24, 27, 28, 30, 31, 32, 33, 36, 39, 40, 41, 44, 45, 46, 49, 50, 51, 52, 54, 57, 58, 61, 63, 64, 67, 68, 69, 70, 71, 74, 75, 76, 77, 80, 83, 84, 85, 88, 89, 90, 93] : List Nat).getD i 0
abbrev rm_X9_remember : Room := { frames := 0, cells := 0, slots := 0, locals := 0 }
theorem pl_X9_remember : pPlain yX9_remember 0 := by decide +kernel
set_option maxRecDepth 100000 in
set_option maxHeartbeats 4000000 in
theorem ok_k_X9_remember (l : Launch) : ∀ (i : Nat) (en : pEn), k_X9_remember[i]? = some en → EOK l cX9_remember yX9_remember.cls 2 (none) rm_X9_remember 0 pc_X9_remember i en := by
  refine allOK_at ?_
  refine And.intro (okAload_n dX9_remember_0 rfl rfl) ?_
  refine And.intro (okGet (C := RX9) (T := TX9) (N := 22) dX9_remember_1 rfl rfl (by decide) inX9 wm_3_143) ?_
  refine And.intro (okBipush dX9_remember_4 rfl (by first | rfl | decide)) ?_
  refine And.intro (okCne dX9_remember_6 rfl (by rfl)) ?_
  refine And.intro (okIconst dX9_remember_9 rfl (by first | rfl | decide)) ?_
  refine And.intro (okIstore_n dX9_remember_10 rfl rfl (by decide)) ?_
  refine And.intro (okIload_n dX9_remember_11 rfl rfl) ?_
  refine And.intro (okSipush dX9_remember_12 rfl (by first | rfl | decide)) ?_
  refine And.intro (okCge dX9_remember_15 rfl (by rfl)) ?_
  refine And.intro (okAload_n dX9_remember_18 rfl rfl) ?_
  refine And.intro (okGet (C := RX9) (T := TX9) (N := 22) dX9_remember_19 rfl rfl (by decide) inX9 wm_3_142) ?_
  refine And.intro (okIload_n dX9_remember_22 rfl rfl) ?_
  refine And.intro (okAload_n dX9_remember_23 rfl rfl) ?_
  refine And.intro (okGet (C := RX9) (T := TX9) (N := 22) dX9_remember_24 rfl rfl (by decide) inX9 wm_3_142) ?_
  refine And.intro (okIload_n dX9_remember_27 rfl rfl) ?_
  refine And.intro (okBipush dX9_remember_28 rfl (by first | rfl | decide)) ?_
  refine And.intro (okAdd dX9_remember_30 rfl) ?_
  refine And.intro (okIald dX9_remember_31 rfl) ?_
  refine And.intro (okIast dX9_remember_32 rfl) ?_
  refine And.intro (okIinc dX9_remember_33 rfl (by first | rfl | decide) (by decide)) ?_
  refine And.intro (okGoto dX9_remember_36 (by rfl)) ?_
  refine And.intro (okAload_n dX9_remember_39 rfl rfl) ?_
  refine And.intro (okDup dX9_remember_40 rfl) ?_
  refine And.intro (okGet (C := RX9) (T := TX9) (N := 22) dX9_remember_41 rfl rfl (by decide) inX9 wm_3_143) ?_
  refine And.intro (okIconst dX9_remember_44 rfl (by first | rfl | decide)) ?_
  refine And.intro (okSub dX9_remember_45 rfl) ?_
  refine And.intro (okPut (C := RX9) (T := TX9) (N := 22) dX9_remember_46 rfl rfl (by decide) inX9 tyX9_ok nmX9 rfl rfl wm_3_143) ?_
  refine And.intro (okIconst dX9_remember_49 rfl (by first | rfl | decide)) ?_
  refine And.intro (okIstore_n dX9_remember_50 rfl rfl (by decide)) ?_
  refine And.intro (okIload_n dX9_remember_51 rfl rfl) ?_
  refine And.intro (okBipush dX9_remember_52 rfl (by first | rfl | decide)) ?_
  refine And.intro (okCge dX9_remember_54 rfl (by rfl)) ?_
  refine And.intro (okAload_n dX9_remember_57 rfl rfl) ?_
  refine And.intro (okGet (C := RX9) (T := TX9) (N := 22) dX9_remember_58 rfl rfl (by decide) inX9 wm_3_142) ?_
  refine And.intro (okBipush dX9_remember_61 rfl (by first | rfl | decide)) ?_
  refine And.intro (okAload_n dX9_remember_63 rfl rfl) ?_
  refine And.intro (okGet (C := RX9) (T := TX9) (N := 22) dX9_remember_64 rfl rfl (by decide) inX9 wm_3_143) ?_
  refine And.intro (okMul dX9_remember_67 rfl) ?_
  refine And.intro (okIload_n dX9_remember_68 rfl rfl) ?_
  refine And.intro (okAdd dX9_remember_69 rfl) ?_
  refine And.intro (okAload_n dX9_remember_70 rfl rfl) ?_
  refine And.intro (okGet (C := RX9) (T := TX9) (N := 22) dX9_remember_71 rfl rfl (by decide) inX9 wm_3_141) ?_
  refine And.intro (okIload_n dX9_remember_74 rfl rfl) ?_
  refine And.intro (okIald dX9_remember_75 rfl) ?_
  refine And.intro (okIast dX9_remember_76 rfl) ?_
  refine And.intro (okIinc dX9_remember_77 rfl (by first | rfl | decide) (by decide)) ?_
  refine And.intro (okGoto dX9_remember_80 (by rfl)) ?_
  refine And.intro (okAload_n dX9_remember_83 rfl rfl) ?_
  refine And.intro (okDup dX9_remember_84 rfl) ?_
  refine And.intro (okGet (C := RX9) (T := TX9) (N := 22) dX9_remember_85 rfl rfl (by decide) inX9 wm_3_143) ?_
  refine And.intro (okIconst dX9_remember_88 rfl (by first | rfl | decide)) ?_
  refine And.intro (okAdd dX9_remember_89 rfl) ?_
  refine And.intro (okPut (C := RX9) (T := TX9) (N := 22) dX9_remember_90 rfl rfl (by decide) inX9 tyX9_ok nmX9 rfl rfl wm_3_143) ?_
  refine And.intro (okVret dX9_remember_93 rfl) ?_
  exact trivial
theorem past_in {x : Int32} (p k : Nat) (hp : x = nI p) (h : p ≤ 7) (hk : k < 110) : ¬ (110 * x + nI k < 0 ∨ 880 ≤ (110 * x + nI k).toNatClampNeg) := by
  rw [hp, nI_pk]
  exact nI_in (by omega) (by omega)
theorem past_cl {x : Int32} (k : Nat) (h0 : 0 ≤ x) (h : x.toNatClampNeg ≤ 7) (hk : k < 110) : (110 * x + nI k).toNatClampNeg = 110 * x.toNatClampNeg + k := by
  have e := nI_ofN h0
  rw [show (110 * x + nI k) = nI (110 * x.toNatClampNeg + k) from by rw [← nI_pk, ← e]]
  exact nI_clamp (by omega)
set_option maxHeartbeats 400000 in
theorem lp_rem2 (rg : pRg) (x : pLV) (h0 : 0 ≤ x 0 2) (h7 : (x 0 2).toNatClampNeg ≤ 7) : ∀ (d k : Nat), 0 ≤ k → k + d = 110 → ∃ fu, ex k_X9_remember fu 29 [(1, .int (nI k)), (0, .ref 0)] [] (mdl (psM k x)) rg = some (none, mdl (rm2 x), rg) := by
  intro d
  induction d with
  | zero =>
    intro k hk0 hk
    obtain rfl : k = 110 := by omega
    refine ⟨5, ?_⟩
    conv => lhs; whnf
    refine (pif_t (by decide)).trans ?_
    rfl
  | succ d ih =>
    intro k hk0 hk
    obtain ⟨m0, hm⟩ := ih (k + 1) (by omega) (by omega)
    refine ⟨m0 + 1, ?_⟩
    conv => lhs; whnf
    refine (pif_f (nI_ge (a := k) (b := 110) (by omega) (by omega))).trans ?_
    conv => lhs; whnf
    refine (pif_f (nI_in (c := k) (N := 110) (by omega) (by omega))).trans ?_
    conv => lhs; whnf
    refine (pif_f (past_in (x 0 2).toNatClampNeg k (nI_ofN h0) h7 (by omega))).trans ?_
    conv => lhs; whnf
    rw [nI_clamp (by omega : k < 2 ^ 31), nI_1]
    unfold psM at hm
    rw [← cpR_s, ← past_cl k h0 h7 (by omega)] at hm
    exact hm
set_option maxHeartbeats 400000 in
theorem lp_rem1 (rg : pRg) (m : pLV) (h8 : m 0 2 = 8) : ∀ (d k : Nat), 0 ≤ k → k + d = 770 → ∃ fu, ex k_X9_remember fu 6 [(1, .int (nI k)), (0, .ref 0)] [] (mdl (vA m 2 (cpS k (m 2)))) rg = some (none, mdl (rm2 (rm1 m)), rg) := by
  intro d
  induction d with
  | zero =>
    intro k hk0 hk
    obtain rfl : k = 770 := by omega
    have e7 : m 0 2 - 1 = 7 := by rw [h8]; decide
    obtain ⟨fu, hf⟩ := lp_rem2 rg (rm1 m) (show 0 ≤ m 0 2 - 1 by rw [e7]; decide) (show (m 0 2 - 1).toNatClampNeg ≤ 7 by rw [e7]; decide) 110 0 (by omega) (by omega)
    have hp : psM 0 (rm1 m) = vA (rm1 m) 2 (rm1 m 2) := congrArg (vA (rm1 m) 2) (cpR_0 _ _ _)
    rw [hp] at hf
    obtain ⟨f1, rfl⟩ := ex_pos hf
    refine ⟨f1 + 2, ?_⟩
    conv => lhs; whnf
    refine (pif_t (by decide)).trans ?_
    conv at hf => lhs; whnf
    conv => lhs; whnf
    exact hf
  | succ d ih =>
    intro k hk0 hk
    obtain ⟨m0, hm⟩ := ih (k + 1) (by omega) (by omega)
    refine ⟨m0 + 1, ?_⟩
    conv => lhs; whnf
    refine (pif_f (nI_ge (a := k) (b := 770) (by omega) (by omega))).trans ?_
    conv => lhs; whnf
    rw [nI_k110]
    refine (pif_f (nI_in (c := k + 110) (N := 880) (by omega) (by omega))).trans ?_
    conv => lhs; whnf
    refine (pif_f (nI_in (c := k) (N := 880) (by omega) (by omega))).trans ?_
    conv => lhs; whnf
    rw [nI_clamp (by omega : k < 2 ^ 31), nI_clamp (by omega : k + 110 < 2 ^ 31), nI_1]
    rw [← cpS_s] at hm
    exact hm
def G_X9_remember : pG := fun args w => match args with
  | [.ref 0] => unM w (fun m => pif (pOK m) (some (none, mdl (rememM m))) none)
  | _ => none
set_option maxHeartbeats 400000 in
set_option maxRecDepth 100000 in
theorem run_X9_remember (rg : pRg) (m : pLV)  (hc : pOK m) : ∃ fu, ex k_X9_remember fu 0 [(0, .ref 0)] [] (mdl m) rg = some (none, mdl (rememM m), rg) := by
  by_cases h8 : m 0 2 = 8
  · obtain ⟨fu, hf⟩ := lp_rem1 rg m h8 770 0 (by omega) (by omega)
    rw [cpS_0] at hf
    obtain ⟨f1, rfl⟩ := ex_pos hf
    refine ⟨f1 + 1, ?_⟩
    rw [show rememM m = rm2 (rm1 m) from if_pos h8]
    conv => lhs; whnf
    refine (pif_t h8).trans ?_
    conv at hf => lhs; whnf
    conv => lhs; whnf
    exact hf
  · have h7 : (m 0 2).toNatClampNeg ≤ 7 := by
      have h1 := clamp_b 8 (n := 8) rfl hc.2
      have h2 : (m 0 2).toNatClampNeg ≠ 8 := fun q => h8 (by have e := nI_ofN hc.1; rw [q] at e; exact e)
      omega
    obtain ⟨fu, hf⟩ := lp_rem2 rg m hc.1 h7 110 0 (by omega) (by omega)
    have hp : psM 0 m = vA m 2 (m 2) := congrArg (vA m 2) (cpR_0 _ _ _)
    rw [hp] at hf
    obtain ⟨f1, rfl⟩ := ex_pos hf
    refine ⟨f1 + 2, ?_⟩
    rw [show rememM m = rm2 m from if_neg h8]
    conv => lhs; whnf
    refine (pif_f h8).trans ?_
    conv at hf => lhs; whnf
    conv => lhs; whnf
    exact hf
theorem ct_X9_remember (l : Launch) : ∀ args0 w0 v0 w1 rg, G_X9_remember args0 w0 = some (v0, w1) → pCT l yX9_remember (pWs yX9_remember cX9_remember 2 (none)) rm_X9_remember args0 w0 rg (v0, w1, rg) := by
  intro args0 w0 v0 w1 rg h
  unfold G_X9_remember at h
  split at h
  next  =>
    obtain ⟨m, hw, h2⟩ := unM_some h
    clear h
    subst hw
    by_cases hc : pOK m
    · have h2 := (pif_t hc).symm.trans h2
      cases h2
      exact met_of_exM (by decide) (ok_k_X9_remember l) rfl (run_X9_remember rg m  hc) (Nat.le_of_ble_eq_true rfl) rfl rfl
    · have h2 := (pif_f hc).symm.trans h2
      cases h2
  next => cases h
def F_X9_remember : pF := faN G_X9_remember
theorem ok_F_X9_remember (l : Launch) : pFOK l yX9_remember (pWs yX9_remember cX9_remember 2 (none)) rm_X9_remember F_X9_remember := pFOK_fa (fun a b c d rg h => ct_X9_remember l a b c d rg h)
theorem rc_F_X9_remember : pRcv 9 F_X9_remember := pRcv_fa (fun a b c d h => by
  unfold G_X9_remember at h
  split at h
  next =>
    obtain ⟨m, rfl, h⟩ := unM_some h
    exact ⟨_, _, _, rfl, rfl⟩
  next => cases h)
theorem cl_X9_remember (m : pLV)  (rg : pRg) (hc : pOK (NM m)) : F_X9_remember [.ref 0] (mdl m) rg = some (none, mdl (rememM (NM m)), rg) := by
  have h : G_X9_remember [.ref 0] (mdl m) = some (none, mdl (rememM (NM m))) := pif_t hc
  unfold F_X9_remember faN
  rw [h]
end
end
section
noncomputable section
def begM (m : pLV) : pLV := layM (NM (rememM (NM m)))
theorem dX9_begin_0 : decode cX9_begin 0 = .ok (.aload_n 0, 1) := by decide +kernel
theorem dX9_begin_1 : decode cX9_begin 1 = .ok (.invokevirtual 141, 3) := by decide +kernel
theorem dX9_begin_4 : decode cX9_begin 4 = .ok (.aload_n 0, 1) := by decide +kernel
theorem dX9_begin_5 : decode cX9_begin 5 = .ok (.getfield 7, 3) := by decide +kernel
theorem dX9_begin_8 : decode cX9_begin 8 = .ok (.bipush 9, 2) := by decide +kernel
theorem dX9_begin_10 : decode cX9_begin 10 = .ok (.iaload, 1) := by decide +kernel
theorem dX9_begin_11 : decode cX9_begin 11 = .ok (.istore_n 1, 1) := by decide +kernel
theorem dX9_begin_12 : decode cX9_begin 12 = .ok (.aload_n 0, 1) := by decide +kernel
theorem dX9_begin_13 : decode cX9_begin 13 = .ok (.invokevirtual 35, 3) := by decide +kernel
theorem dX9_begin_16 : decode cX9_begin 16 = .ok (.iload_n 1, 1) := by decide +kernel
theorem dX9_begin_17 : decode cX9_begin 17 = .ok (.ireturn, 1) := by decide +kernel
def k_X9_begin : List pEn := [oAload 0, oCallZ 1 F_X9_remember, oAload 0, oGet 9 0, oConst (9), oIaldN 9, oIstore 1, oAload 0, oCallZ 1 F_X9_lay, oIload 1, oIret]
def pc_X9_begin (i : Nat) : Nat := ([0, 1, 4, 5, 8, 10, 11, 12, 13, 16, 17] : List Nat).getD i 0
abbrev rm_X9_begin : Room := { frames := 1, cells := 0, slots := 0, locals := 21 }
theorem pl_X9_begin : pPlain yX9_begin 0 := by decide +kernel
set_option maxRecDepth 100000 in
set_option maxHeartbeats 4000000 in
theorem ok_k_X9_begin (l : Launch) : ∀ (i : Nat) (en : pEn), k_X9_begin[i]? = some en → EOK l cX9_begin yX9_begin.cls 2 ((some FieldType.int)) rm_X9_begin 0 pc_X9_begin i en := by
  refine allOK_at ?_
  refine And.intro (okAload_n dX9_begin_0 rfl rfl) ?_
  refine And.intro (okCallV (y := yX9_remember) (T := TX9) (oCallZ_is _ _ _) dX9_begin_1 rfl (ok_F_X9_remember l) rc_F_X9_remember rfl wm_3_212 wm_3_214 wp_16 wm_1_10 wm_3_215 pl_X9_remember (by decide)) ?_
  refine And.intro (okAload_n dX9_begin_4 rfl rfl) ?_
  refine And.intro (okGet (C := RX9) (T := TX9) (N := 22) dX9_begin_5 rfl rfl (by decide) inX9 wm_3_141) ?_
  refine And.intro (okBipush dX9_begin_8 rfl (by first | rfl | decide)) ?_
  refine And.intro (okIaldN dX9_begin_10 rfl) ?_
  refine And.intro (okIstore_n dX9_begin_11 rfl rfl (by decide)) ?_
  refine And.intro (okAload_n dX9_begin_12 rfl rfl) ?_
  refine And.intro (okCallV (y := yX9_lay) (T := TX9) (oCallZ_is _ _ _) dX9_begin_13 rfl (ok_F_X9_lay l) rc_F_X9_lay rfl wm_3_137 wm_3_139 wp_15 wm_1_10 wm_3_140 pl_X9_lay (by decide)) ?_
  refine And.intro (okIload_n dX9_begin_16 rfl rfl) ?_
  refine And.intro (okIret dX9_begin_17 rfl) ?_
  exact trivial
def G_X9_begin : pG := fun args w => match args with
  | [.ref 0] => unM w (fun m => pif (pOK m) (some (some (.int (rememM (NM m) 1 9)), mdl (begM m))) none)
  | _ => none
set_option maxHeartbeats 400000 in
set_option maxRecDepth 100000 in
theorem run_X9_begin (rg : pRg) (m : pLV)  (hc : pOK m) : ∃ fu, ex k_X9_begin fu 0 [(0, .ref 0)] [] (mdl m) rg = some (some (.int (rememM (NM m) 1 9)), mdl (begM m), rg) := by
  refine ⟨60, ?_⟩
  unfold begM
  conv => lhs; whnf
  refine (callK_v (cl_X9_remember m rg hc) (by rfl)).trans ?_
  generalize rememM (NM m) = x
  revert x; refine id ?_; intro x
  conv => lhs; whnf
  refine (callK_v (cl_X9_lay x rg) (by rfl)).trans ?_
  generalize layM (NM x) = y
  revert y; refine id ?_; intro y
  rfl
theorem ct_X9_begin (l : Launch) : ∀ args0 w0 v0 w1 rg, G_X9_begin args0 w0 = some (v0, w1) → pCT l yX9_begin (pWs yX9_begin cX9_begin 2 ((some FieldType.int))) rm_X9_begin args0 w0 rg (v0, w1, rg) := by
  intro args0 w0 v0 w1 rg h
  unfold G_X9_begin at h
  split at h
  next  =>
    obtain ⟨m, hw, h2⟩ := unM_some h
    clear h
    subst hw
    by_cases hc : pOK m
    · have h2 := (pif_t hc).symm.trans h2
      cases h2
      exact met_of_exM (by decide) (ok_k_X9_begin l) rfl (run_X9_begin rg m  hc) (Nat.le_of_ble_eq_true rfl) rfl rfl
    · have h2 := (pif_f hc).symm.trans h2
      cases h2
  next => cases h
def F_X9_begin : pF := faN G_X9_begin
theorem ok_F_X9_begin (l : Launch) : pFOK l yX9_begin (pWs yX9_begin cX9_begin 2 ((some FieldType.int))) rm_X9_begin F_X9_begin := pFOK_fa (fun a b c d rg h => ct_X9_begin l a b c d rg h)
theorem rc_F_X9_begin : pRcv 9 F_X9_begin := pRcv_fa (fun a b c d h => by
  unfold G_X9_begin at h
  split at h
  next =>
    obtain ⟨m, rfl, h⟩ := unM_some h
    exact ⟨_, _, _, rfl, rfl⟩
  next => cases h)
theorem cl_X9_begin (m : pLV)  (rg : pRg) (hc : pOK (NM m)) : F_X9_begin [.ref 0] (mdl m) rg = some (some (.int (rememM (NM (NM m)) 1 9)), mdl (begM (NM m)), rg) := by
  have h : G_X9_begin [.ref 0] (mdl m) = some (some (.int (rememM (NM (NM m)) 1 9)), mdl (begM (NM m))) := pif_t hc
  unfold F_X9_begin faN
  rw [h]
end
end
