section
-- ===== PART A: goes FIRST, ahead of the names: the tables' words, and 'selects' of the private methods out of them =====
/-- a private method of a class that the tables say can be made, by its rows of tables_1 -/
def lw_okq (q : MethodName × Nat) : Prop := (q.1.cls ≠ "java/lang/invoke/MethodHandle" ∧ q.1.cls ≠ "java/lang/invoke/VarHandle") ∧ Cond.instantiable q.1.cls q.2 ∈ tables_1 ∧ Cond.privateMethod q.1 ∈ tables_1 ∧ Cond.instanceMethod q.1 ∈ tables_1
theorem lw_p0 : lw_okq (⟨"LampMoths", "readInto", "(LLampMoths$Lane;)I"⟩, 15) := ⟨⟨by decide +kernel, by decide +kernel⟩, List.mem_of_getElem? (i := 8) (by decide +kernel), List.mem_of_getElem? (i := 152) (by decide +kernel), List.mem_of_getElem? (i := 153) (by decide +kernel)⟩
theorem lw_p1 : lw_okq (⟨"LampMoths$Reader", "goesOn", "(ZI)Z"⟩, 3) := ⟨⟨by decide +kernel, by decide +kernel⟩, List.mem_of_getElem? (i := 75) (by decide +kernel), List.mem_of_getElem? (i := 168) (by decide +kernel), List.mem_of_getElem? (i := 169) (by decide +kernel)⟩
theorem lw_p2 : lw_okq (⟨"LampMoths$Reader", "takesPart", "(ILLampMoths$Lane;)Z"⟩, 3) := ⟨⟨by decide +kernel, by decide +kernel⟩, List.mem_of_getElem? (i := 75) (by decide +kernel), List.mem_of_getElem? (i := 172) (by decide +kernel), List.mem_of_getElem? (i := 173) (by decide +kernel)⟩
theorem lw_p3 : lw_okq (⟨"LampMoths$Reader", "takesFigure", "(ILLampMoths$Lane;)Z"⟩, 3) := ⟨⟨by decide +kernel, by decide +kernel⟩, List.mem_of_getElem? (i := 75) (by decide +kernel), List.mem_of_getElem? (i := 176) (by decide +kernel), List.mem_of_getElem? (i := 177) (by decide +kernel)⟩
theorem lw_p4 : lw_okq (⟨"LampMoths$Lane", "reckon", "()V"⟩, 12) := ⟨⟨by decide +kernel, by decide +kernel⟩, List.mem_of_getElem? (i := 16) (by decide +kernel), List.mem_of_getElem? (i := 219) (by decide +kernel), List.mem_of_getElem? (i := 220) (by decide +kernel)⟩
theorem lw_p5 : lw_okq (⟨"LampMoths$Lane", "glow", "(I)I"⟩, 12) := ⟨⟨by decide +kernel, by decide +kernel⟩, List.mem_of_getElem? (i := 16) (by decide +kernel), List.mem_of_getElem? (i := 242) (by decide +kernel), List.mem_of_getElem? (i := 243) (by decide +kernel)⟩
theorem lw_p6 : lw_okq (⟨"LampMoths$Lane", "windHelp", "(II)I"⟩, 12) := ⟨⟨by decide +kernel, by decide +kernel⟩, List.mem_of_getElem? (i := 16) (by decide +kernel), List.mem_of_getElem? (i := 246) (by decide +kernel), List.mem_of_getElem? (i := 247) (by decide +kernel)⟩
theorem lw_p7 : lw_okq (⟨"LampMoths$Lane", "sweetness", "(II)I"⟩, 12) := ⟨⟨by decide +kernel, by decide +kernel⟩, List.mem_of_getElem? (i := 16) (by decide +kernel), List.mem_of_getElem? (i := 250) (by decide +kernel), List.mem_of_getElem? (i := 251) (by decide +kernel)⟩
theorem lw_p8 : lw_okq (⟨"LampMoths$Lane", "taxOf", "(I)I"⟩, 12) := ⟨⟨by decide +kernel, by decide +kernel⟩, List.mem_of_getElem? (i := 16) (by decide +kernel), List.mem_of_getElem? (i := 257) (by decide +kernel), List.mem_of_getElem? (i := 258) (by decide +kernel)⟩
theorem lw_p9 : lw_okq (⟨"LampMoths$Lane", "charge", "(II)V"⟩, 12) := ⟨⟨by decide +kernel, by decide +kernel⟩, List.mem_of_getElem? (i := 16) (by decide +kernel), List.mem_of_getElem? (i := 261) (by decide +kernel), List.mem_of_getElem? (i := 262) (by decide +kernel)⟩
theorem lw_p10 : lw_okq (⟨"LampMoths", "turned", "(II)I"⟩, 15) := ⟨⟨by decide +kernel, by decide +kernel⟩, List.mem_of_getElem? (i := 8) (by decide +kernel), List.mem_of_getElem? (i := 312) (by decide +kernel), List.mem_of_getElem? (i := 313) (by decide +kernel)⟩
theorem lw_p11 : lw_okq (⟨"LampMoths", "remember", "()V"⟩, 15) := ⟨⟨by decide +kernel, by decide +kernel⟩, List.mem_of_getElem? (i := 8) (by decide +kernel), List.mem_of_getElem? (i := 320) (by decide +kernel), List.mem_of_getElem? (i := 321) (by decide +kernel)⟩
theorem lw_p12 : lw_okq (⟨"LampMoths", "forgetFirstAct", "()V"⟩, 15) := ⟨⟨by decide +kernel, by decide +kernel⟩, List.mem_of_getElem? (i := 8) (by decide +kernel), List.mem_of_getElem? (i := 324) (by decide +kernel), List.mem_of_getElem? (i := 325) (by decide +kernel)⟩
theorem lw_p13 : lw_okq (⟨"LampMoths$Lane", "flyNearer", "(II)V"⟩, 12) := ⟨⟨by decide +kernel, by decide +kernel⟩, List.mem_of_getElem? (i := 16) (by decide +kernel), List.mem_of_getElem? (i := 361) (by decide +kernel), List.mem_of_getElem? (i := 362) (by decide +kernel)⟩
theorem lw_p14 : lw_okq (⟨"LampMoths", "owesAtMost", "(III)Z"⟩, 15) := ⟨⟨by decide +kernel, by decide +kernel⟩, List.mem_of_getElem? (i := 8) (by decide +kernel), List.mem_of_getElem? (i := 387) (by decide +kernel), List.mem_of_getElem? (i := 388) (by decide +kernel)⟩
theorem lw_p15 : lw_okq (⟨"LampMoths", "didOnTrial", "(II)Z"⟩, 15) := ⟨⟨by decide +kernel, by decide +kernel⟩, List.mem_of_getElem? (i := 8) (by decide +kernel), List.mem_of_getElem? (i := 420) (by decide +kernel), List.mem_of_getElem? (i := 421) (by decide +kernel)⟩
def lw_privs_1 : List (MethodName × Nat) := [(⟨"LampMoths", "readInto", "(LLampMoths$Lane;)I"⟩, 15), (⟨"LampMoths$Reader", "goesOn", "(ZI)Z"⟩, 3), (⟨"LampMoths$Reader", "takesPart", "(ILLampMoths$Lane;)Z"⟩, 3), (⟨"LampMoths$Reader", "takesFigure", "(ILLampMoths$Lane;)Z"⟩, 3), (⟨"LampMoths$Lane", "reckon", "()V"⟩, 12), (⟨"LampMoths$Lane", "glow", "(I)I"⟩, 12), (⟨"LampMoths$Lane", "windHelp", "(II)I"⟩, 12), (⟨"LampMoths$Lane", "sweetness", "(II)I"⟩, 12), (⟨"LampMoths$Lane", "taxOf", "(I)I"⟩, 12), (⟨"LampMoths$Lane", "charge", "(II)V"⟩, 12), (⟨"LampMoths", "turned", "(II)I"⟩, 15), (⟨"LampMoths", "remember", "()V"⟩, 15), (⟨"LampMoths", "forgetFirstAct", "()V"⟩, 15), (⟨"LampMoths$Lane", "flyNearer", "(II)V"⟩, 12), (⟨"LampMoths", "owesAtMost", "(III)Z"⟩, 15), (⟨"LampMoths", "didOnTrial", "(II)Z"⟩, 15)]
theorem lw_r1 : ∀ q ∈ lw_privs_1, lw_okq q := List.forall_mem_cons.mpr ⟨lw_p0, List.forall_mem_cons.mpr ⟨lw_p1, List.forall_mem_cons.mpr ⟨lw_p2, List.forall_mem_cons.mpr ⟨lw_p3, List.forall_mem_cons.mpr ⟨lw_p4, List.forall_mem_cons.mpr ⟨lw_p5, List.forall_mem_cons.mpr ⟨lw_p6, List.forall_mem_cons.mpr ⟨lw_p7, List.forall_mem_cons.mpr ⟨lw_p8, List.forall_mem_cons.mpr ⟨lw_p9, List.forall_mem_cons.mpr ⟨lw_p10, List.forall_mem_cons.mpr ⟨lw_p11, List.forall_mem_cons.mpr ⟨lw_p12, List.forall_mem_cons.mpr ⟨lw_p13, List.forall_mem_cons.mpr ⟨lw_p14, List.forall_mem_cons.mpr ⟨lw_p15, fun _ h => absurd h List.not_mem_nil⟩⟩⟩⟩⟩⟩⟩⟩⟩⟩⟩⟩⟩⟩⟩⟩
theorem lw_p16 : lw_okq (⟨"LampMoths", "blewOnTrial", "(I)Z"⟩, 15) := ⟨⟨by decide +kernel, by decide +kernel⟩, List.mem_of_getElem? (i := 8) (by decide +kernel), List.mem_of_getElem? (i := 424) (by decide +kernel), List.mem_of_getElem? (i := 425) (by decide +kernel)⟩
theorem lw_p17 : lw_okq (⟨"LampMoths", "movedOnTrial", "(I)Z"⟩, 15) := ⟨⟨by decide +kernel, by decide +kernel⟩, List.mem_of_getElem? (i := 8) (by decide +kernel), List.mem_of_getElem? (i := 428) (by decide +kernel), List.mem_of_getElem? (i := 429) (by decide +kernel)⟩
theorem lw_p18 : lw_okq (⟨"LampMoths", "reckonGroups", "()V"⟩, 15) := ⟨⟨by decide +kernel, by decide +kernel⟩, List.mem_of_getElem? (i := 8) (by decide +kernel), List.mem_of_getElem? (i := 436) (by decide +kernel), List.mem_of_getElem? (i := 437) (by decide +kernel)⟩
theorem lw_p19 : lw_okq (⟨"LampMoths", "ordersWith", "(I)I"⟩, 15) := ⟨⟨by decide +kernel, by decide +kernel⟩, List.mem_of_getElem? (i := 8) (by decide +kernel), List.mem_of_getElem? (i := 441) (by decide +kernel), List.mem_of_getElem? (i := 442) (by decide +kernel)⟩
theorem lw_p20 : lw_okq (⟨"LampMoths", "trialFitsCounted", "()Z"⟩, 15) := ⟨⟨by decide +kernel, by decide +kernel⟩, List.mem_of_getElem? (i := 8) (by decide +kernel), List.mem_of_getElem? (i := 467) (by decide +kernel), List.mem_of_getElem? (i := 468) (by decide +kernel)⟩
theorem lw_p21 : lw_okq (⟨"LampMoths", "gain", "(IIII)I"⟩, 15) := ⟨⟨by decide +kernel, by decide +kernel⟩, List.mem_of_getElem? (i := 8) (by decide +kernel), List.mem_of_getElem? (i := 475) (by decide +kernel), List.mem_of_getElem? (i := 476) (by decide +kernel)⟩
theorem lw_p22 : lw_okq (⟨"LampMoths", "passWeekOnTrial", "(I)V"⟩, 15) := ⟨⟨by decide +kernel, by decide +kernel⟩, List.mem_of_getElem? (i := 8) (by decide +kernel), List.mem_of_getElem? (i := 498) (by decide +kernel), List.mem_of_getElem? (i := 499) (by decide +kernel)⟩
theorem lw_p23 : lw_okq (⟨"LampMothsModel", "readStreet", "()I"⟩, 35) := ⟨⟨by decide +kernel, by decide +kernel⟩, List.mem_of_getElem? (i := 510) (by decide +kernel), List.mem_of_getElem? (i := 638) (by decide +kernel), List.mem_of_getElem? (i := 639) (by decide +kernel)⟩
theorem lw_p24 : lw_okq (⟨"LampMothsModel", "figure", "(II)I"⟩, 35) := ⟨⟨by decide +kernel, by decide +kernel⟩, List.mem_of_getElem? (i := 510) (by decide +kernel), List.mem_of_getElem? (i := 642) (by decide +kernel), List.mem_of_getElem? (i := 643) (by decide +kernel)⟩
theorem lw_p25 : lw_okq (⟨"LampMothsModel", "readPart", "()Z"⟩, 35) := ⟨⟨by decide +kernel, by decide +kernel⟩, List.mem_of_getElem? (i := 510) (by decide +kernel), List.mem_of_getElem? (i := 646) (by decide +kernel), List.mem_of_getElem? (i := 647) (by decide +kernel)⟩
theorem lw_p26 : lw_okq (⟨"LampMothsModel", "readOneWindow", "()Z"⟩, 35) := ⟨⟨by decide +kernel, by decide +kernel⟩, List.mem_of_getElem? (i := 510) (by decide +kernel), List.mem_of_getElem? (i := 650) (by decide +kernel), List.mem_of_getElem? (i := 651) (by decide +kernel)⟩
theorem lw_p27 : lw_okq (⟨"LampMothsModel", "readPlace", "()I"⟩, 35) := ⟨⟨by decide +kernel, by decide +kernel⟩, List.mem_of_getElem? (i := 510) (by decide +kernel), List.mem_of_getElem? (i := 654) (by decide +kernel), List.mem_of_getElem? (i := 655) (by decide +kernel)⟩
theorem lw_p28 : lw_okq (⟨"LampMothsModel", "readOneMoth", "()Z"⟩, 35) := ⟨⟨by decide +kernel, by decide +kernel⟩, List.mem_of_getElem? (i := 510) (by decide +kernel), List.mem_of_getElem? (i := 659) (by decide +kernel), List.mem_of_getElem? (i := 660) (by decide +kernel)⟩
theorem lw_p29 : lw_okq (⟨"LampMothsModel", "paid", "([I)I"⟩, 35) := ⟨⟨by decide +kernel, by decide +kernel⟩, List.mem_of_getElem? (i := 510) (by decide +kernel), List.mem_of_getElem? (i := 671) (by decide +kernel), List.mem_of_getElem? (i := 672) (by decide +kernel)⟩
theorem lw_p30 : lw_okq (⟨"LampMothsModel", "layOwed", "([I)I"⟩, 35) := ⟨⟨by decide +kernel, by decide +kernel⟩, List.mem_of_getElem? (i := 510) (by decide +kernel), List.mem_of_getElem? (i := 675) (by decide +kernel), List.mem_of_getElem? (i := 676) (by decide +kernel)⟩
theorem lw_p31 : lw_okq (⟨"LampMothsModel", "strongest", "([II)I"⟩, 35) := ⟨⟨by decide +kernel, by decide +kernel⟩, List.mem_of_getElem? (i := 510) (by decide +kernel), List.mem_of_getElem? (i := 679) (by decide +kernel), List.mem_of_getElem? (i := 680) (by decide +kernel)⟩
def lw_privs_2 : List (MethodName × Nat) := [(⟨"LampMoths", "blewOnTrial", "(I)Z"⟩, 15), (⟨"LampMoths", "movedOnTrial", "(I)Z"⟩, 15), (⟨"LampMoths", "reckonGroups", "()V"⟩, 15), (⟨"LampMoths", "ordersWith", "(I)I"⟩, 15), (⟨"LampMoths", "trialFitsCounted", "()Z"⟩, 15), (⟨"LampMoths", "gain", "(IIII)I"⟩, 15), (⟨"LampMoths", "passWeekOnTrial", "(I)V"⟩, 15), (⟨"LampMothsModel", "readStreet", "()I"⟩, 35), (⟨"LampMothsModel", "figure", "(II)I"⟩, 35), (⟨"LampMothsModel", "readPart", "()Z"⟩, 35), (⟨"LampMothsModel", "readOneWindow", "()Z"⟩, 35), (⟨"LampMothsModel", "readPlace", "()I"⟩, 35), (⟨"LampMothsModel", "readOneMoth", "()Z"⟩, 35), (⟨"LampMothsModel", "paid", "([I)I"⟩, 35), (⟨"LampMothsModel", "layOwed", "([I)I"⟩, 35), (⟨"LampMothsModel", "strongest", "([II)I"⟩, 35)]
theorem lw_r2 : ∀ q ∈ lw_privs_2, lw_okq q := List.forall_mem_cons.mpr ⟨lw_p16, List.forall_mem_cons.mpr ⟨lw_p17, List.forall_mem_cons.mpr ⟨lw_p18, List.forall_mem_cons.mpr ⟨lw_p19, List.forall_mem_cons.mpr ⟨lw_p20, List.forall_mem_cons.mpr ⟨lw_p21, List.forall_mem_cons.mpr ⟨lw_p22, List.forall_mem_cons.mpr ⟨lw_p23, List.forall_mem_cons.mpr ⟨lw_p24, List.forall_mem_cons.mpr ⟨lw_p25, List.forall_mem_cons.mpr ⟨lw_p26, List.forall_mem_cons.mpr ⟨lw_p27, List.forall_mem_cons.mpr ⟨lw_p28, List.forall_mem_cons.mpr ⟨lw_p29, List.forall_mem_cons.mpr ⟨lw_p30, List.forall_mem_cons.mpr ⟨lw_p31, fun _ h => absurd h List.not_mem_nil⟩⟩⟩⟩⟩⟩⟩⟩⟩⟩⟩⟩⟩⟩⟩⟩
theorem lw_p32 : lw_okq (⟨"LampMothsModel", "pullOf", "([III)I"⟩, 35) := ⟨⟨by decide +kernel, by decide +kernel⟩, List.mem_of_getElem? (i := 510) (by decide +kernel), List.mem_of_getElem? (i := 683) (by decide +kernel), List.mem_of_getElem? (i := 684) (by decide +kernel)⟩
theorem lw_p33 : lw_okq (⟨"LampMothsModel", "readers", "([I)I"⟩, 35) := ⟨⟨by decide +kernel, by decide +kernel⟩, List.mem_of_getElem? (i := 510) (by decide +kernel), List.mem_of_getElem? (i := 693) (by decide +kernel), List.mem_of_getElem? (i := 694) (by decide +kernel)⟩
theorem lw_p34 : lw_okq (⟨"LampMothsModel", "reads", "([II)Z"⟩, 35) := ⟨⟨by decide +kernel, by decide +kernel⟩, List.mem_of_getElem? (i := 510) (by decide +kernel), List.mem_of_getElem? (i := 697) (by decide +kernel), List.mem_of_getElem? (i := 698) (by decide +kernel)⟩
theorem lw_p35 : lw_okq (⟨"LampMothsModel", "noWindow", "(I)Z"⟩, 35) := ⟨⟨by decide +kernel, by decide +kernel⟩, List.mem_of_getElem? (i := 510) (by decide +kernel), List.mem_of_getElem? (i := 706) (by decide +kernel), List.mem_of_getElem? (i := 707) (by decide +kernel)⟩
theorem lw_p36 : lw_okq (⟨"LampMothsModel", "noMoth", "(I)Z"⟩, 35) := ⟨⟨by decide +kernel, by decide +kernel⟩, List.mem_of_getElem? (i := 510) (by decide +kernel), List.mem_of_getElem? (i := 714) (by decide +kernel), List.mem_of_getElem? (i := 715) (by decide +kernel)⟩
theorem lw_p37 : lw_okq (⟨"LampMothsModel", "turned", "(II)I"⟩, 35) := ⟨⟨by decide +kernel, by decide +kernel⟩, List.mem_of_getElem? (i := 510) (by decide +kernel), List.mem_of_getElem? (i := 726) (by decide +kernel), List.mem_of_getElem? (i := 727) (by decide +kernel)⟩
theorem lw_p38 : lw_okq (⟨"LampMothsModel", "note", "()V"⟩, 35) := ⟨⟨by decide +kernel, by decide +kernel⟩, List.mem_of_getElem? (i := 510) (by decide +kernel), List.mem_of_getElem? (i := 731) (by decide +kernel), List.mem_of_getElem? (i := 732) (by decide +kernel)⟩
theorem lw_p39 : lw_okq (⟨"LampMothsModel", "goNight", "([I)I"⟩, 35) := ⟨⟨by decide +kernel, by decide +kernel⟩, List.mem_of_getElem? (i := 510) (by decide +kernel), List.mem_of_getElem? (i := 752) (by decide +kernel), List.mem_of_getElem? (i := 753) (by decide +kernel)⟩
theorem lw_p40 : lw_okq (⟨"LampMothsModel", "leastOf", "(I)I"⟩, 35) := ⟨⟨by decide +kernel, by decide +kernel⟩, List.mem_of_getElem? (i := 510) (by decide +kernel), List.mem_of_getElem? (i := 756) (by decide +kernel), List.mem_of_getElem? (i := 757) (by decide +kernel)⟩
theorem lw_p41 : lw_okq (⟨"LampMothsModel", "owesBy", "(III)Z"⟩, 35) := ⟨⟨by decide +kernel, by decide +kernel⟩, List.mem_of_getElem? (i := 510) (by decide +kernel), List.mem_of_getElem? (i := 769) (by decide +kernel), List.mem_of_getElem? (i := 770) (by decide +kernel)⟩
theorem lw_p42 : lw_okq (⟨"LampMothsModel", "begin", "()V"⟩, 35) := ⟨⟨by decide +kernel, by decide +kernel⟩, List.mem_of_getElem? (i := 510) (by decide +kernel), List.mem_of_getElem? (i := 773) (by decide +kernel), List.mem_of_getElem? (i := 774) (by decide +kernel)⟩
theorem lw_p43 : lw_okq (⟨"LampMothsModel", "findCheap", "()V"⟩, 35) := ⟨⟨by decide +kernel, by decide +kernel⟩, List.mem_of_getElem? (i := 510) (by decide +kernel), List.mem_of_getElem? (i := 781) (by decide +kernel), List.mem_of_getElem? (i := 782) (by decide +kernel)⟩
theorem lw_p44 : lw_okq (⟨"LampMothsModel", "findMoving", "()V"⟩, 35) := ⟨⟨by decide +kernel, by decide +kernel⟩, List.mem_of_getElem? (i := 510) (by decide +kernel), List.mem_of_getElem? (i := 792) (by decide +kernel), List.mem_of_getElem? (i := 793) (by decide +kernel)⟩
theorem lw_p45 : lw_okq (⟨"LampMothsModel", "isFree", "(I)Z"⟩, 35) := ⟨⟨by decide +kernel, by decide +kernel⟩, List.mem_of_getElem? (i := 510) (by decide +kernel), List.mem_of_getElem? (i := 796) (by decide +kernel), List.mem_of_getElem? (i := 797) (by decide +kernel)⟩
theorem lw_p46 : lw_okq (⟨"LampMothsModel", "does", "(I)Z"⟩, 35) := ⟨⟨by decide +kernel, by decide +kernel⟩, List.mem_of_getElem? (i := 510) (by decide +kernel), List.mem_of_getElem? (i := 805) (by decide +kernel), List.mem_of_getElem? (i := 806) (by decide +kernel)⟩
theorem lw_p47 : lw_okq (⟨"LampMothsModel", "findRests", "(II)V"⟩, 35) := ⟨⟨by decide +kernel, by decide +kernel⟩, List.mem_of_getElem? (i := 510) (by decide +kernel), List.mem_of_getElem? (i := 838) (by decide +kernel), List.mem_of_getElem? (i := 839) (by decide +kernel)⟩
def lw_privs_3 : List (MethodName × Nat) := [(⟨"LampMothsModel", "pullOf", "([III)I"⟩, 35), (⟨"LampMothsModel", "readers", "([I)I"⟩, 35), (⟨"LampMothsModel", "reads", "([II)Z"⟩, 35), (⟨"LampMothsModel", "noWindow", "(I)Z"⟩, 35), (⟨"LampMothsModel", "noMoth", "(I)Z"⟩, 35), (⟨"LampMothsModel", "turned", "(II)I"⟩, 35), (⟨"LampMothsModel", "note", "()V"⟩, 35), (⟨"LampMothsModel", "goNight", "([I)I"⟩, 35), (⟨"LampMothsModel", "leastOf", "(I)I"⟩, 35), (⟨"LampMothsModel", "owesBy", "(III)Z"⟩, 35), (⟨"LampMothsModel", "begin", "()V"⟩, 35), (⟨"LampMothsModel", "findCheap", "()V"⟩, 35), (⟨"LampMothsModel", "findMoving", "()V"⟩, 35), (⟨"LampMothsModel", "isFree", "(I)Z"⟩, 35), (⟨"LampMothsModel", "does", "(I)Z"⟩, 35), (⟨"LampMothsModel", "findRests", "(II)V"⟩, 35)]
theorem lw_r3 : ∀ q ∈ lw_privs_3, lw_okq q := List.forall_mem_cons.mpr ⟨lw_p32, List.forall_mem_cons.mpr ⟨lw_p33, List.forall_mem_cons.mpr ⟨lw_p34, List.forall_mem_cons.mpr ⟨lw_p35, List.forall_mem_cons.mpr ⟨lw_p36, List.forall_mem_cons.mpr ⟨lw_p37, List.forall_mem_cons.mpr ⟨lw_p38, List.forall_mem_cons.mpr ⟨lw_p39, List.forall_mem_cons.mpr ⟨lw_p40, List.forall_mem_cons.mpr ⟨lw_p41, List.forall_mem_cons.mpr ⟨lw_p42, List.forall_mem_cons.mpr ⟨lw_p43, List.forall_mem_cons.mpr ⟨lw_p44, List.forall_mem_cons.mpr ⟨lw_p45, List.forall_mem_cons.mpr ⟨lw_p46, List.forall_mem_cons.mpr ⟨lw_p47, fun _ h => absurd h List.not_mem_nil⟩⟩⟩⟩⟩⟩⟩⟩⟩⟩⟩⟩⟩⟩⟩⟩
theorem lw_p48 : lw_okq (⟨"LampMothsModel", "gainOf", "(II)I"⟩, 35) := ⟨⟨by decide +kernel, by decide +kernel⟩, List.mem_of_getElem? (i := 510) (by decide +kernel), List.mem_of_getElem? (i := 842) (by decide +kernel), List.mem_of_getElem? (i := 843) (by decide +kernel)⟩
def lw_privs_4 : List (MethodName × Nat) := [(⟨"LampMothsModel", "gainOf", "(II)I"⟩, 35)]
theorem lw_r4 : ∀ q ∈ lw_privs_4, lw_okq q := List.forall_mem_cons.mpr ⟨lw_p48, fun _ h => absurd h List.not_mem_nil⟩
def lw_privs : List (MethodName × Nat) := lw_privs_1 ++ (lw_privs_2 ++ (lw_privs_3 ++ (lw_privs_4)))
def lw_tbl : List Cond := k2_sels lw_privs ++ tables_1
theorem lw_privs_ok : ∀ q ∈ lw_privs, lw_okq q := by
  show ∀ q ∈ lw_privs_1 ++ (lw_privs_2 ++ (lw_privs_3 ++ (lw_privs_4))), lw_okq q
  exact List.forall_mem_append.mpr ⟨lw_r1, List.forall_mem_append.mpr ⟨lw_r2, List.forall_mem_append.mpr ⟨lw_r3, lw_r4⟩⟩⟩
end
section
def R_Ln : String := "LampMoths$Lane"
def T_Ln : u_T := fun k => match k with
  | 0 => ("LampMoths$Lane", "spots", "[I", true)
  | 1 => ("LampMoths$Lane", "burns", "[I", true)
  | 2 => ("LampMoths$Lane", "kinds", "[I", true)
  | 3 => ("LampMoths$Lane", "paid", "[I", true)
  | 4 => ("LampMoths$Lane", "seats", "[I", true)
  | 5 => ("LampMoths$Lane", "sorts", "[I", true)
  | 6 => ("LampMoths$Lane", "windows", "I", false)
  | 7 => ("LampMoths$Lane", "moths", "I", false)
  | 8 => ("LampMoths$Lane", "wind", "I", false)
  | 9 => ("LampMoths$Lane", "honey", "I", false)
  | 10 => ("LampMoths$Lane", "nights", "I", false)
  | _ => ("LampMoths$Lane", "dues", "[I", true)
def t_Ln : Nat → FieldType := fun k => match k with
  | 0 => .array .int
  | 1 => .array .int
  | 2 => .array .int
  | 3 => .array .int
  | 4 => .array .int
  | 5 => .array .int
  | 6 => .int
  | 7 => .int
  | 8 => .int
  | 9 => .int
  | 10 => .int
  | _ => .array .int
theorem n_Ln : ∀ a, a < 12 → ∀ b, b < 12 → a ≠ b → (T_Ln a).2.1 ≠ (T_Ln b).2.1 := by decide +kernel
theorem t_Ln_ok : ∀ k, k < 12 → parseFieldDescriptor (T_Ln k).2.2.1 = some (t_Ln k) := by decide +kernel
theorem i_Ln : ∀ w ∈ u_ws R_Ln T_Ln 12, w ∈ lw_tbl := by
  intro w hw
  have e : u_ws R_Ln T_Ln 12 = ([97, 99, 101, 103, 105, 107, 109, 111, 113, 115, 117, 119]).filterMap (fun i => lw_tbl[i]?) := by decide +kernel
  rw [e] at hw
  obtain ⟨i, -, hi⟩ := List.mem_filterMap.mp hw
  exact List.mem_of_getElem? hi
def R_Rd : String := "LampMoths$Reader"
def T_Rd : u_T := fun k => match k with
  | 0 => ("LampMoths$Reader", "due", "I", false)
  | 1 => ("LampMoths$Reader", "place", "I", false)
  | _ => ("LampMoths$Reader", "burns", "I", false)
def t_Rd : Nat → FieldType := fun k => match k with
  | 0 => .int
  | 1 => .int
  | _ => .int
theorem n_Rd : ∀ a, a < 3 → ∀ b, b < 3 → a ≠ b → (T_Rd a).2.1 ≠ (T_Rd b).2.1 := by decide +kernel
theorem t_Rd_ok : ∀ k, k < 3 → parseFieldDescriptor (T_Rd k).2.2.1 = some (t_Rd k) := by decide +kernel
theorem i_Rd : ∀ w ∈ u_ws R_Rd T_Rd 3, w ∈ lw_tbl := by
  intro w hw
  have e : u_ws R_Rd T_Rd 3 = ([132, 134, 136]).filterMap (fun i => lw_tbl[i]?) := by decide +kernel
  rw [e] at hw
  obtain ⟨i, -, hi⟩ := List.mem_filterMap.mp hw
  exact List.mem_of_getElem? hi
def R_Lm : String := "LampMoths"
def T_Lm : u_T := fun k => match k with
  | 0 => ("LampMoths", "text", "[I", true)
  | 1 => ("LampMoths", "length", "I", false)
  | 2 => ("LampMoths", "now", "LLampMoths$Lane;", true)
  | 3 => ("LampMoths", "trial", "LLampMoths$Lane;", true)
  | 4 => ("LampMoths", "reader", "LLampMoths$Reader;", true)
  | 5 => ("LampMoths", "acts", "[[I", true)
  | 6 => ("LampMoths", "actsHeld", "I", false)
  | 7 => ("LampMoths", "slots", "[[I", true)
  | 8 => ("LampMoths", "slotUsed", "[Z", true)
  | 9 => ("LampMoths", "countedWindows", "[I", true)
  | 10 => ("LampMoths", "countedWinds", "[I", true)
  | 11 => ("LampMoths", "countedSums", "[I", true)
  | 12 => ("LampMoths", "countsHeld", "I", false)
  | 13 => ("LampMoths", "groupOwes", "[I", true)
  | _ => ("LampMoths", "chance", "J", false)
def t_Lm : Nat → FieldType := fun k => match k with
  | 0 => .array .int
  | 1 => .int
  | 2 => .object "LampMoths$Lane"
  | 3 => .object "LampMoths$Lane"
  | 4 => .object "LampMoths$Reader"
  | 5 => .array (.array .int)
  | 6 => .int
  | 7 => .array (.array .int)
  | 8 => .array .boolean
  | 9 => .array .int
  | 10 => .array .int
  | 11 => .array .int
  | 12 => .int
  | 13 => .array .int
  | _ => .long
theorem n_Lm : ∀ a, a < 15 → ∀ b, b < 15 → a ≠ b → (T_Lm a).2.1 ≠ (T_Lm b).2.1 := by decide +kernel
theorem t_Lm_ok : ∀ k, k < 15 → parseFieldDescriptor (T_Lm k).2.2.1 = some (t_Lm k) := by decide +kernel
theorem i_Lm : ∀ w ∈ u_ws R_Lm T_Lm 15, w ∈ lw_tbl := by
  intro w hw
  have e : u_ws R_Lm T_Lm 15 = ([156, 158, 160, 162, 164, 166, 168, 170, 172, 174, 176, 178, 180, 182, 184]).filterMap (fun i => lw_tbl[i]?) := by decide +kernel
  rw [e] at hw
  obtain ⟨i, -, hi⟩ := List.mem_filterMap.mp hw
  exact List.mem_of_getElem? hi
def R_Md : String := "LampMothsModel"
def T_Md : u_T := fun k => match k with
  | 0 => ("LampMothsModel", "thrown", "I", false)
  | 1 => ("LampMothsModel", "text", "[I", true)
  | 2 => ("LampMothsModel", "textSize", "I", false)
  | 3 => ("LampMothsModel", "place", "I", false)
  | 4 => ("LampMothsModel", "windows", "I", false)
  | 5 => ("LampMothsModel", "windowKind", "[I", true)
  | 6 => ("LampMothsModel", "moths", "I", false)
  | 7 => ("LampMothsModel", "mothKind", "[I", true)
  | 8 => ("LampMothsModel", "readWind", "I", false)
  | 9 => ("LampMothsModel", "readHoney", "I", false)
  | 10 => ("LampMothsModel", "readWindows", "I", false)
  | 11 => ("LampMothsModel", "readWindow", "[I", true)
  | 12 => ("LampMothsModel", "readMoths", "I", false)
  | 13 => ("LampMothsModel", "readMoth", "[I", true)
  | 14 => ("LampMothsModel", "page", "[I", true)
  | 15 => ("LampMothsModel", "trial", "[I", true)
  | 16 => ("LampMothsModel", "book", "[I", true)
  | 17 => ("LampMothsModel", "acts", "I", false)
  | 18 => ("LampMothsModel", "kept", "[I", true)
  | 19 => ("LampMothsModel", "isKept", "[Z", true)
  | 20 => ("LampMothsModel", "counted", "I", false)
  | 21 => ("LampMothsModel", "countedWindow", "[I", true)
  | 22 => ("LampMothsModel", "countedWind", "[I", true)
  | 23 => ("LampMothsModel", "countedTax", "[I", true)
  | 24 => ("LampMothsModel", "seed", "J", false)
  | 25 => ("LampMothsModel", "draws", "[I", true)
  | 26 => ("LampMothsModel", "owed", "[I", true)
  | 27 => ("LampMothsModel", "cheapMuch", "I", false)
  | 28 => ("LampMothsModel", "cheapRow", "I", false)
  | 29 => ("LampMothsModel", "movedWhich", "I", false)
  | 30 => ("LampMothsModel", "movedMuch", "I", false)
  | 31 => ("LampMothsModel", "restMany", "I", false)
  | 32 => ("LampMothsModel", "restFirst", "I", false)
  | 33 => ("LampMothsModel", "gains", "[I", true)
  | _ => ("LampMothsModel", "value", "[I", true)
def t_Md : Nat → FieldType := fun k => match k with
  | 0 => .int
  | 1 => .array .int
  | 2 => .int
  | 3 => .int
  | 4 => .int
  | 5 => .array .int
  | 6 => .int
  | 7 => .array .int
  | 8 => .int
  | 9 => .int
  | 10 => .int
  | 11 => .array .int
  | 12 => .int
  | 13 => .array .int
  | 14 => .array .int
  | 15 => .array .int
  | 16 => .array .int
  | 17 => .int
  | 18 => .array .int
  | 19 => .array .boolean
  | 20 => .int
  | 21 => .array .int
  | 22 => .array .int
  | 23 => .array .int
  | 24 => .long
  | 25 => .array .int
  | 26 => .array .int
  | 27 => .int
  | 28 => .int
  | 29 => .int
  | 30 => .int
  | 31 => .int
  | 32 => .int
  | 33 => .array .int
  | _ => .array .int
theorem n_Md : ∀ a, a < 35 → ∀ b, b < 35 → a ≠ b → (T_Md a).2.1 ≠ (T_Md b).2.1 := by decide +kernel
theorem t_Md_ok : ∀ k, k < 35 → parseFieldDescriptor (T_Md k).2.2.1 = some (t_Md k) := by decide +kernel
theorem i_Md : ∀ w ∈ u_ws R_Md T_Md 35, w ∈ lw_tbl := by
  intro w hw
  have e : u_ws R_Md T_Md 35 = ([599, 601, 603, 605, 607, 609, 611, 613, 615, 617, 619, 621, 623, 625, 627, 629, 631, 633, 635, 637, 639, 641, 643, 645, 647, 649, 651, 653, 655, 657, 659, 661, 663, 665, 667]).filterMap (fun i => lw_tbl[i]?) := by decide +kernel
  rw [e] at hw
  obtain ⟨i, -, hi⟩ := List.mem_filterMap.mp hw
  exact List.mem_of_getElem? hi
abbrev classes : List vw_C := [(R_Ln, T_Ln, 12), (R_Rd, T_Rd, 3), (R_Lm, T_Lm, 15), (R_Md, T_Md, 35)]
abbrev MI : Type := MethodName × ByteArray × Nat × Option FieldType × Room
def M_Lm_init : MI := (⟨"LampMoths", "<init>", "()V"⟩, prog_1_method_1_code, 1, none, { frames := 2, cells := 41, slots := 529, locals := 44 })
def M_Ln_init : MI := (⟨"LampMoths$Lane", "<init>", "()V"⟩, prog_2_method_1_code, 1, none, { frames := 1, cells := 7, slots := 37, locals := 24 })
def M_Rd_init : MI := (⟨"LampMoths$Reader", "<init>", "()V"⟩, prog_3_method_1_code, 1, none, { frames := 1, cells := 0, slots := 0, locals := 24 })
def M_Lm_write : MI := (⟨"LampMoths", "write", "(I)I"⟩, prog_1_method_2_code, 2, (some .int), { frames := 0, cells := 0, slots := 0, locals := 0 })
def M_Lm_wipe : MI := (⟨"LampMoths", "wipe", "()I"⟩, prog_1_method_3_code, 2, (some .int), { frames := 0, cells := 0, slots := 0, locals := 0 })
def M_Lm_fault : MI := (⟨"LampMoths", "fault", "()I"⟩, prog_1_method_4_code, 1, (some .int), { frames := 4, cells := 0, slots := 0, locals := 90 })
def M_Lm_readInto : MI := (⟨"LampMoths", "readInto", "(LLampMoths$Lane;)I"⟩, prog_1_method_33_code, 3, (some .int), { frames := 3, cells := 0, slots := 0, locals := 68 })
def M_Rd_begin : MI := (⟨"LampMoths$Reader", "begin", "(LLampMoths$Lane;)V"⟩, prog_3_method_2_code, 2, none, { frames := 1, cells := 0, slots := 0, locals := 20 })
def M_Ln_clear : MI := (⟨"LampMoths$Lane", "clear", "()V"⟩, prog_2_method_2_code, 1, none, { frames := 0, cells := 0, slots := 0, locals := 0 })
def M_Rd_takes : MI := (⟨"LampMoths$Reader", "takes", "(ILLampMoths$Lane;)Z"⟩, prog_3_method_4_code, 4, (some .boolean), { frames := 2, cells := 0, slots := 0, locals := 45 })
def M_Rd_goesOn : MI := (⟨"LampMoths$Reader", "goesOn", "(ZI)Z"⟩, prog_3_method_5_code, 3, (some .boolean), { frames := 0, cells := 0, slots := 0, locals := 0 })
def M_Rd_takesPart : MI := (⟨"LampMoths$Reader", "takesPart", "(ILLampMoths$Lane;)Z"⟩, prog_3_method_6_code, 3, (some .boolean), { frames := 1, cells := 0, slots := 0, locals := 22 })
def M_Rd_takesFigure : MI := (⟨"LampMoths$Reader", "takesFigure", "(ILLampMoths$Lane;)Z"⟩, prog_3_method_7_code, 3, (some .boolean), { frames := 1, cells := 0, slots := 0, locals := 23 })
def M_Lm_isWind : MI := (⟨"LampMoths", "isWind", "(I)Z"⟩, prog_1_method_30_code, 1, (some .boolean), { frames := 0, cells := 0, slots := 0, locals := 0 })
def M_Ln_isFree : MI := (⟨"LampMoths$Lane", "isFree", "(I)Z"⟩, prog_2_method_10_code, 3, (some .boolean), { frames := 0, cells := 0, slots := 0, locals := 0 })
def M_Ln_addWindow : MI := (⟨"LampMoths$Lane", "addWindow", "(III)Z"⟩, prog_2_method_3_code, 4, (some .boolean), { frames := 0, cells := 0, slots := 0, locals := 0 })
def M_Ln_addMoth : MI := (⟨"LampMoths$Lane", "addMoth", "(II)Z"⟩, prog_2_method_4_code, 3, (some .boolean), { frames := 0, cells := 0, slots := 0, locals := 0 })
def M_Rd_mayEnd : MI := (⟨"LampMoths$Reader", "mayEnd", "()Z"⟩, prog_3_method_3_code, 1, (some .boolean), { frames := 0, cells := 0, slots := 0, locals := 0 })
def M_Lm_street : MI := (⟨"LampMoths", "street", "()I"⟩, prog_1_method_5_code, 2, (some .int), { frames := 4, cells := 0, slots := 0, locals := 90 })
def M_Ln_copyFrom : MI := (⟨"LampMoths$Lane", "copyFrom", "(LLampMoths$Lane;)V"⟩, prog_2_method_5_code, 3, none, { frames := 0, cells := 0, slots := 0, locals := 0 })
def M_Lm_about : MI := (⟨"LampMoths", "about", "(I)I"⟩, prog_1_method_6_code, 2, (some .int), { frames := 5, cells := 0, slots := 0, locals := 114 })
def M_Ln_paidByAll : MI := (⟨"LampMoths$Lane", "paidByAll", "()I"⟩, prog_2_method_23_code, 3, (some .int), { frames := 0, cells := 0, slots := 0, locals := 0 })
def M_Ln_owedByAll : MI := (⟨"LampMoths$Lane", "owedByAll", "()I"⟩, prog_2_method_22_code, 3, (some .int), { frames := 4, cells := 0, slots := 0, locals := 92 })
def M_Ln_reckon : MI := (⟨"LampMoths$Lane", "reckon", "()V"⟩, prog_2_method_19_code, 2, none, { frames := 3, cells := 0, slots := 0, locals := 71 })
def M_Ln_drawersOf : MI := (⟨"LampMoths$Lane", "drawersOf", "(I)I"⟩, prog_2_method_16_code, 6, (some .int), { frames := 2, cells := 0, slots := 0, locals := 46 })
def M_Ln_tug : MI := (⟨"LampMoths$Lane", "tug", "(II)I"⟩, prog_2_method_11_code, 4, (some .int), { frames := 1, cells := 0, slots := 0, locals := 23 })
def M_Ln_hasWindow : MI := (⟨"LampMoths$Lane", "hasWindow", "(I)Z"⟩, prog_2_method_8_code, 2, (some .boolean), { frames := 0, cells := 0, slots := 0, locals := 0 })
def M_Ln_hasMoth : MI := (⟨"LampMoths$Lane", "hasMoth", "(I)Z"⟩, prog_2_method_9_code, 2, (some .boolean), { frames := 0, cells := 0, slots := 0, locals := 0 })
def M_Jm_abs : MI := (⟨"java/lang/Math", "abs", "(I)I"⟩, prog_7_method_59_code, 1, (some .int), { frames := 0, cells := 0, slots := 0, locals := 0 })
def M_Ln_glow : MI := (⟨"LampMoths$Lane", "glow", "(I)I"⟩, prog_2_method_12_code, 2, (some .int), { frames := 0, cells := 0, slots := 0, locals := 0 })
def M_Ln_windHelp : MI := (⟨"LampMoths$Lane", "windHelp", "(II)I"⟩, prog_2_method_13_code, 4, (some .int), { frames := 0, cells := 0, slots := 0, locals := 0 })
def M_Ln_sweetness : MI := (⟨"LampMoths$Lane", "sweetness", "(II)I"⟩, prog_2_method_14_code, 3, (some .int), { frames := 0, cells := 0, slots := 0, locals := 0 })
def M_Jm_max : MI := (⟨"java/lang/Math", "max", "(II)I"⟩, prog_7_method_65_code, 2, (some .int), { frames := 0, cells := 0, slots := 0, locals := 0 })
def M_Ln_taxOf : MI := (⟨"LampMoths$Lane", "taxOf", "(I)I"⟩, prog_2_method_18_code, 2, (some .int), { frames := 0, cells := 0, slots := 0, locals := 0 })
def M_Ln_charge : MI := (⟨"LampMoths$Lane", "charge", "(II)V"⟩, prog_2_method_20_code, 5, none, { frames := 1, cells := 0, slots := 0, locals := 20 })
def M_Ji_bitCount : MI := (⟨"java/lang/Integer", "bitCount", "(I)I"⟩, prog_6_method_49_code, 1, (some .int), { frames := 0, cells := 0, slots := 0, locals := 0 })
def M_Ln_readers : MI := (⟨"LampMoths$Lane", "readers", "()I"⟩, prog_2_method_25_code, 3, (some .int), { frames := 2, cells := 0, slots := 0, locals := 43 })
def M_Ln_reads : MI := (⟨"LampMoths$Lane", "reads", "(I)Z"⟩, prog_2_method_24_code, 3, (some .boolean), { frames := 1, cells := 0, slots := 0, locals := 21 })
def M_Lm_window : MI := (⟨"LampMoths", "window", "(II)I"⟩, prog_1_method_7_code, 3, (some .int), { frames := 5, cells := 0, slots := 0, locals := 113 })
def M_Ln_owedBy : MI := (⟨"LampMoths$Lane", "owedBy", "(I)I"⟩, prog_2_method_21_code, 2, (some .int), { frames := 4, cells := 0, slots := 0, locals := 92 })
def M_Ln_mothsDrawnBy : MI := (⟨"LampMoths$Lane", "mothsDrawnBy", "(I)I"⟩, prog_2_method_17_code, 4, (some .int), { frames := 3, cells := 0, slots := 0, locals := 71 })
def M_Lm_moth : MI := (⟨"LampMoths", "moth", "(II)I"⟩, prog_1_method_8_code, 3, (some .int), { frames := 3, cells := 0, slots := 0, locals := 71 })
def M_Ln_greatestTugOn : MI := (⟨"LampMoths$Lane", "greatestTugOn", "(I)I"⟩, prog_2_method_15_code, 4, (some .int), { frames := 2, cells := 0, slots := 0, locals := 46 })
def M_Lm_pull : MI := (⟨"LampMoths", "pull", "(II)I"⟩, prog_1_method_9_code, 3, (some .int), { frames := 2, cells := 0, slots := 0, locals := 46 })
def M_Lm_up : MI := (⟨"LampMoths", "up", "(I)I"⟩, prog_1_method_10_code, 2, (some .int), { frames := 4, cells := 0, slots := 0, locals := 87 })
def M_Lm_turned : MI := (⟨"LampMoths", "turned", "(II)I"⟩, prog_1_method_34_code, 3, (some .int), { frames := 3, cells := 0, slots := 0, locals := 65 })
def M_Ln_canTurn : MI := (⟨"LampMoths$Lane", "canTurn", "(II)Z"⟩, prog_2_method_27_code, 3, (some .boolean), { frames := 1, cells := 0, slots := 0, locals := 21 })
def M_Lm_remember : MI := (⟨"LampMoths", "remember", "()V"⟩, prog_1_method_35_code, 1, none, { frames := 1, cells := 0, slots := 0, locals := 22 })
def M_Lm_forgetFirstAct : MI := (⟨"LampMoths", "forgetFirstAct", "()V"⟩, prog_1_method_36_code, 3, none, { frames := 0, cells := 0, slots := 0, locals := 0 })
def M_Ln_save : MI := (⟨"LampMoths$Lane", "save", "([I)V"⟩, prog_2_method_6_code, 3, none, { frames := 0, cells := 0, slots := 0, locals := 0 })
def M_Ln_turn : MI := (⟨"LampMoths$Lane", "turn", "(II)Z"⟩, prog_2_method_28_code, 3, (some .boolean), { frames := 2, cells := 0, slots := 0, locals := 43 })
def M_Lm_down : MI := (⟨"LampMoths", "down", "(I)I"⟩, prog_1_method_11_code, 2, (some .int), { frames := 4, cells := 0, slots := 0, locals := 87 })
def M_Lm_blow : MI := (⟨"LampMoths", "blow", "(I)I"⟩, prog_1_method_12_code, 3, (some .int), { frames := 2, cells := 0, slots := 0, locals := 42 })
def M_Lm_move : MI := (⟨"LampMoths", "move", "(I)I"⟩, prog_1_method_13_code, 3, (some .int), { frames := 2, cells := 0, slots := 0, locals := 42 })
def M_Lm_isHoneyPlace : MI := (⟨"LampMoths", "isHoneyPlace", "(I)Z"⟩, prog_1_method_31_code, 1, (some .boolean), { frames := 0, cells := 0, slots := 0, locals := 0 })
def M_Lm_night : MI := (⟨"LampMoths", "night", "()I"⟩, prog_1_method_14_code, 1, (some .int), { frames := 5, cells := 0, slots := 0, locals := 114 })
def M_Ln_passNight : MI := (⟨"LampMoths$Lane", "passNight", "()I"⟩, prog_2_method_29_code, 3, (some .int), { frames := 4, cells := 0, slots := 0, locals := 92 })
def M_Ln_flyNearer : MI := (⟨"LampMoths$Lane", "flyNearer", "(II)V"⟩, prog_2_method_30_code, 4, none, { frames := 1, cells := 0, slots := 0, locals := 21 })
def M_Ji_numberOfTrailingZeros : MI := (⟨"java/lang/Integer", "numberOfTrailingZeros", "(I)I"⟩, prog_6_method_48_code, 2, (some .int), { frames := 0, cells := 0, slots := 0, locals := 0 })
def M_Ji_compare : MI := (⟨"java/lang/Integer", "compare", "(II)I"⟩, prog_6_method_40_code, 2, (some .int), { frames := 0, cells := 0, slots := 0, locals := 0 })
def M_Lm_undo : MI := (⟨"LampMoths", "undo", "()I"⟩, prog_1_method_15_code, 1, (some .int), { frames := 1, cells := 0, slots := 0, locals := 22 })
def M_Ln_load : MI := (⟨"LampMoths$Lane", "load", "([I)V"⟩, prog_2_method_7_code, 3, none, { frames := 0, cells := 0, slots := 0, locals := 0 })
def M_Lm_dim : MI := (⟨"LampMoths", "dim", "(II)I"⟩, prog_1_method_16_code, 5, (some .int), { frames := 6, cells := 0, slots := 0, locals := 136 })
def M_Lm_isSum : MI := (⟨"LampMoths", "isSum", "(I)Z"⟩, prog_1_method_32_code, 1, (some .boolean), { frames := 0, cells := 0, slots := 0, locals := 0 })
def M_Lm_owesAtMost : MI := (⟨"LampMoths", "owesAtMost", "(III)Z"⟩, prog_1_method_37_code, 4, (some .boolean), { frames := 5, cells := 0, slots := 0, locals := 113 })
def M_Lm_cheap : MI := (⟨"LampMoths", "cheap", "(Z)I"⟩, prog_1_method_17_code, 7, (some .int), { frames := 5, cells := 0, slots := 0, locals := 114 })
def M_Lm_power : MI := (⟨"LampMoths", "power", "(II)I"⟩, prog_1_method_46_code, 4, (some .int), { frames := 0, cells := 0, slots := 0, locals := 0 })
def M_Ln_burnByThrees : MI := (⟨"LampMoths$Lane", "burnByThrees", "(I)V"⟩, prog_2_method_32_code, 4, none, { frames := 0, cells := 0, slots := 0, locals := 0 })
def M_Ln_allRead : MI := (⟨"LampMoths$Lane", "allRead", "()Z"⟩, prog_2_method_26_code, 1, (some .boolean), { frames := 3, cells := 0, slots := 0, locals := 65 })
def M_Ln_burnsAsRow : MI := (⟨"LampMoths$Lane", "burnsAsRow", "()I"⟩, prog_2_method_33_code, 3, (some .int), { frames := 0, cells := 0, slots := 0, locals := 0 })
def M_Lm_moving : MI := (⟨"LampMoths", "moving", "(I)I"⟩, prog_1_method_18_code, 7, (some .int), { frames := 5, cells := 0, slots := 0, locals := 114 })
def M_Lm_judge : MI := (⟨"LampMoths", "judge", "(II)I"⟩, prog_1_method_19_code, 7, (some .int), { frames := 4, cells := 0, slots := 0, locals := 87 })
def M_Lm_didOnTrial : MI := (⟨"LampMoths", "didOnTrial", "(II)Z"⟩, prog_1_method_38_code, 3, (some .boolean), { frames := 3, cells := 0, slots := 0, locals := 65 })
def M_Lm_blewOnTrial : MI := (⟨"LampMoths", "blewOnTrial", "(I)Z"⟩, prog_1_method_39_code, 2, (some .boolean), { frames := 1, cells := 0, slots := 0, locals := 20 })
def M_Lm_movedOnTrial : MI := (⟨"LampMoths", "movedOnTrial", "(I)Z"⟩, prog_1_method_40_code, 2, (some .boolean), { frames := 1, cells := 0, slots := 0, locals := 20 })
def M_Lm_share : MI := (⟨"LampMoths", "share", "(IZ)I"⟩, prog_1_method_20_code, 8, (some .int), { frames := 6, cells := 0, slots := 0, locals := 137 })
def M_Lm_reckonGroups : MI := (⟨"LampMoths", "reckonGroups", "()V"⟩, prog_1_method_41_code, 4, none, { frames := 5, cells := 0, slots := 0, locals := 114 })
def M_Lm_ordersWith : MI := (⟨"LampMoths", "ordersWith", "(I)I"⟩, prog_1_method_42_code, 2, (some .int), { frames := 1, cells := 0, slots := 0, locals := 22 })
def M_Lm_factorial : MI := (⟨"LampMoths", "factorial", "(I)I"⟩, prog_1_method_47_code, 3, (some .int), { frames := 0, cells := 0, slots := 0, locals := 0 })
def M_Lm_told : MI := (⟨"LampMoths", "told", "(IIZ)I"⟩, prog_1_method_48_code, 4, (some .int), { frames := 1, cells := 0, slots := 0, locals := 25 })
def M_Lm_commonDivisor : MI := (⟨"LampMoths", "commonDivisor", "(II)I"⟩, prog_1_method_49_code, 6, (some .int), { frames := 0, cells := 0, slots := 0, locals := 0 })
def M_Lm_count : MI := (⟨"LampMoths", "count", "(III)I"⟩, prog_1_method_21_code, 4, (some .int), { frames := 1, cells := 0, slots := 0, locals := 21 })
def M_Lm_forget : MI := (⟨"LampMoths", "forget", "()I"⟩, prog_1_method_22_code, 2, (some .int), { frames := 0, cells := 0, slots := 0, locals := 0 })
def M_Lm_honeys : MI := (⟨"LampMoths", "honeys", "()I"⟩, prog_1_method_23_code, 3, (some .int), { frames := 6, cells := 0, slots := 0, locals := 135 })
def M_Lm_trialFitsCounted : MI := (⟨"LampMoths", "trialFitsCounted", "()Z"⟩, prog_1_method_43_code, 3, (some .boolean), { frames := 5, cells := 0, slots := 0, locals := 113 })
def M_Lm_rests : MI := (⟨"LampMoths", "rests", "(III)I"⟩, prog_1_method_24_code, 11, (some .int), { frames := 6, cells := 0, slots := 0, locals := 137 })
def M_Lm_gain : MI := (⟨"LampMoths", "gain", "(IIII)I"⟩, prog_1_method_44_code, 5, (some .int), { frames := 5, cells := 0, slots := 0, locals := 113 })
def M_Lm_clouds : MI := (⟨"LampMoths", "clouds", "(IIZ)I"⟩, prog_1_method_25_code, 8, (some .int), { frames := 5, cells := 0, slots := 0, locals := 114 })
def M_Ln_cloud : MI := (⟨"LampMoths$Lane", "cloud", "(I)V"⟩, prog_2_method_31_code, 3, none, { frames := 1, cells := 0, slots := 0, locals := 21 })
def M_Lm_seed : MI := (⟨"LampMoths", "seed", "(J)J"⟩, prog_1_method_26_code, 5, (some .long), { frames := 0, cells := 0, slots := 0, locals := 0 })
def M_Lm_weeks : MI := (⟨"LampMoths", "weeks", "(I)I"⟩, prog_1_method_27_code, 3, (some .int), { frames := 6, cells := 0, slots := 0, locals := 135 })
def M_Lm_passWeekOnTrial : MI := (⟨"LampMoths", "passWeekOnTrial", "(I)V"⟩, prog_1_method_45_code, 2, none, { frames := 5, cells := 0, slots := 0, locals := 114 })
def M_Lm_keep : MI := (⟨"LampMoths", "keep", "(I)I"⟩, prog_1_method_28_code, 2, (some .int), { frames := 1, cells := 0, slots := 0, locals := 22 })
def M_Lm_again : MI := (⟨"LampMoths", "again", "(I)I"⟩, prog_1_method_29_code, 2, (some .int), { frames := 1, cells := 0, slots := 0, locals := 22 })
def M_Md_init : MI := (⟨"LampMothsModel", "<init>", "()V"⟩, prog_5_method_1_code, 1, none, { frames := 1, cells := 17, slots := 597, locals := 24 })
def M_Md_write : MI := (⟨"LampMothsModel", "write", "(I)I"⟩, prog_5_method_8_code, 2, (some .int), { frames := 1, cells := 0, slots := 0, locals := 25 })
def M_Md_in : MI := (⟨"LampMothsModel", "in", "(JJJ)Z"⟩, prog_5_method_3_code, 6, (some .boolean), { frames := 0, cells := 0, slots := 0, locals := 0 })
def M_Md_wipe : MI := (⟨"LampMothsModel", "wipe", "()I"⟩, prog_5_method_9_code, 2, (some .int), { frames := 0, cells := 0, slots := 0, locals := 0 })
def M_Md_fault : MI := (⟨"LampMothsModel", "fault", "()I"⟩, prog_5_method_16_code, 1, (some .int), { frames := 5, cells := 0, slots := 0, locals := 112 })
def M_Md_readStreet : MI := (⟨"LampMothsModel", "readStreet", "()I"⟩, prog_5_method_15_code, 1, (some .int), { frames := 4, cells := 0, slots := 0, locals := 92 })
def M_Md_figure : MI := (⟨"LampMothsModel", "figure", "(II)I"⟩, prog_5_method_10_code, 3, (some .int), { frames := 1, cells := 0, slots := 0, locals := 25 })
def M_Md_readPart : MI := (⟨"LampMothsModel", "readPart", "()Z"⟩, prog_5_method_14_code, 2, (some .boolean), { frames := 3, cells := 0, slots := 0, locals := 71 })
def M_Md_readOneWindow : MI := (⟨"LampMothsModel", "readOneWindow", "()Z"⟩, prog_5_method_12_code, 4, (some .boolean), { frames := 2, cells := 0, slots := 0, locals := 48 })
def M_Md_readPlace : MI := (⟨"LampMothsModel", "readPlace", "()I"⟩, prog_5_method_11_code, 4, (some .int), { frames := 1, cells := 0, slots := 0, locals := 25 })
def M_Md_readOneMoth : MI := (⟨"LampMothsModel", "readOneMoth", "()Z"⟩, prog_5_method_13_code, 3, (some .boolean), { frames := 2, cells := 0, slots := 0, locals := 47 })
def M_Md_street : MI := (⟨"LampMothsModel", "street", "()I"⟩, prog_5_method_17_code, 2, (some .int), { frames := 5, cells := 0, slots := 0, locals := 112 })
def M_Md_about : MI := (⟨"LampMothsModel", "about", "(I)I"⟩, prog_5_method_24_code, 2, (some .int), { frames := 3, cells := 0, slots := 0, locals := 76 })
def M_Md_paid : MI := (⟨"LampMothsModel", "paid", "([I)I"⟩, prog_5_method_23_code, 4, (some .int), { frames := 0, cells := 0, slots := 0, locals := 0 })
def M_Md_layOwed : MI := (⟨"LampMothsModel", "layOwed", "([I)I"⟩, prog_5_method_20_code, 6, (some .int), { frames := 2, cells := 0, slots := 0, locals := 51 })
def M_Md_strongest : MI := (⟨"LampMothsModel", "strongest", "([II)I"⟩, prog_5_method_19_code, 6, (some .int), { frames := 1, cells := 0, slots := 0, locals := 26 })
def M_Md_pullOf : MI := (⟨"LampMothsModel", "pullOf", "([III)I"⟩, prog_5_method_18_code, 7, (some .int), { frames := 0, cells := 0, slots := 0, locals := 0 })
def M_Md_has : MI := (⟨"LampMothsModel", "has", "(II)Z"⟩, prog_5_method_4_code, 2, (some .boolean), { frames := 0, cells := 0, slots := 0, locals := 0 })
def M_Md_many : MI := (⟨"LampMothsModel", "many", "(I)I"⟩, prog_5_method_5_code, 3, (some .int), { frames := 0, cells := 0, slots := 0, locals := 0 })
def M_Md_readers : MI := (⟨"LampMothsModel", "readers", "([I)I"⟩, prog_5_method_22_code, 4, (some .int), { frames := 2, cells := 0, slots := 0, locals := 50 })
def M_Md_reads : MI := (⟨"LampMothsModel", "reads", "([II)Z"⟩, prog_5_method_21_code, 6, (some .boolean), { frames := 1, cells := 0, slots := 0, locals := 25 })
def M_Md_window : MI := (⟨"LampMothsModel", "window", "(II)I"⟩, prog_5_method_25_code, 5, (some .int), { frames := 3, cells := 0, slots := 0, locals := 76 })
def M_Md_noWindow : MI := (⟨"LampMothsModel", "noWindow", "(I)Z"⟩, prog_5_method_6_code, 2, (some .boolean), { frames := 1, cells := 0, slots := 0, locals := 25 })
def M_Md_moth : MI := (⟨"LampMothsModel", "moth", "(II)I"⟩, prog_5_method_26_code, 3, (some .int), { frames := 3, cells := 0, slots := 0, locals := 76 })
def M_Md_noMoth : MI := (⟨"LampMothsModel", "noMoth", "(I)Z"⟩, prog_5_method_7_code, 2, (some .boolean), { frames := 1, cells := 0, slots := 0, locals := 25 })
def M_Md_pull : MI := (⟨"LampMothsModel", "pull", "(II)I"⟩, prog_5_method_27_code, 3, (some .int), { frames := 2, cells := 0, slots := 0, locals := 46 })
def M_Md_up : MI := (⟨"LampMothsModel", "up", "(I)I"⟩, prog_5_method_30_code, 2, (some .int), { frames := 3, cells := 0, slots := 0, locals := 68 })
def M_Md_turned : MI := (⟨"LampMothsModel", "turned", "(II)I"⟩, prog_5_method_29_code, 3, (some .int), { frames := 2, cells := 0, slots := 0, locals := 46 })
def M_Md_note : MI := (⟨"LampMothsModel", "note", "()V"⟩, prog_5_method_28_code, 2, none, { frames := 0, cells := 0, slots := 0, locals := 0 })
def M_Md_down : MI := (⟨"LampMothsModel", "down", "(I)I"⟩, prog_5_method_31_code, 2, (some .int), { frames := 3, cells := 0, slots := 0, locals := 68 })
def M_Md_blow : MI := (⟨"LampMothsModel", "blow", "(I)I"⟩, prog_5_method_32_code, 3, (some .int), { frames := 1, cells := 0, slots := 0, locals := 25 })
def M_Md_move : MI := (⟨"LampMothsModel", "move", "(I)I"⟩, prog_5_method_33_code, 3, (some .int), { frames := 1, cells := 0, slots := 0, locals := 25 })
def M_Md_night : MI := (⟨"LampMothsModel", "night", "()I"⟩, prog_5_method_36_code, 1, (some .int), { frames := 4, cells := 0, slots := 0, locals := 101 })
def M_Md_goNight : MI := (⟨"LampMothsModel", "goNight", "([I)I"⟩, prog_5_method_35_code, 6, (some .int), { frames := 3, cells := 0, slots := 0, locals := 76 })
def M_Md_leastOf : MI := (⟨"LampMothsModel", "leastOf", "(I)I"⟩, prog_5_method_34_code, 4, (some .int), { frames := 1, cells := 0, slots := 0, locals := 21 })
def M_Md_undo : MI := (⟨"LampMothsModel", "undo", "()I"⟩, prog_5_method_37_code, 2, (some .int), { frames := 0, cells := 0, slots := 0, locals := 0 })
def M_Md_dim : MI := (⟨"LampMothsModel", "dim", "(II)I"⟩, prog_5_method_41_code, 4, (some .int), { frames := 4, cells := 0, slots := 0, locals := 99 })
def M_Md_owesBy : MI := (⟨"LampMothsModel", "owesBy", "(III)Z"⟩, prog_5_method_40_code, 4, (some .boolean), { frames := 3, cells := 0, slots := 0, locals := 76 })
def M_Md_begin : MI := (⟨"LampMothsModel", "begin", "()V"⟩, prog_5_method_38_code, 2, none, { frames := 0, cells := 0, slots := 0, locals := 0 })
def M_Md_cheap : MI := (⟨"LampMothsModel", "cheap", "(Z)I"⟩, prog_5_method_43_code, 2, (some .int), { frames := 4, cells := 0, slots := 0, locals := 99 })
def M_Md_findCheap : MI := (⟨"LampMothsModel", "findCheap", "()V"⟩, prog_5_method_42_code, 4, none, { frames := 3, cells := 0, slots := 0, locals := 76 })
def M_Md_power : MI := (⟨"LampMothsModel", "power", "(II)I"⟩, prog_5_method_39_code, 4, (some .int), { frames := 0, cells := 0, slots := 0, locals := 0 })
def M_Md_moving : MI := (⟨"LampMothsModel", "moving", "(I)I"⟩, prog_5_method_46_code, 2, (some .int), { frames := 4, cells := 0, slots := 0, locals := 99 })
def M_Md_findMoving : MI := (⟨"LampMothsModel", "findMoving", "()V"⟩, prog_5_method_45_code, 4, none, { frames := 3, cells := 0, slots := 0, locals := 76 })
def M_Md_isFree : MI := (⟨"LampMothsModel", "isFree", "(I)Z"⟩, prog_5_method_44_code, 4, (some .boolean), { frames := 0, cells := 0, slots := 0, locals := 0 })
def M_Md_judge : MI := (⟨"LampMothsModel", "judge", "(II)I"⟩, prog_5_method_48_code, 4, (some .int), { frames := 5, cells := 0, slots := 0, locals := 126 })
def M_Md_does : MI := (⟨"LampMothsModel", "does", "(I)Z"⟩, prog_5_method_47_code, 6, (some .boolean), { frames := 4, cells := 0, slots := 0, locals := 101 })
def M_Md_share : MI := (⟨"LampMothsModel", "share", "(IZ)I"⟩, prog_5_method_52_code, 6, (some .int), { frames := 3, cells := 0, slots := 0, locals := 76 })
def M_Md_ways : MI := (⟨"LampMothsModel", "ways", "(I)I"⟩, prog_5_method_49_code, 3, (some .int), { frames := 0, cells := 0, slots := 0, locals := 0 })
def M_Md_fraction : MI := (⟨"LampMothsModel", "fraction", "(IIZ)I"⟩, prog_5_method_51_code, 4, (some .int), { frames := 1, cells := 0, slots := 0, locals := 24 })
def M_Md_divisor : MI := (⟨"LampMothsModel", "divisor", "(II)I"⟩, prog_5_method_50_code, 5, (some .int), { frames := 0, cells := 0, slots := 0, locals := 0 })
def M_Md_count : MI := (⟨"LampMothsModel", "count", "(III)I"⟩, prog_5_method_53_code, 4, (some .int), { frames := 2, cells := 0, slots := 0, locals := 46 })
def M_Md_forget : MI := (⟨"LampMothsModel", "forget", "()I"⟩, prog_5_method_54_code, 2, (some .int), { frames := 0, cells := 0, slots := 0, locals := 0 })
def M_Md_honeys : MI := (⟨"LampMothsModel", "honeys", "()I"⟩, prog_5_method_55_code, 5, (some .int), { frames := 3, cells := 0, slots := 0, locals := 76 })
def M_Md_rests : MI := (⟨"LampMothsModel", "rests", "(III)I"⟩, prog_5_method_58_code, 4, (some .int), { frames := 4, cells := 0, slots := 0, locals := 100 })
def M_Md_findRests : MI := (⟨"LampMothsModel", "findRests", "(II)V"⟩, prog_5_method_57_code, 5, none, { frames := 3, cells := 0, slots := 0, locals := 76 })
def M_Md_gainOf : MI := (⟨"LampMothsModel", "gainOf", "(II)I"⟩, prog_5_method_56_code, 3, (some .int), { frames := 2, cells := 0, slots := 0, locals := 50 })
def M_Md_clouds : MI := (⟨"LampMothsModel", "clouds", "(IIZ)I"⟩, prog_5_method_59_code, 8, (some .int), { frames := 3, cells := 0, slots := 0, locals := 76 })
def M_Md_seed : MI := (⟨"LampMothsModel", "seed", "(J)J"⟩, prog_5_method_60_code, 5, (some .long), { frames := 0, cells := 0, slots := 0, locals := 0 })
def M_Md_weeks : MI := (⟨"LampMothsModel", "weeks", "(I)I"⟩, prog_5_method_61_code, 4, (some .int), { frames := 5, cells := 0, slots := 0, locals := 126 })
def M_Md_keep : MI := (⟨"LampMothsModel", "keep", "(I)I"⟩, prog_5_method_62_code, 3, (some .int), { frames := 1, cells := 0, slots := 0, locals := 25 })
def M_Md_again : MI := (⟨"LampMothsModel", "again", "(I)I"⟩, prog_5_method_63_code, 3, (some .int), { frames := 1, cells := 0, slots := 0, locals := 25 })
end
section
/-! A flat picture of the heap: the cells that the law makes lie at base, base + 1, ..; h has their ints, longs, references; sh their shapes -/
abbrev Hp : Type := (Nat → Nat → Int32) × (Nat → Nat → Int64) × (Nat → Nat → Option Nat)
def gI (h : Hp) (a k : Nat) : Int32 := h.1 a k
def gL (h : Hp) (a k : Nat) : Int64 := h.2.1 a k
def gR (h : Hp) (a k : Nat) : Option Nat := h.2.2 a k
def sI (h : Hp) (a k : Nat) (v : Int32) : Hp := (fun b j => if b = a ∧ j = k then v else h.1 b j, h.2.1, h.2.2)
def sL (h : Hp) (a k : Nat) (v : Int64) : Hp := (h.1, fun b j => if b = a ∧ j = k then v else h.2.1 b j, h.2.2)
def sR (h : Hp) (a k : Nat) (v : Option Nat) : Hp := (h.1, h.2.1, fun b j => if b = a ∧ j = k then v else h.2.2 b j)
theorem gI_sI (h : Hp) (a k : Nat) (v : Int32) (b j : Nat) : gI (sI h a k v) b j = if b = a ∧ j = k then v else gI h b j := rfl
theorem gL_sI (h : Hp) (a k : Nat) (v : Int32) (b j : Nat) : gL (sI h a k v) b j = gL h b j := rfl
theorem gR_sI (h : Hp) (a k : Nat) (v : Int32) (b j : Nat) : gR (sI h a k v) b j = gR h b j := rfl
theorem gI_sL (h : Hp) (a k : Nat) (v : Int64) (b j : Nat) : gI (sL h a k v) b j = gI h b j := rfl
theorem gL_sL (h : Hp) (a k : Nat) (v : Int64) (b j : Nat) : gL (sL h a k v) b j = if b = a ∧ j = k then v else gL h b j := rfl
theorem gR_sL (h : Hp) (a k : Nat) (v : Int64) (b j : Nat) : gR (sL h a k v) b j = gR h b j := rfl
theorem gI_sR (h : Hp) (a k : Nat) (v : Option Nat) (b j : Nat) : gI (sR h a k v) b j = gI h b j := rfl
theorem gL_sR (h : Hp) (a k : Nat) (v : Option Nat) (b j : Nat) : gL (sR h a k v) b j = gL h b j := rfl
theorem gR_sR (h : Hp) (a k : Nat) (v : Option Nat) (b j : Nat) : gR (sR h a k v) b j = if b = a ∧ j = k then v else gR h b j := rfl
/-- a shape: an array (its type: 0 int, 1 boolean, 2 int[]; its length), or an object (its class's number; its fields: 0 int, 1 long, 2 a reference with what it is) -/
abbrev Sh : Type := (Nat × Nat) ⊕ (Nat × List (Nat × Option Nat))
def rfv (base : Nat) (r : Option Nat) : Option Nat := r.map (fun a => base + a)
def fv (base : Nat) (h : Hp) (a k : Nat) (f : Nat × Option Nat) : Value := match f.1 with
  | 0 => .int (gI h a k)
  | 1 => .long (gL h a k)
  | _ => va_rf (rfv base f.2)
def fvs (base : Nat) (h : Hp) (a : Nat) : Nat → List (Nat × Option Nat) → List Value
  | _, [] => []
  | k, f :: t => fv base h a k f :: fvs base h a (k + 1) t
def en (D : va_G) (base : Nat) (h : Hp) (a : Nat) (x : Sh) : va_E := match x with
  | .inl (0, n) => .inl (D.1 10, n, .inl (gI h a))
  | .inl (1, n) => .inl (D.1 11, n, .inl (gI h a))
  | .inl (_, n) => .inl (D.1 12, n, .inr (.inr (.inr (.inr (fun k => rfv base (gR h a k))))))
  | .inr (ci, fl) => .inr (ci, fvs base h a 0 fl)
def wl (D : va_G) (base : Nat) (sh : List Sh) (h : Hp) : va_W := sh.mapIdx (fun i x => (base + i, en D base h i x))
def szs : List Sh → Nat
  | [] => 0
  | .inl (_, n) :: t => n + szs t
  | .inr (_, fl) :: t => fl.length + szs t
def up (base : Nat) (v : Value) : Value := match v with
  | .ref a => .ref (base + a)
  | w => w
theorem up_cat (base : Nat) (v : Value) : (up base v).category = v.category := by cases v <;> rfl
theorem wl_get (D : va_G) (base : Nat) (sh : List Sh) (h : Hp) {a : Nat} {x : Sh} (hx : sh[a]? = some x) : (wl D base sh h)[a]? = some (base + a, en D base h a x) := by
  unfold wl
  rw [List.getElem?_mapIdx, hx]
  rfl
theorem wl_inv {D : va_G} {base : Nat} {sh : List Sh} {h : Hp} {a : Nat} {q : Nat × va_E} (hq : (wl D base sh h)[a]? = some q) : ∃ x, sh[a]? = some x ∧ q = (base + a, en D base h a x) := by
  unfold wl at hq
  rw [List.getElem?_mapIdx] at hq
  cases hx : sh[a]? with
  | none => rw [hx] at hq; cases hq
  | some x => rw [hx] at hq; cases hq; exact ⟨x, rfl, rfl⟩
theorem wl_D (D : va_G) (base : Nat) (sh : List Sh) (h : Hp) : va_D (fun q => base ≤ q) (wl D base sh h) := by
  refine ⟨fun i j p q hi hj e => ?_, fun k q hk => ?_⟩
  · obtain ⟨x, -, rfl⟩ := wl_inv hi
    obtain ⟨y, -, rfl⟩ := wl_inv hj
    have e2 : base + i = base + j := e
    omega
  · obtain ⟨x, -, rfl⟩ := wl_inv hk
    exact Nat.le_add_right _ _
theorem wl_set {D : va_G} {base : Nat} {sh : List Sh} {h h' : Hp} {a : Nat} {x x' : Sh} {e : va_E} (hx : sh[a]? = some x) (he : e = en D base h' a x') (ho : ∀ b y, b ≠ a → sh[b]? = some y → en D base h' b y = en D base h b y) : (wl D base sh h).set a (base + a, e) = wl D base (sh.set a x') h' := by
  apply List.ext_getElem?
  intro k
  have hl : a < sh.length := (List.getElem?_eq_some_iff.mp hx).1
  by_cases hk : k = a
  · subst hk
    rw [List.getElem?_set_self (by unfold wl; rw [List.length_mapIdx]; exact hl)]
    rw [wl_get D base (sh.set k x') h' (x := x') (List.getElem?_set_self hl), he]
  · rw [List.getElem?_set_ne (Ne.symm hk)]
    have e2 : (sh.set a x')[k]? = sh[k]? := List.getElem?_set_ne (Ne.symm hk)
    unfold wl
    rw [List.getElem?_mapIdx, List.getElem?_mapIdx, e2]
    cases hy : sh[k]? with
    | none => rfl
    | some y => 
      show some (base + k, en D base h k y) = some (base + k, en D base h' k y)
      rw [ho k y hk hy]
theorem set_same {α : Type} {l : List α} {a : Nat} {x : α} (h : l[a]? = some x) : l.set a x = l := by
  apply List.ext_getElem?
  intro k
  by_cases hk : k = a
  · subst hk
    rw [List.getElem?_set_self (List.getElem?_eq_some_iff.mp h).1, h]
  · rw [List.getElem?_set_ne (Ne.symm hk)]
theorem fvs_ext {base : Nat} {h h' : Hp} {a : Nat} : ∀ (fl : List (Nat × Option Nat)) (k : Nat), (∀ j, gI h' a j = gI h a j) → (∀ j, gL h' a j = gL h a j) → fvs base h' a k fl = fvs base h a k fl
  | [], _, _, _ => rfl
  | f :: t, k, h1, h2 => by
    show fv base h' a k f :: fvs base h' a (k + 1) t = fv base h a k f :: fvs base h a (k + 1) t
    rw [fvs_ext t (k + 1) h1 h2]
    unfold fv
    rw [h1, h2]
theorem en_ext {D : va_G} {base : Nat} {h h' : Hp} {a : Nat} (x : Sh) (h1 : ∀ j, gI h' a j = gI h a j) (h2 : ∀ j, gL h' a j = gL h a j) (h3 : ∀ j, gR h' a j = gR h a j) : en D base h' a x = en D base h a x := by
  have e1 : gI h' a = gI h a := funext h1
  have e3 : gR h' a = gR h a := funext h3
  rcases x with ⟨t, n⟩ | ⟨ci, fl⟩
  · match t with
    | 0 => simp only [en, e1]
    | 1 => simp only [en, e1]
    | t + 2 => simp only [en, e3]
  · simp only [en]
    rw [fvs_ext fl 0 h1 h2]
theorem fvs_get {base : Nat} {h : Hp} {a : Nat} : ∀ (fl : List (Nat × Option Nat)) (k j : Nat) {f : Nat × Option Nat}, fl[j]? = some f → (fvs base h a k fl)[j]? = some (fv base h a (k + j) f)
  | [], _, j, _, e => by simp at e
  | g :: t, k, 0, f, e => by
    rw [List.getElem?_cons_zero] at e
    cases e
    rfl
  | g :: t, k, j + 1, f, e => by
    rw [List.getElem?_cons_succ] at e
    show (fvs base h a (k + 1) t)[j]? = _
    rw [fvs_get t (k + 1) j e, show k + 1 + j = k + (j + 1) by omega]
theorem fvs_len {base : Nat} {h : Hp} {a : Nat} : ∀ (fl : List (Nat × Option Nat)) (k : Nat), (fvs base h a k fl).length = fl.length
  | [], _ => rfl
  | g :: t, k => by
    show (fvs base h a (k + 1) t).length + 1 = t.length + 1
    rw [fvs_len t (k + 1)]
theorem fvs_set {base : Nat} {h h' : Hp} {a : Nat} : ∀ (fl : List (Nat × Option Nat)) (k j : Nat) {f f' : Nat × Option Nat} {v : Value}, fl[j]? = some f → v = fv base h' a (k + j) f' → (∀ i y, i ≠ k + j → fv base h' a i y = fv base h a i y) → (fvs base h a k fl).set j v = fvs base h' a k (fl.set j f')
  | [], _, j, _, _, _, e, _, _ => by simp at e
  | g :: t, k, 0, f, f', v, e, hv, ho => by
    show v :: fvs base h a (k + 1) t = fv base h' a k f' :: fvs base h' a (k + 1) t
    rw [hv]
    have : ∀ (l : List (Nat × Option Nat)) (i : Nat), k < i → fvs base h a i l = fvs base h' a i l := by
      intro l
      induction l with
      | nil => intro i _; rfl
      | cons y l ih =>
        intro i hi
        show fv base h a i y :: fvs base h a (i + 1) l = fv base h' a i y :: fvs base h' a (i + 1) l
        rw [ih (i + 1) (by omega), ho i y (by omega)]
    rw [this t (k + 1) (by omega)]
    rfl
  | g :: t, k, j + 1, f, f', v, e, hv, ho => by
    rw [List.getElem?_cons_succ] at e
    show fv base h a k g :: (fvs base h a (k + 1) t).set j v = fv base h' a k g :: fvs base h' a (k + 1) (t.set j f')
    rw [fvs_set t (k + 1) j e (by rw [hv, show k + 1 + j = k + (j + 1) by omega]) (fun i y hi => ho i y (by omega)), ho k g (by omega)]
/-! locals -/
def lget : List (Option Value) → Nat → Option Value
  | [], _ => none
  | v :: _, 0 => v
  | _ :: t, n + 1 => lget t n
def lset : List (Option Value) → Nat → Option Value → List (Option Value)
  | [], _, _ => []
  | _ :: t, 0, v => v :: t
  | a :: t, n + 1, v => a :: lset t n v
def lvl (base : Nat) : Nat → List (Option Value) → List (Nat × Value)
  | _, [] => []
  | i, none :: t => lvl base (i + 1) t
  | i, some v :: t => (i, up base v) :: lvl base (i + 1) t
/-- the place before i holds no long -/
def okst : List (Option Value) → Nat → Bool
  | _, 0 => true
  | ls, i + 1 => match lget ls i with
    | some (.long _) => false
    | some (.double _) => false
    | _ => true
theorem lvl_get {base : Nat} : ∀ (ls : List (Option Value)) (i0 i : Nat) {v : Value}, lget ls i = some v → (i0 + i, up base v) ∈ lvl base i0 ls
  | [], _, _, _, e => by cases e
  | a :: t, i0, 0, v, e => by
    have e2 : a = some v := e
    subst e2
    exact List.mem_cons_self
  | a :: t, i0, i + 1, v, e => by
    have h := lvl_get (base := base) t (i0 + 1) i (v := v) e
    rw [show i0 + 1 + i = i0 + (i + 1) by omega] at h
    cases a with
    | none => exact h
    | some w => exact List.mem_cons_of_mem _ h
theorem lvl_inv {base : Nat} : ∀ (ls : List (Option Value)) (i0 : Nat) {q : Nat × Value}, q ∈ lvl base i0 ls → ∃ i v, lget ls i = some v ∧ q = (i0 + i, up base v)
  | [], _, _, h => by cases h
  | none :: t, i0, q, h => by
    obtain ⟨i, v, h1, h2⟩ := lvl_inv t (i0 + 1) (show q ∈ lvl base (i0 + 1) t from h)
    exact ⟨i + 1, v, h1, by rw [h2, show i0 + 1 + i = i0 + (i + 1) by omega]⟩
  | some w :: t, i0, q, h => by
    rcases List.mem_cons.mp (show q ∈ (i0, up base w) :: lvl base (i0 + 1) t from h) with h | h
    · exact ⟨0, w, rfl, h⟩
    · obtain ⟨i, v, h1, h2⟩ := lvl_inv t (i0 + 1) h
      exact ⟨i + 1, v, h1, by rw [h2, show i0 + 1 + i = i0 + (i + 1) by omega]⟩
theorem lget_lset : ∀ (ls : List (Option Value)) (i j : Nat) (o : Option Value) {v : Value}, lget (lset ls i o) j = some v → (j = i ∧ o = some v) ∨ (j ≠ i ∧ lget ls j = some v)
  | [], _, _, _, _, e => by cases e
  | a :: t, 0, 0, o, v, e => Or.inl ⟨rfl, e⟩
  | a :: t, 0, j + 1, o, v, e => Or.inr ⟨by omega, e⟩
  | a :: t, i + 1, 0, o, v, e => Or.inr ⟨by omega, e⟩
  | a :: t, i + 1, j + 1, o, v, e => by
    rcases lget_lset t i j o (v := v) e with ⟨h1, h2⟩ | ⟨h1, h2⟩
    · exact Or.inl ⟨by omega, h2⟩
    · exact Or.inr ⟨by omega, h2⟩
theorem okst_cat {ls : List (Option Value)} {i j : Nat} {v : Value} (ho : okst ls i = true) (hj : j + 1 = i) (hv : lget ls j = some v) : v.category = 1 := by
  subst hj
  have ho : (match lget ls j with
    | some (.long _) => false
    | some (.double _) => false
    | _ => true) = true := ho
  rw [hv] at ho
  cases v <;> first | rfl | cases ho
theorem lv_setI {base nL i : Nat} {ls : List (Option Value)} {A : Array Slot} {v : Value} (ho : okst ls i = true) (h : lv_has A nL ((i, up base v) :: (lvl base 0 ls).filter (fun q => !(q.1 == i) && !(q.1 + 1 == i && q.2.category == 2)))) : lv_has A nL (lvl base 0 (lset ls i (some v))) := by
  refine ⟨h.1, h.2.1, fun q hq => ?_⟩
  obtain ⟨j, w, h1, rfl⟩ := lvl_inv _ _ hq
  rw [Nat.zero_add]
  rcases lget_lset ls i j (some v) h1 with ⟨h2, h3⟩ | ⟨h2, h3⟩
  · have e3 := Option.some.inj h3
    subst e3
    subst h2
    exact h.2.2 _ List.mem_cons_self
  · refine h.2.2 (j, up base w) (List.mem_cons_of_mem _ (List.mem_filter.mpr ⟨?_, ?_⟩))
    · have := lvl_get (base := base) ls 0 j h3
      rwa [Nat.zero_add] at this
    · have hc : j + 1 = i → w.category = 1 := fun e => okst_cat ho e h3
      by_cases e : j + 1 = i
      · simp [h2, e, up_cat, hc e]
      · simp [h2, e]
theorem lv_setL {base nL i : Nat} {ls : List (Option Value)} {A : Array Slot} {v : Value} (ho : okst ls i = true) (h : lv_has A nL ((i, up base v) :: (lvl base 0 ls).filter (fun q => !(q.1 == i) && (!(q.1 == i + 1) && !(q.1 + 1 == i && q.2.category == 2))))) : lv_has A nL (lvl base 0 (lset (lset ls i (some v)) (i + 1) none)) := by
  refine ⟨h.1, h.2.1, fun q hq => ?_⟩
  obtain ⟨j, w, h1, rfl⟩ := lvl_inv _ _ hq
  rw [Nat.zero_add]
  rcases lget_lset _ (i + 1) j none h1 with ⟨h2, h3⟩ | ⟨h2', h3⟩
  · cases h3
  rcases lget_lset ls i j (some v) h3 with ⟨h2, h3⟩ | ⟨h2, h3⟩
  · have e3 := Option.some.inj h3
    subst e3
    subst h2
    exact h.2.2 _ List.mem_cons_self
  · refine h.2.2 (j, up base w) (List.mem_cons_of_mem _ (List.mem_filter.mpr ⟨?_, ?_⟩))
    · have := lvl_get (base := base) ls 0 j h3
      rwa [Nat.zero_add] at this
    · have hc : j + 1 = i → w.category = 1 := fun e => okst_cat ho e h3
      by_cases e : j + 1 = i
      · simp [h2, h2', e, up_cat, hc e]
      · simp [h2, h2', e]
/-! what is known of the tables at a method's entry -/
abbrev tysG (D : va_G) : List (ClassId × FieldType) := [(D.1 10, .int), (D.1 11, .boolean), (D.1 12, .array .int)]
def AOA (U : State) : Prop := (Cond.arrayOver (.array .int)).before #[] U = true
abbrev nw1 : Cond := .methodLinkNest "LampMoths" 19 ⟨"LampMoths$Lane", "<init>", "()V"⟩ "LampMoths"
abbrev nw2 : Cond := .methodLinkNest "LampMoths" 29 ⟨"LampMoths$Reader", "<init>", "()V"⟩ "LampMoths"
abbrev nw3 : Cond := .methodLinkNest "LampMoths$Reader" 46 ⟨"LampMoths", "isWind", "(I)Z"⟩ "LampMoths"
theorem AOA_spec {U : State} (h : AOA U) : ∃ comp c k, U.vm.findClass (FieldType.array .int).toString = some comp ∧ (U.vm.classes.findIdx? fun (x : Class) => match x.kind with | .array component _ => component == comp | _ => false) = some c ∧ U.vm.classes[c]? = some k ∧ k.kind = .array comp (.array .int) ∧ U.vm.findClass ("[" ++ (FieldType.array .int).toString) = some c := by
  unfold AOA Cond.before Cond.holds at h
  simp only [Cond.value, beq_iff_eq] at h
  cases hc : U.vm.findClass (FieldType.array .int).toString with
  | none => simp [hc] at h
  | some comp =>
    simp only [hc, Option.bind_some, Option.bind_eq_some_iff, Option.map_eq_some_iff] at h
    obtain ⟨c, hi, k, hk, hb⟩ := h
    obtain ⟨hlt, hp, -⟩ := Array.findIdx?_eq_some_iff_getElem.mp hi
    have hkk : U.vm.classes[c] = k := (Array.getElem?_eq_some_iff.mp hk).2
    rw [hkk] at hp
    cases hkind : k.kind with
    | array component ty =>
      rw [hkind] at hb hp
      simp at hb hp
      exact ⟨comp, c, k, rfl, hi, hk, by rw [hkind, hp, hb.1], hb.2⟩
    | _ => rw [hkind] at hb; simp at hb
theorem AOA.moved {u U : State} (hvm : u.vm.Alike U.vm) (h : AOA u) : AOA U := by
  obtain ⟨comp, c, k, h1, h2, h3, h4, h5⟩ := AOA_spec h
  obtain ⟨k', hk', he⟩ := hvm.2.2 _ _ h3
  have hi : (U.vm.classes.findIdx? fun (x : Class) => match x.kind with | .array component _ => component == comp | _ => false) = some c := by
    have e1 := va_idx_bare U.vm comp
    have e2 := va_idx_bare u.vm comp
    rw [hvm.bare_eq] at e1
    exact (e1.symm.trans e2).trans h2
  have hkind : k'.kind = .array comp (.array .int) := by rw [he]; exact h4
  have f1 : U.vm.findClass (FieldType.array .int).toString = some comp := by rw [hvm.findClass]; exact h1
  have f2 : U.vm.findClass ("[" ++ (FieldType.array .int).toString) = some c := by rw [hvm.findClass]; exact h5
  unfold AOA Cond.before Cond.holds
  simp only [Cond.value]
  rw [f1, Option.bind_some]
  refine (congrArg (fun o : Option Nat => (o.bind (fun c => (U.vm.classes[c]?).map fun (k : Class) => match k.kind with | .array _ ty => decide (ty = FieldType.array .int) && decide (U.vm.findClass ("[" ++ (FieldType.array .int).toString) = some c) | _ => false) == some true)) hi).trans ?_
  simp [hk', hkind, f2]
def KX (D : va_G) (U : State) : Prop := va_K D classes (tysG D) U ∧ va_Nw nw1 U ∧ va_Nw nw2 U ∧ va_Nw nw3 U ∧ AOA U
theorem KX.warm {D : va_G} {s U : State} (hW : s.WarmedH U.vm) (h : KX D s) : KX D U :=
  ⟨va_K.moved hW.alike h.1, va_Nw.warmM hW h.2.1, va_Nw.warmM hW h.2.2.1, va_Nw.warmM hW h.2.2.2.1, h.2.2.2.2.moved hW.alike⟩
theorem KX.same {D : va_G} {u U : State} (e : u.vm = U.vm) (h : KX D u) : KX D U :=
  ⟨va_K.moved (by rw [e]; exact Vm.Alike.refl U.vm) h.1, va_Nw.same rfl e h.2.1, va_Nw.same rfl e h.2.2.1, va_Nw.same rfl e h.2.2.2.1, h.2.2.2.2.moved (by rw [e]; exact Vm.Alike.refl U.vm)⟩
/-- the words that a call hands on -/
def lw_gt : List Cond := lw_tbl.filter goodWord
theorem gt_in {w : Cond} (h : w ∈ lw_gt) : w ∈ lw_tbl := (List.mem_filter.mp h).1
theorem gt_at {w : Cond} (i : Nat) (h : lw_tbl[i]? = some w) (hg : goodWord w = true) : w ∈ lw_gt := List.mem_filter.mpr ⟨List.mem_of_getElem? h, hg⟩
def wsM (M : MI) : List Cond := .code M.1 M.2.1 M.2.2.1 M.2.2.2.1 :: lw_gt
def CX (D : va_G) (base : Nat) (M : MI) (p : Program) (s : State) (m : MethodId) (args : Array Value) (meth : Method) (c : Code) : Prop :=
  p.tables.exec = Jvm.exec ∧ c.code = M.2.1 ∧ meth.sig.returnType = M.2.2.2.1 ∧ c.maxLocals = M.2.2.1 ∧ s.vm.findClass M.1.cls = some m.cls ∧ (∀ w ∈ lw_gt, w.before args s = true) ∧ meth.locks = false ∧ KX D s ∧ base ≤ s.heap.size ∧ meth.name = M.1.name
def PX (D : va_G) (base : Nat) (sh : List Sh) (h : Hp) (H : Heap) : Prop := H.size = base + sh.length ∧ va_P D classes (wl D base sh h) H
def QX (D : va_G) (base : Nat) (Q : List Sh → Hp → Option Value → Prop) : Array Value → State → Outcome → State → Prop := fun _ st oc t =>
  ∃ (sh : List Sh) (h : Hp) (r : Option Value), oc = .returned (r.map (up base)) ∧ Q sh h r ∧ PX D base sh h t.heap ∧ va_F (fun q => base ≤ q) st t
def WX (l : Launch) (D : va_G) (base : Nat) (z : Nat × Nat) (M : MI) (sh : List Sh) (pc : Nat) (ls : List (Option Value)) (st : List Value) (h : Hp) (Q : List Sh → Hp → Option Value → Prop) : Prop :=
  ∀ (p : Program) (e : Env) (s : State) (m : MethodId) (args : Array Value) (below : List Frame) (meth : Method) (c : Code), CX D base M p s m args meth c → ∀ (H : Heap) (locs : List Loc) (A : Array Slot), PX D base sh h H → va_S (fun q => base ≤ q) s.heap H locs → lv_has A M.2.2.1 (lvl base 0 ls) →
    W p l e M.2.2.2.2 s m args below meth c H locs (sh.length - z.1) (szs sh - z.2) (MQ below (QX D base Q) args s M.2.2.2.2.cells M.2.2.2.2.slots (fun q => base ≤ q)) (F0 m pc A (st.map (up base)))
/-- a method's contract, cells sh with contents h at its call -/
def SX (l : Launch) (D : va_G) (base : Nat) (M : MI) (sh : List Sh) (As : List Value) (h : Hp) (Q : List Sh → Hp → Option Value → Prop) : Prop :=
  Met l M.1 (wsM M) M.2.2.2.2 (va_Pc (As.map (up base)) (fun U => PX D base sh h U.heap ∧ KX D U)) (QX D base Q) M.2.2.2.2.cells M.2.2.2.2.slots (fun q => base ≤ q)
theorem SX.of {l : Launch} {D : va_G} {base : Nat} {M : MI} {sh : List Sh} {As : List Value} {h : Hp} {Q : List Sh → Hp → Option Value → Prop} (ls : List (Option Value)) (hy : plainName M.1.cls = true) (hls : lvl base 0 ls = lv_args 0 (As.map (up base))) (hn : (lg_sl (As.map (up base))).length ≤ M.2.2.1)
    (k : WX l D base (sh.length, szs sh) M sh 0 ls [] h Q) : SX l D base M sh As h Q := by
  refine Met.ofW (cc := M.2.1) (maxL := M.2.2.1) (ret := M.2.2.2.1) hy rfl ?_
  intro p e s m args below meth c s₁ B hml hv
  obtain ⟨rfl, hP, hK⟩ := hv
  have hts := atoms_spec (ws := wsM M) B.pre
  rw [lg_entry_eq]
  have hl := lv_entry (As.map (up base)) (n := M.2.2.1) hn
  rw [← hls] at hl
  have k1 := k p e s m _ below meth c ⟨B.exec, B.bytes, B.returns, hml, findClass_of_methodNamed B.named, fun w hw => hts w (List.mem_cons_of_mem _ hw), B.notSynchronized, hK, by have := hP.1; omega, (name_of_methodNamed B.named B.method).1⟩ s.heap [] _ hP va_S.rf hl
  rw [Nat.sub_self, Nat.sub_self] at k1
  exact k1
theorem wx_eq {l : Launch} {D : va_G} {base : Nat} {z : Nat × Nat} {M : MI} {sh : List Sh} {pc : Nat} {ls ls' : List (Option Value)} {st st' : List Value} {h h' : Hp} {Q : List Sh → Hp → Option Value → Prop} (k : WX l D base z M sh pc ls' st' h' Q) (h1 : ls = ls') (h2 : st = st') (h3 : h = h') : WX l D base z M sh pc ls st h Q := by
  subst h1; subst h2; subst h3; exact k
end
section
section WXR
variable {l : Launch} {D : va_G} {base : Nat} {z : Nat × Nat} {M : MI} {sh : List Sh} {pc : Nat} {ls : List (Option Value)} {st : List Value} {h : Hp} {Q : List Sh → Hp → Option Value → Prop}
theorem wx_iconst {n : Int} {v : Int32} (hd : decode M.2.1 pc = .ok (.iconst n, 1)) (hv : Int32.ofInt n = v) (k : WX l D base z M sh (pc + 1) ls (.int v :: st) h Q) : WX l D base z M sh pc ls (st) h Q :=
  fun p e s m args below meth c C H locs A hP hS hL => lv_iconst C.1 C.2.1 hd hv (k p e s m args below meth c C H locs A hP hS hL)
theorem wx_bipush {n : Int} {v : Int32} (hd : decode M.2.1 pc = .ok (.bipush n, 2)) (hv : (Int8.ofInt n).toInt32 = v) (k : WX l D base z M sh (pc + 2) ls (.int v :: st) h Q) : WX l D base z M sh pc ls (st) h Q :=
  fun p e s m args below meth c C H locs A hP hS hL => lv_bipush C.1 C.2.1 hd hv (k p e s m args below meth c C H locs A hP hS hL)
theorem wx_sipush {n : Int} {v : Int32} (hd : decode M.2.1 pc = .ok (.sipush n, 3)) (hv : (Int16.ofInt n).toInt32 = v) (k : WX l D base z M sh (pc + 3) ls (.int v :: st) h Q) : WX l D base z M sh pc ls (st) h Q :=
  fun p e s m args below meth c C H locs A hP hS hL => lv_sipush C.1 C.2.1 hd hv (k p e s m args below meth c C H locs A hP hS hL)
theorem wx_lconst {n : Fin 2} {v : Int64} (hd : decode M.2.1 pc = .ok (.lconst n, 1)) (hv : Int64.ofNat (n : Nat) = v) (k : WX l D base z M sh (pc + 1) ls (.long v :: st) h Q) : WX l D base z M sh pc ls (st) h Q :=
  fun p e s m args below meth c C H locs A hP hS hL => lv_lconst C.1 C.2.1 hd hv (k p e s m args below meth c C H locs A hP hS hL)
theorem wx_iload_n {k : Fin 4} {i : Nat} {x : Int32} (hd : decode M.2.1 pc = .ok (.iload_n k, 1)) (hi : (k : Nat) = i) (hg : lget ls i = some (.int x)) (k2 : WX l D base z M sh (pc + 1) ls (.int x :: st) h Q) : WX l D base z M sh pc ls st h Q :=
  fun p e s m args below meth c C H locs A hP hS hL => lv_iload_n C.1 C.2.1 hd hi (by have q := hL.2.2 _ (lvl_get ls 0 i hg); rw [Nat.zero_add] at q; exact q) (k2 p e s m args below meth c C H locs A hP hS hL)
theorem wx_iload {i : Nat} {x : Int32} (hd : decode M.2.1 pc = .ok (.iload i, 2)) (hg : lget ls i = some (.int x)) (k2 : WX l D base z M sh (pc + 2) ls (.int x :: st) h Q) : WX l D base z M sh pc ls st h Q :=
  fun p e s m args below meth c C H locs A hP hS hL => lv_iload C.1 C.2.1 hd (by have q := hL.2.2 _ (lvl_get ls 0 i hg); rw [Nat.zero_add] at q; exact q) (k2 p e s m args below meth c C H locs A hP hS hL)
theorem wx_lload_n {k : Fin 4} {i : Nat} {x : Int64} (hd : decode M.2.1 pc = .ok (.lload_n k, 1)) (hi : (k : Nat) = i) (hg : lget ls i = some (.long x)) (k2 : WX l D base z M sh (pc + 1) ls (.long x :: st) h Q) : WX l D base z M sh pc ls st h Q :=
  fun p e s m args below meth c C H locs A hP hS hL => lv_lload_n C.1 C.2.1 hd hi (by have q := hL.2.2 _ (lvl_get ls 0 i hg); rw [Nat.zero_add] at q; exact q) (k2 p e s m args below meth c C H locs A hP hS hL)
theorem wx_lload {i : Nat} {x : Int64} (hd : decode M.2.1 pc = .ok (.lload i, 2)) (hg : lget ls i = some (.long x)) (k2 : WX l D base z M sh (pc + 2) ls (.long x :: st) h Q) : WX l D base z M sh pc ls st h Q :=
  fun p e s m args below meth c C H locs A hP hS hL => lv_lload C.1 C.2.1 hd (by have q := hL.2.2 _ (lvl_get ls 0 i hg); rw [Nat.zero_add] at q; exact q) (k2 p e s m args below meth c C H locs A hP hS hL)
theorem wx_aload_n {k : Fin 4} {i : Nat} {x : Nat} (hd : decode M.2.1 pc = .ok (.aload_n k, 1)) (hi : (k : Nat) = i) (hg : lget ls i = some (.ref x)) (k2 : WX l D base z M sh (pc + 1) ls (.ref x :: st) h Q) : WX l D base z M sh pc ls st h Q :=
  fun p e s m args below meth c C H locs A hP hS hL => lv_aload_n C.1 C.2.1 hd hi (by have q := hL.2.2 _ (lvl_get ls 0 i hg); rw [Nat.zero_add] at q; exact q) (k2 p e s m args below meth c C H locs A hP hS hL)
theorem wx_istore_n {k : Fin 4} {i : Nat} {x : Int32} {ls2 : List (Option Value)} (hd : decode M.2.1 pc = .ok (.istore_n k, 1)) (hi : (k : Nat) = i) (hn : i < M.2.2.1) (ho : okst ls i = true) (he : lset ls i (some (.int x)) = ls2) (k2 : WX l D base z M sh (pc + 1) ls2 st h Q) : WX l D base z M sh pc ls (.int x :: st) h Q := by
  subst he
  exact fun p e s m args below meth c C H locs A hP hS hL => lv_istore_n C.1 C.2.1 hd hi hL hn rfl (fun A2 hL2 => k2 p e s m args below meth c C H locs A2 hP hS (lv_setI ho hL2))
theorem wx_istore {i : Nat} {x : Int32} {ls2 : List (Option Value)} (hd : decode M.2.1 pc = .ok (.istore i, 2)) (hn : i < M.2.2.1) (ho : okst ls i = true) (he : lset ls i (some (.int x)) = ls2) (k2 : WX l D base z M sh (pc + 2) ls2 st h Q) : WX l D base z M sh pc ls (.int x :: st) h Q := by
  subst he
  exact fun p e s m args below meth c C H locs A hP hS hL => lv_istore C.1 C.2.1 hd hL hn rfl (fun A2 hL2 => k2 p e s m args below meth c C H locs A2 hP hS (lv_setI ho hL2))
theorem wx_astore_n {k : Fin 4} {i : Nat} {x : Nat} {ls2 : List (Option Value)} (hd : decode M.2.1 pc = .ok (.astore_n k, 1)) (hi : (k : Nat) = i) (hn : i < M.2.2.1) (ho : okst ls i = true) (he : lset ls i (some (.ref x)) = ls2) (k2 : WX l D base z M sh (pc + 1) ls2 st h Q) : WX l D base z M sh pc ls (.ref x :: st) h Q := by
  subst he
  exact fun p e s m args below meth c C H locs A hP hS hL => lv_astore_n C.1 C.2.1 hd hi hL hn rfl (fun A2 hL2 => k2 p e s m args below meth c C H locs A2 hP hS (lv_setI ho hL2))
theorem wx_lstore_n {k : Fin 4} {i : Nat} {x : Int64} {ls2 : List (Option Value)} (hd : decode M.2.1 pc = .ok (.lstore_n k, 1)) (hi : (k : Nat) = i) (hn : i + 1 < M.2.2.1) (ho : okst ls i = true) (he : lset (lset ls i (some (.long x))) (i + 1) none = ls2) (k2 : WX l D base z M sh (pc + 1) ls2 st h Q) : WX l D base z M sh pc ls (.long x :: st) h Q := by
  subst he
  exact fun p e s m args below meth c C H locs A hP hS hL => lv_lstore_n C.1 C.2.1 hd hi hL hn rfl (fun A2 hL2 => k2 p e s m args below meth c C H locs A2 hP hS (lv_setL ho hL2))
theorem wx_iinc {i : Nat} {n : Int} {x v : Int32} {ls2 : List (Option Value)} (hd : decode M.2.1 pc = .ok (.iinc i n, 3)) (hg : lget ls i = some (.int x)) (hv : x + Int32.ofInt n = v) (hn : i < M.2.2.1) (ho : okst ls i = true) (he : lset ls i (some (.int v)) = ls2) (k2 : WX l D base z M sh (pc + 3) ls2 st h Q) : WX l D base z M sh pc ls st h Q := by
  subst he
  intro p e s m args below meth c C H locs A hP hS hL
  have q := lvl_get (base := base) ls 0 i hg
  rw [Nat.zero_add] at q
  obtain ⟨j, hj⟩ := List.getElem?_of_mem q
  exact lv_iinc C.1 C.2.1 hd hL hj hv hn rfl (fun A2 hL2 => k2 p e s m args below meth c C H locs A2 hP hS (lv_setI (v := .int v) ho hL2))
theorem wx_iadd {x y : Int32} (hd : decode M.2.1 pc = .ok (.iadd, 1))  (k : WX l D base z M sh (pc + 1) ls (.int (x + y) :: st) h Q) : WX l D base z M sh pc ls (.int y :: .int x :: st) h Q :=
  fun p e s m args below meth c C H locs A hP hS hL => lv_iadd C.1 C.2.1 hd  (k p e s m args below meth c C H locs A hP hS hL)
theorem wx_isub {x y : Int32} (hd : decode M.2.1 pc = .ok (.isub, 1))  (k : WX l D base z M sh (pc + 1) ls (.int (x - y) :: st) h Q) : WX l D base z M sh pc ls (.int y :: .int x :: st) h Q :=
  fun p e s m args below meth c C H locs A hP hS hL => lv_isub C.1 C.2.1 hd  (k p e s m args below meth c C H locs A hP hS hL)
theorem wx_imul {x y : Int32} (hd : decode M.2.1 pc = .ok (.imul, 1))  (k : WX l D base z M sh (pc + 1) ls (.int (x * y) :: st) h Q) : WX l D base z M sh pc ls (.int y :: .int x :: st) h Q :=
  fun p e s m args below meth c C H locs A hP hS hL => lv_imul C.1 C.2.1 hd  (k p e s m args below meth c C H locs A hP hS hL)
theorem wx_iand {x y : Int32} (hd : decode M.2.1 pc = .ok (.iand, 1))  (k : WX l D base z M sh (pc + 1) ls (.int (x &&& y) :: st) h Q) : WX l D base z M sh pc ls (.int y :: .int x :: st) h Q :=
  fun p e s m args below meth c C H locs A hP hS hL => lv_iand C.1 C.2.1 hd  (k p e s m args below meth c C H locs A hP hS hL)
theorem wx_ior {x y : Int32} (hd : decode M.2.1 pc = .ok (.ior, 1))  (k : WX l D base z M sh (pc + 1) ls (.int (x ||| y) :: st) h Q) : WX l D base z M sh pc ls (.int y :: .int x :: st) h Q :=
  fun p e s m args below meth c C H locs A hP hS hL => lv_ior C.1 C.2.1 hd  (k p e s m args below meth c C H locs A hP hS hL)
theorem wx_ixor {x y : Int32} (hd : decode M.2.1 pc = .ok (.ixor, 1))  (k : WX l D base z M sh (pc + 1) ls (.int (x ^^^ y) :: st) h Q) : WX l D base z M sh pc ls (.int y :: .int x :: st) h Q :=
  fun p e s m args below meth c C H locs A hP hS hL => lv_ixor C.1 C.2.1 hd  (k p e s m args below meth c C H locs A hP hS hL)
theorem wx_ishl {x y : Int32} (hd : decode M.2.1 pc = .ok (.ishl, 1))  (k : WX l D base z M sh (pc + 1) ls (.int (x <<< (y &&& 31)) :: st) h Q) : WX l D base z M sh pc ls (.int y :: .int x :: st) h Q :=
  fun p e s m args below meth c C H locs A hP hS hL => lv_ishl C.1 C.2.1 hd  (k p e s m args below meth c C H locs A hP hS hL)
theorem wx_ishr {x y : Int32} (hd : decode M.2.1 pc = .ok (.ishr, 1))  (k : WX l D base z M sh (pc + 1) ls (.int (x >>> (y &&& 31)) :: st) h Q) : WX l D base z M sh pc ls (.int y :: .int x :: st) h Q :=
  fun p e s m args below meth c C H locs A hP hS hL => lv_ishr C.1 C.2.1 hd  (k p e s m args below meth c C H locs A hP hS hL)
theorem wx_iushr {x y : Int32} (hd : decode M.2.1 pc = .ok (.iushr, 1))  (k : WX l D base z M sh (pc + 1) ls (.int (x.toUInt32 >>> (y.toUInt32 &&& Int32.toUInt32 31)).toInt32 :: st) h Q) : WX l D base z M sh pc ls (.int y :: .int x :: st) h Q :=
  fun p e s m args below meth c C H locs A hP hS hL => lv_iushr C.1 C.2.1 hd rfl (k p e s m args below meth c C H locs A hP hS hL)
theorem wx_idiv {x y : Int32} (hd : decode M.2.1 pc = .ok (.idiv, 1)) (hne : ¬ y = 0) (k : WX l D base z M sh (pc + 1) ls (.int (x / y) :: st) h Q) : WX l D base z M sh pc ls (.int y :: .int x :: st) h Q :=
  fun p e s m args below meth c C H locs A hP hS hL => lv_idiv C.1 C.2.1 hd hne (k p e s m args below meth c C H locs A hP hS hL)
theorem wx_irem {x y : Int32} (hd : decode M.2.1 pc = .ok (.irem, 1)) (hne : ¬ y = 0) (k : WX l D base z M sh (pc + 1) ls (.int (x - x / y * y) :: st) h Q) : WX l D base z M sh pc ls (.int y :: .int x :: st) h Q :=
  fun p e s m args below meth c C H locs A hP hS hL => lv_irem C.1 C.2.1 hd hne (k p e s m args below meth c C H locs A hP hS hL)
theorem wx_ineg {x : Int32} (hd : decode M.2.1 pc = .ok (.ineg, 1))  (k : WX l D base z M sh (pc + 1) ls (.int (-x) :: st) h Q) : WX l D base z M sh pc ls (.int x :: st) h Q :=
  fun p e s m args below meth c C H locs A hP hS hL => lv_ineg C.1 C.2.1 hd  (k p e s m args below meth c C H locs A hP hS hL)
theorem wx_ladd {x y : Int64} (hd : decode M.2.1 pc = .ok (.ladd, 1))  (k : WX l D base z M sh (pc + 1) ls (.long (x + y) :: st) h Q) : WX l D base z M sh pc ls (.long y :: .long x :: st) h Q :=
  fun p e s m args below meth c C H locs A hP hS hL => lv_ladd C.1 C.2.1 hd  (k p e s m args below meth c C H locs A hP hS hL)
theorem wx_lmul {x y : Int64} (hd : decode M.2.1 pc = .ok (.lmul, 1))  (k : WX l D base z M sh (pc + 1) ls (.long (x * y) :: st) h Q) : WX l D base z M sh pc ls (.long y :: .long x :: st) h Q :=
  fun p e s m args below meth c C H locs A hP hS hL => lv_lmul C.1 C.2.1 hd  (k p e s m args below meth c C H locs A hP hS hL)
theorem wx_land {x y : Int64} (hd : decode M.2.1 pc = .ok (.land, 1))  (k : WX l D base z M sh (pc + 1) ls (.long (x &&& y) :: st) h Q) : WX l D base z M sh pc ls (.long y :: .long x :: st) h Q :=
  fun p e s m args below meth c C H locs A hP hS hL => lv_land C.1 C.2.1 hd  (k p e s m args below meth c C H locs A hP hS hL)
theorem wx_lor {x y : Int64} (hd : decode M.2.1 pc = .ok (.lor, 1))  (k : WX l D base z M sh (pc + 1) ls (.long (x ||| y) :: st) h Q) : WX l D base z M sh pc ls (.long y :: .long x :: st) h Q :=
  fun p e s m args below meth c C H locs A hP hS hL => lv_lor C.1 C.2.1 hd  (k p e s m args below meth c C H locs A hP hS hL)
theorem wx_lrem {x y : Int64} (hd : decode M.2.1 pc = .ok (.lrem, 1)) (hne : ¬ y = 0) (k : WX l D base z M sh (pc + 1) ls (.long (x - x / y * y) :: st) h Q) : WX l D base z M sh pc ls (.long y :: .long x :: st) h Q :=
  fun p e s m args below meth c C H locs A hP hS hL => lv_lrem C.1 C.2.1 hd hne (k p e s m args below meth c C H locs A hP hS hL)
theorem wx_lushr {x : Int64} {y : Int32} (hd : decode M.2.1 pc = .ok (.lushr, 1))  (k : WX l D base z M sh (pc + 1) ls (.long (x.toUInt64 >>> (y.toInt64.toUInt64 &&& Int64.toUInt64 63)).toInt64 :: st) h Q) : WX l D base z M sh pc ls (.int y :: .long x :: st) h Q :=
  fun p e s m args below meth c C H locs A hP hS hL => lv_lushr C.1 C.2.1 hd rfl (k p e s m args below meth c C H locs A hP hS hL)
theorem wx_lshl {x : Int64} {y : Int32} (hd : decode M.2.1 pc = .ok (.lshl, 1))  (k : WX l D base z M sh (pc + 1) ls (.long (x <<< (y.toInt64 &&& 63)) :: st) h Q) : WX l D base z M sh pc ls (.int y :: .long x :: st) h Q :=
  fun p e s m args below meth c C H locs A hP hS hL => lv_lshl C.1 C.2.1 hd rfl (k p e s m args below meth c C H locs A hP hS hL)
theorem wx_i2l {x : Int32} (hd : decode M.2.1 pc = .ok (.i2l, 1))  (k : WX l D base z M sh (pc + 1) ls (.long x.toInt64 :: st) h Q) : WX l D base z M sh pc ls (.int x :: st) h Q :=
  fun p e s m args below meth c C H locs A hP hS hL => lv_i2l C.1 C.2.1 hd rfl (k p e s m args below meth c C H locs A hP hS hL)
theorem wx_l2i {x : Int64} (hd : decode M.2.1 pc = .ok (.l2i, 1))  (k : WX l D base z M sh (pc + 1) ls (.int x.toInt32 :: st) h Q) : WX l D base z M sh pc ls (.long x :: st) h Q :=
  fun p e s m args below meth c C H locs A hP hS hL => lv_l2i C.1 C.2.1 hd rfl (k p e s m args below meth c C H locs A hP hS hL)
theorem wx_lcmp {x y : Int64} (hd : decode M.2.1 pc = .ok (.lcmp, 1))  (k : WX l D base z M sh (pc + 1) ls (.int (lg_cmp x y) :: st) h Q) : WX l D base z M sh pc ls (.long y :: .long x :: st) h Q :=
  fun p e s m args below meth c C H locs A hP hS hL => W.lcmp C.1 C.2.1 hd  (k p e s m args below meth c C H locs A hP hS hL)
theorem wx_dup {va : Value} (hd : decode M.2.1 pc = .ok (.dup, 1)) (h1 : va.category = 1) (k : WX l D base z M sh (pc + 1) ls (va :: va :: st) h Q) : WX l D base z M sh pc ls (va :: st) h Q :=
  fun p e s m args below meth c C H locs A hP hS hL => lv_dup C.1 C.2.1 hd (by rw [up_cat]; exact h1) (k p e s m args below meth c C H locs A hP hS hL)
theorem wx_pop {va : Value} (hd : decode M.2.1 pc = .ok (.pop, 1)) (h1 : va.category = 1) (k : WX l D base z M sh (pc + 1) ls (st) h Q) : WX l D base z M sh pc ls (va :: st) h Q :=
  fun p e s m args below meth c C H locs A hP hS hL => lv_pop C.1 C.2.1 hd (by rw [up_cat]; exact h1) (k p e s m args below meth c C H locs A hP hS hL)
theorem wx_dup2 {va vb : Value} (hd : decode M.2.1 pc = .ok (.dup2, 1)) (h1 : va.category = 1) (h2 : vb.category = 1) (k : WX l D base z M sh (pc + 1) ls (va :: vb :: va :: vb :: st) h Q) : WX l D base z M sh pc ls (va :: vb :: st) h Q :=
  fun p e s m args below meth c C H locs A hP hS hL => lv_dup2_11 C.1 C.2.1 hd (by rw [up_cat]; exact h1) (by rw [up_cat]; exact h2) (k p e s m args below meth c C H locs A hP hS hL)
theorem wx_if_eq {x : Int32} {off : Int} {tgt : Nat} (hd : decode M.2.1 pc = .ok (.ifCond .eq off, 3)) (ht : (pc : Int) + off = (tgt : Int)) (kt : x = 0 → WX l D base z M sh tgt ls st h Q) (kf : ¬ x = 0 → WX l D base z M sh (pc + 3) ls st h Q) : WX l D base z M sh pc ls (.int x :: st) h Q :=
  fun p e s m args below meth c C H locs A hP hS hL => lv_if_eq C.1 C.2.1 hd ht (fun q => kt q p e s m args below meth c C H locs A hP hS hL) (fun q => kf q p e s m args below meth c C H locs A hP hS hL)
theorem wx_icmp_eq {x y : Int32} {off : Int} {tgt : Nat} (hd : decode M.2.1 pc = .ok (.if_icmp .eq off, 3)) (ht : (pc : Int) + off = (tgt : Int)) (kt : x = y → WX l D base z M sh tgt ls st h Q) (kf : ¬ x = y → WX l D base z M sh (pc + 3) ls st h Q) : WX l D base z M sh pc ls (.int y :: .int x :: st) h Q :=
  fun p e s m args below meth c C H locs A hP hS hL => lv_icmp_eq C.1 C.2.1 hd ht (fun q => kt q p e s m args below meth c C H locs A hP hS hL) (fun q => kf q p e s m args below meth c C H locs A hP hS hL)
theorem wx_if_ne {x : Int32} {off : Int} {tgt : Nat} (hd : decode M.2.1 pc = .ok (.ifCond .ne off, 3)) (ht : (pc : Int) + off = (tgt : Int)) (kt : ¬ x = 0 → WX l D base z M sh tgt ls st h Q) (kf : x = 0 → WX l D base z M sh (pc + 3) ls st h Q) : WX l D base z M sh pc ls (.int x :: st) h Q :=
  fun p e s m args below meth c C H locs A hP hS hL => lv_if_ne C.1 C.2.1 hd ht (fun q => kt q p e s m args below meth c C H locs A hP hS hL) (fun q => kf q p e s m args below meth c C H locs A hP hS hL)
theorem wx_icmp_ne {x y : Int32} {off : Int} {tgt : Nat} (hd : decode M.2.1 pc = .ok (.if_icmp .ne off, 3)) (ht : (pc : Int) + off = (tgt : Int)) (kt : ¬ x = y → WX l D base z M sh tgt ls st h Q) (kf : x = y → WX l D base z M sh (pc + 3) ls st h Q) : WX l D base z M sh pc ls (.int y :: .int x :: st) h Q :=
  fun p e s m args below meth c C H locs A hP hS hL => lv_icmp_ne C.1 C.2.1 hd ht (fun q => kt q p e s m args below meth c C H locs A hP hS hL) (fun q => kf q p e s m args below meth c C H locs A hP hS hL)
theorem wx_if_lt {x : Int32} {off : Int} {tgt : Nat} (hd : decode M.2.1 pc = .ok (.ifCond .lt off, 3)) (ht : (pc : Int) + off = (tgt : Int)) (kt : x < 0 → WX l D base z M sh tgt ls st h Q) (kf : ¬ x < 0 → WX l D base z M sh (pc + 3) ls st h Q) : WX l D base z M sh pc ls (.int x :: st) h Q :=
  fun p e s m args below meth c C H locs A hP hS hL => lv_if_lt C.1 C.2.1 hd ht (fun q => kt q p e s m args below meth c C H locs A hP hS hL) (fun q => kf q p e s m args below meth c C H locs A hP hS hL)
theorem wx_icmp_lt {x y : Int32} {off : Int} {tgt : Nat} (hd : decode M.2.1 pc = .ok (.if_icmp .lt off, 3)) (ht : (pc : Int) + off = (tgt : Int)) (kt : x < y → WX l D base z M sh tgt ls st h Q) (kf : ¬ x < y → WX l D base z M sh (pc + 3) ls st h Q) : WX l D base z M sh pc ls (.int y :: .int x :: st) h Q :=
  fun p e s m args below meth c C H locs A hP hS hL => lv_icmp_lt C.1 C.2.1 hd ht (fun q => kt q p e s m args below meth c C H locs A hP hS hL) (fun q => kf q p e s m args below meth c C H locs A hP hS hL)
theorem wx_if_ge {x : Int32} {off : Int} {tgt : Nat} (hd : decode M.2.1 pc = .ok (.ifCond .ge off, 3)) (ht : (pc : Int) + off = (tgt : Int)) (kt : 0 ≤ x → WX l D base z M sh tgt ls st h Q) (kf : ¬ 0 ≤ x → WX l D base z M sh (pc + 3) ls st h Q) : WX l D base z M sh pc ls (.int x :: st) h Q :=
  fun p e s m args below meth c C H locs A hP hS hL => lv_if_ge C.1 C.2.1 hd ht (fun q => kt q p e s m args below meth c C H locs A hP hS hL) (fun q => kf q p e s m args below meth c C H locs A hP hS hL)
theorem wx_icmp_ge {x y : Int32} {off : Int} {tgt : Nat} (hd : decode M.2.1 pc = .ok (.if_icmp .ge off, 3)) (ht : (pc : Int) + off = (tgt : Int)) (kt : y ≤ x → WX l D base z M sh tgt ls st h Q) (kf : ¬ y ≤ x → WX l D base z M sh (pc + 3) ls st h Q) : WX l D base z M sh pc ls (.int y :: .int x :: st) h Q :=
  fun p e s m args below meth c C H locs A hP hS hL => lv_icmp_ge C.1 C.2.1 hd ht (fun q => kt q p e s m args below meth c C H locs A hP hS hL) (fun q => kf q p e s m args below meth c C H locs A hP hS hL)
theorem wx_if_gt {x : Int32} {off : Int} {tgt : Nat} (hd : decode M.2.1 pc = .ok (.ifCond .gt off, 3)) (ht : (pc : Int) + off = (tgt : Int)) (kt : 0 < x → WX l D base z M sh tgt ls st h Q) (kf : ¬ 0 < x → WX l D base z M sh (pc + 3) ls st h Q) : WX l D base z M sh pc ls (.int x :: st) h Q :=
  fun p e s m args below meth c C H locs A hP hS hL => lv_if_gt C.1 C.2.1 hd ht (fun q => kt q p e s m args below meth c C H locs A hP hS hL) (fun q => kf q p e s m args below meth c C H locs A hP hS hL)
theorem wx_icmp_gt {x y : Int32} {off : Int} {tgt : Nat} (hd : decode M.2.1 pc = .ok (.if_icmp .gt off, 3)) (ht : (pc : Int) + off = (tgt : Int)) (kt : y < x → WX l D base z M sh tgt ls st h Q) (kf : ¬ y < x → WX l D base z M sh (pc + 3) ls st h Q) : WX l D base z M sh pc ls (.int y :: .int x :: st) h Q :=
  fun p e s m args below meth c C H locs A hP hS hL => lv_icmp_gt C.1 C.2.1 hd ht (fun q => kt q p e s m args below meth c C H locs A hP hS hL) (fun q => kf q p e s m args below meth c C H locs A hP hS hL)
theorem wx_if_le {x : Int32} {off : Int} {tgt : Nat} (hd : decode M.2.1 pc = .ok (.ifCond .le off, 3)) (ht : (pc : Int) + off = (tgt : Int)) (kt : x ≤ 0 → WX l D base z M sh tgt ls st h Q) (kf : ¬ x ≤ 0 → WX l D base z M sh (pc + 3) ls st h Q) : WX l D base z M sh pc ls (.int x :: st) h Q :=
  fun p e s m args below meth c C H locs A hP hS hL => lv_if_le C.1 C.2.1 hd ht (fun q => kt q p e s m args below meth c C H locs A hP hS hL) (fun q => kf q p e s m args below meth c C H locs A hP hS hL)
theorem wx_icmp_le {x y : Int32} {off : Int} {tgt : Nat} (hd : decode M.2.1 pc = .ok (.if_icmp .le off, 3)) (ht : (pc : Int) + off = (tgt : Int)) (kt : x ≤ y → WX l D base z M sh tgt ls st h Q) (kf : ¬ x ≤ y → WX l D base z M sh (pc + 3) ls st h Q) : WX l D base z M sh pc ls (.int y :: .int x :: st) h Q :=
  fun p e s m args below meth c C H locs A hP hS hL => lv_icmp_le C.1 C.2.1 hd ht (fun q => kt q p e s m args below meth c C H locs A hP hS hL) (fun q => kf q p e s m args below meth c C H locs A hP hS hL)
theorem wx_goto {off : Int} {tgt : Nat} (hd : decode M.2.1 pc = .ok (.goto off, 3)) (ht : (pc : Int) + off = (tgt : Int)) (k : WX l D base z M sh tgt ls st h Q) : WX l D base z M sh pc ls st h Q :=
  fun p e s m args below meth c C H locs A hP hS hL => lv_goto C.1 C.2.1 hd ht (k p e s m args below meth c C H locs A hP hS hL)
theorem wx_ifnull {x : Nat} {off : Int} (hd : decode M.2.1 pc = .ok (.ifnull off, 3)) (k : WX l D base z M sh (pc + 3) ls st h Q) : WX l D base z M sh pc ls (.ref x :: st) h Q :=
  fun p e s m args below meth c C H locs A hP hS hL => lv_ifnull C.1 C.2.1 hd (k p e s m args below meth c C H locs A hP hS hL)
theorem wx_ldcw {idx : Nat} {v : Int32} (hd : decode M.2.1 pc = .ok (.ldc_w idx, 3)) (hw : Cond.constant M.1.cls idx v ∈ lw_gt) (k : WX l D base z M sh (pc + 3) ls (.int v :: st) h Q) : WX l D base z M sh pc ls st h Q :=
  fun p e s m args below meth c C H locs A hP hS hL => lv_ldcw C.1 C.2.1 C.2.2.2.2.1 (C.2.2.2.2.2.1 _ hw) hd (k p e s m args below meth c C H locs A hP hS hL)
theorem wx_ldc2 {idx : Nat} {v : Int64} (hd : decode M.2.1 pc = .ok (.ldc2_w idx, 3)) (hw : Cond.constantLong M.1.cls idx v ∈ lw_gt) (k : WX l D base z M sh (pc + 3) ls (.long v :: st) h Q) : WX l D base z M sh pc ls st h Q :=
  fun p e s m args below meth c C H locs A hP hS hL => lv_ldc2 C.1 C.2.1 C.2.2.2.2.1 (C.2.2.2.2.2.1 _ hw) hd (k p e s m args below meth c C H locs A hP hS hL)
theorem wx_tabOut {dflt lo hi : Int} {offs : Array Int} {len : Nat} {x : Int32} {tgt : Nat} (hd : decode M.2.1 pc = .ok (.tableswitch dflt lo hi offs, len)) (hx : x.toInt < lo ∨ hi < x.toInt) (ht : (pc : Int) + dflt = (tgt : Int)) (k : WX l D base z M sh tgt ls st h Q) : WX l D base z M sh pc ls (.int x :: st) h Q :=
  fun p e s m args below meth c C H locs A hP hS hL => lv_tableOut C.1 C.2.1 hd hx ht (k p e s m args below meth c C H locs A hP hS hL)
theorem wx_tabIn {dflt lo hi : Int} {offs : Array Int} {len : Nat} {x : Int32} {off : Int} {tgt : Nat} (hd : decode M.2.1 pc = .ok (.tableswitch dflt lo hi offs, len)) (h1 : ¬ x.toInt < lo) (h2 : ¬ hi < x.toInt) (ho : offs[(x.toInt - lo).toNat]? = some off) (ht : (pc : Int) + off = (tgt : Int)) (k : WX l D base z M sh tgt ls st h Q) : WX l D base z M sh pc ls (.int x :: st) h Q :=
  fun p e s m args below meth c C H locs A hP hS hL => lv_tableIn C.1 C.2.1 hd h1 h2 ho ht (k p e s m args below meth c C H locs A hP hS hL)
theorem wx_iret {v : Int32} (hd : decode M.2.1 pc = .ok (.ireturn, 1)) (hr : M.2.2.2.1 = some .int)  (hz : sh.length - z.1 ≤ M.2.2.2.2.cells ∧ szs sh - z.2 ≤ M.2.2.2.2.slots) (hq : Q sh h (some (.int v))) : WX l D base z M sh pc ls ([.int v]) h Q :=
  fun p e s m args below meth c C H locs A hP hS hL => W.widen hz.1 hz.2 (W.iret C.1 C.2.1 (by rw [C.2.2.1]; exact hr)  (fun t ht hW => ⟨sh, h, some (.int v), rfl, hq, by rw [ht]; exact hP, hS.F ht⟩) hS.2.2 hd C.2.2.2.2.2.2.1)
theorem wx_zret {v : Int32} (hd : decode M.2.1 pc = .ok (.ireturn, 1)) (hr : M.2.2.2.1 = some .boolean) (hn : narrow .boolean (.int v) = .int v) (hz : sh.length - z.1 ≤ M.2.2.2.2.cells ∧ szs sh - z.2 ≤ M.2.2.2.2.slots) (hq : Q sh h (some (.int v))) : WX l D base z M sh pc ls ([.int v]) h Q :=
  fun p e s m args below meth c C H locs A hP hS hL => W.widen hz.1 hz.2 (W.zret C.1 C.2.1 (by rw [C.2.2.1]; exact hr) hn (fun t ht hW => ⟨sh, h, some (.int v), rfl, hq, by rw [ht]; exact hP, hS.F ht⟩) hS.2.2 hd C.2.2.2.2.2.2.1)
theorem wx_lret {v : Int64} (hd : decode M.2.1 pc = .ok (.lreturn, 1)) (hr : M.2.2.2.1 = some .long)  (hz : sh.length - z.1 ≤ M.2.2.2.2.cells ∧ szs sh - z.2 ≤ M.2.2.2.2.slots) (hq : Q sh h (some (.long v))) : WX l D base z M sh pc ls ([.long v]) h Q :=
  fun p e s m args below meth c C H locs A hP hS hL => W.widen hz.1 hz.2 (W.lret C.1 C.2.1 (by rw [C.2.2.1]; exact hr)  (fun t ht hW => ⟨sh, h, some (.long v), rfl, hq, by rw [ht]; exact hP, hS.F ht⟩) hS.2.2 hd C.2.2.2.2.2.2.1)
theorem wx_vret  (hd : decode M.2.1 pc = .ok (.return_, 1)) (hr : M.2.2.2.1 = none)  (hz : sh.length - z.1 ≤ M.2.2.2.2.cells ∧ szs sh - z.2 ≤ M.2.2.2.2.slots) (hq : Q sh h (none)) : WX l D base z M sh pc ls ([]) h Q :=
  fun p e s m args below meth c C H locs A hP hS hL => W.widen hz.1 hz.2 (W.vret C.1 C.2.1 (by rw [C.2.2.1]; exact hr)  (fun t ht hW => ⟨sh, h, none, rfl, hq, by rw [ht]; exact hP, hS.F ht⟩) hS.2.2 hd C.2.2.2.2.2.2.1)
end WXR
end
section
theorem gt_good {w : Cond} (h : w ∈ lw_gt) : w ∈ lw_gt ∧ ((w.onTables && w.keeps) = true ∨ ∃ ty, w = .arrayClass ty) := ⟨h, good_of_word (List.mem_filter.mp h).2⟩
theorem ig_of {ws : List Cond} (h1 : ∀ w ∈ ws, w ∈ lw_tbl) (h2 : ws.all goodWord = true) : ∀ w ∈ ws, w ∈ lw_gt := fun w hw => List.mem_filter.mpr ⟨h1 w hw, List.all_eq_true.mp h2 w hw⟩
theorem ig_Ln : ∀ w ∈ u_ws R_Ln T_Ln 12, w ∈ lw_gt := ig_of i_Ln (by decide +kernel)
theorem ig_Rd : ∀ w ∈ u_ws R_Rd T_Rd 3, w ∈ lw_gt := ig_of i_Rd (by decide +kernel)
theorem ig_Lm : ∀ w ∈ u_ws R_Lm T_Lm 15, w ∈ lw_gt := ig_of i_Lm (by decide +kernel)
theorem ig_Md : ∀ w ∈ u_ws R_Md T_Md 35, w ∈ lw_gt := ig_of i_Md (by decide +kernel)
section HPR
variable {l : Launch} {D : va_G} {base : Nat} {z : Nat × Nat} {M : MI} {sh : List Sh} {pc : Nat} {ls : List (Option Value)} {st : List Value} {h : Hp} {Q : List Sh → Hp → Option Value → Prop}
theorem wx_get {idx a ci k N : Nat} {C : String} {T : u_T} {fl : List (Nat × Option Nat)} {f : Nat × Option Nat} {v : Value} (hd : decode M.2.1 pc = .ok (.getfield idx, 3)) (hsh : sh[a]? = some (.inr (ci, fl))) (hc : classes[ci]? = some (C, T, N)) (hin : ∀ w ∈ u_ws C T N, w ∈ lw_gt) (hk : k < N) (hlink : Cond.fieldLink M.1.cls idx (T k).1 (T k).2.1 (T k).2.2.1 ∈ lw_gt) (hf : fl[k]? = some f) (hv : ∀ b, fv b h a k f = up b v)
    (kk : WX l D base z M sh (pc + 3) ls (v :: st) h Q) : WX l D base z M sh pc ls (.ref a :: st) h Q := by
  intro p e s m args below meth c C0 H locs A hP hS hL
  have hg := fvs_get (base := base) (h := h) (a := a) fl 0 k hf
  rw [Nat.zero_add, hv base] at hg
  exact va_get C0.1 C0.2.1 (Ts := lw_gt) (fun w hw => C0.2.2.2.2.2.1 w hw) hin C0.2.2.2.2.1 C0.2.2.2.2.2.2.2.1.1 hP.2 a (wl_get D base sh h hsh) hc k hk (C0.2.2.2.2.2.1 _ hlink) (fun _ h9 => h9) hg hd (kk p e s m args below meth c C0 H locs A hP hS hL)
/-- a store into a field that isn't final, with the heap's size -/
theorem va_putZ {p : Program} {e : Env} {R : Room} {s : State} {m : MethodId} {args : Array Value} {below : List Frame} {meth : Method} {c : Code} {H : Heap} {locs : List Loc} {cells slots : Nat} {Qf : State → Prop} {cc : ByteArray} {A : Array Slot} {rest : List Value} {cl : List vw_C} {B : Nat → Prop} {a : Nat} {tys : List (ClassId × FieldType)} {ws : va_W} {H0 : Heap}
    (hexec : p.tables.exec = Jvm.exec) (hb : c.code = cc) {own C : String} {T : u_T} {N ci index : Nat} {Ts : List Cond} (hts : ∀ w ∈ Ts, w.before args s = true) (hin : ∀ w ∈ u_ws C T N, w ∈ Ts) (ty0 : Nat → FieldType) (hty : ∀ k, k < N → parseFieldDescriptor (T k).2.2.1 = some (ty0 k)) (hnm : ∀ a, a < N → ∀ b, b < N → a ≠ b → (T a).2.1 ≠ (T b).2.1) (hown : s.vm.findClass own = some m.cls) (hK : va_K D cl tys s) (hP : va_P D cl ws H) (hD : va_D B ws) (hS0 : va_S B H0 H locs) (q0 : Nat) {fs : List Value} (he : ws[q0]? = some (a, .inr (ci, fs))) (hc : cl[ci]? = some (C, T, N)) (k : Nat) (hk : k < N) (hlink : (Cond.fieldLink own index (T k).1 (T k).2.1 (T k).2.2.1).before args s = true) (hfin : (T k).2.2.2 = false) {ty : FieldType} {v : Value} (hd : parseFieldDescriptor (T k).2.2.1 = some ty) (hn : narrow ty v = v) (hfit : fits ty v = true) (hl : k < fs.length)
    (hdg : decode cc pc = .ok (.putfield index, 3)) (kk : ∀ (H1 : Heap) (locs1 : List Loc), H1.size = H.size → va_P D cl (ws.set q0 (a, .inr (ci, fs.set k v))) H1 → va_S B H0 H1 locs1 → W p l e R s m args below meth c H1 locs1 cells slots Qf (F0 m (pc + 3) A rest)) : W p l e R s m args below meth c H locs cells slots Qf (F0 m pc A (v :: .ref a :: rest)) := by
  have hap := va_apart (own := own) hts hin ty0 hty hnm hK hc
  obtain ⟨r, h1, cell, q1, q2, q3, q4⟩ := hP q0 _ he
  have hr : r = (C, T, N) := Option.some.inj (h1.symm.trans hc)
  subst hr
  obtain ⟨hS, hfc, kC, hkC, hkind⟩ := hK.1 ci _ hc
  obtain ⟨cf, kf, fi, f, hi, hsl⟩ := hS k hk
  have hlay := hts _ (hin _ (u_in_lay hk))
  unfold u_lay at hlay
  rw [if_neg (by rw [hfin]; decide)] at hlay
  have hst := (u_facts hfc hkC (u_lays hts hin hk) hi).1
  have h6 := u_store hfc hkC hkind hlay hi hd hn hfit
  refine W.putK hexec hb (f := f) ⟨hown, hlink, ⟨_, _, _, hi⟩, hst⟩ (by rw [q2]; exact h6) q1 q3 (by rw [hsl]; exact k2_hasslot (q4 k hk)) rfl rfl hdg fun H' e1 e2 e3 => ?_
  rw [hsl] at e1 ⊢
  exact kk H' _ e2 (hP.set hD he ⟨_, hc, t_OB.to (V := updV (vp_V fs) k v) ⟨_, e1, q2, q3, t_set q4 hap hk v⟩ (fun j _ => vp_updV_set hl v j)⟩ e3) (hS0.put e2 e3 (hD.2 q0 _ he))
theorem gI_ne {h : Hp} {a k b : Nat} {v : Int32} (e : b ≠ a) (j : Nat) : gI (sI h a k v) b j = gI h b j := by rw [gI_sI, if_neg (fun q => e q.1)]
theorem gL_ne {h : Hp} {a k b : Nat} {v : Int64} (e : b ≠ a) (j : Nat) : gL (sL h a k v) b j = gL h b j := by rw [gL_sL, if_neg (fun q => e q.1)]
theorem gR_ne {h : Hp} {a k b : Nat} {v : Option Nat} (e : b ≠ a) (j : Nat) : gR (sR h a k v) b j = gR h b j := by rw [gR_sR, if_neg (fun q => e q.1)]
theorem wx_putI {idx a ci k N : Nat} {C : String} {T : u_T} {fl : List (Nat × Option Nat)} {v : Int32} (hd : decode M.2.1 pc = .ok (.putfield idx, 3)) (hsh : sh[a]? = some (.inr (ci, fl))) (hc : classes[ci]? = some (C, T, N)) (hin : ∀ w ∈ u_ws C T N, w ∈ lw_gt) (ty0 : Nat → FieldType) (hty : ∀ k, k < N → parseFieldDescriptor (T k).2.2.1 = some (ty0 k)) (hnm : ∀ a, a < N → ∀ b, b < N → a ≠ b → (T a).2.1 ≠ (T b).2.1) (hk : k < N) (hlink : Cond.fieldLink M.1.cls idx (T k).1 (T k).2.1 (T k).2.2.1 ∈ lw_gt) (hfin : (T k).2.2.2 = false) (hty2 : parseFieldDescriptor (T k).2.2.1 = some .int) (hf : fl[k]? = some (0, none))
    (kk : WX l D base z M sh (pc + 3) ls st (sI h a k v) Q) : WX l D base z M sh pc ls (.int v :: .ref a :: st) h Q := by
  intro p e s m args below meth c C0 H locs A hP hS hL
  refine va_putZ C0.1 C0.2.1 (Ts := lw_gt) (fun w hw => C0.2.2.2.2.2.1 w hw) hin ty0 hty hnm C0.2.2.2.2.1 C0.2.2.2.2.2.2.2.1.1 hP.2 (wl_D D base sh h) hS a (wl_get D base sh h hsh) hc k hk (C0.2.2.2.2.2.1 _ hlink) hfin (v := .int v) hty2 rfl rfl (by rw [fvs_len]; exact (List.getElem?_eq_some_iff.mp hf).1) hd (fun H1 locs1 hz hP1 hS1 => ?_)
  have e1 : (wl D base sh h).set a (base + a, .inr (ci, (fvs base h a 0 fl).set k (.int v))) = wl D base (sh.set a (.inr (ci, fl))) (sI h a k v) := by
    refine wl_set hsh ?_ (fun b y hb _ => en_ext y (gI_ne hb) (fun _ => rfl) (fun _ => rfl))
    have := fvs_set (base := base) (h := h) (h' := sI h a k v) (a := a) fl 0 k (f' := (0, none)) (v := .int v) hf (by rw [Nat.zero_add]; show Value.int v = Value.int (gI (sI h a k v) a k); rw [gI_sI, if_pos ⟨rfl, rfl⟩]) (fun i y hi => by
      unfold fv
      rw [gI_sI, if_neg (fun q => hi (by omega))]
      rfl)
    rw [this, set_same hf]
    rfl
  rw [e1, set_same hsh] at hP1
  exact kk p e s m args below meth c C0 H1 locs1 A ⟨by rw [hz]; exact hP.1, hP1⟩ hS1 hL
theorem wx_putL {idx a ci k N : Nat} {C : String} {T : u_T} {fl : List (Nat × Option Nat)} {v : Int64} (hd : decode M.2.1 pc = .ok (.putfield idx, 3)) (hsh : sh[a]? = some (.inr (ci, fl))) (hc : classes[ci]? = some (C, T, N)) (hin : ∀ w ∈ u_ws C T N, w ∈ lw_gt) (ty0 : Nat → FieldType) (hty : ∀ k, k < N → parseFieldDescriptor (T k).2.2.1 = some (ty0 k)) (hnm : ∀ a, a < N → ∀ b, b < N → a ≠ b → (T a).2.1 ≠ (T b).2.1) (hk : k < N) (hlink : Cond.fieldLink M.1.cls idx (T k).1 (T k).2.1 (T k).2.2.1 ∈ lw_gt) (hfin : (T k).2.2.2 = false) (hty2 : parseFieldDescriptor (T k).2.2.1 = some .long) (hf : fl[k]? = some (1, none))
    (kk : WX l D base z M sh (pc + 3) ls st (sL h a k v) Q) : WX l D base z M sh pc ls (.long v :: .ref a :: st) h Q := by
  intro p e s m args below meth c C0 H locs A hP hS hL
  refine va_putZ C0.1 C0.2.1 (Ts := lw_gt) (fun w hw => C0.2.2.2.2.2.1 w hw) hin ty0 hty hnm C0.2.2.2.2.1 C0.2.2.2.2.2.2.2.1.1 hP.2 (wl_D D base sh h) hS a (wl_get D base sh h hsh) hc k hk (C0.2.2.2.2.2.1 _ hlink) hfin (v := .long v) hty2 rfl rfl (by rw [fvs_len]; exact (List.getElem?_eq_some_iff.mp hf).1) hd (fun H1 locs1 hz hP1 hS1 => ?_)
  have e1 : (wl D base sh h).set a (base + a, .inr (ci, (fvs base h a 0 fl).set k (.long v))) = wl D base (sh.set a (.inr (ci, fl))) (sL h a k v) := by
    refine wl_set hsh ?_ (fun b y hb _ => en_ext y (fun _ => rfl) (gL_ne hb) (fun _ => rfl))
    have := fvs_set (base := base) (h := h) (h' := sL h a k v) (a := a) fl 0 k (f' := (1, none)) (v := .long v) hf (by rw [Nat.zero_add]; show Value.long v = Value.long (gL (sL h a k v) a k); rw [gL_sL, if_pos ⟨rfl, rfl⟩]) (fun i y hi => by
      unfold fv
      rw [gL_sL, if_neg (fun q => hi (by omega))]
      rfl)
    rw [this, set_same hf]
    rfl
  rw [e1, set_same hsh] at hP1
  exact kk p e s m args below meth c C0 H1 locs1 A ⟨by rw [hz]; exact hP.1, hP1⟩ hS1 hL
theorem wx_iald {a n : Nat} {i : Int32} (hd : decode M.2.1 pc = .ok (.iaload, 1)) (hsh : sh[a]? = some (.inl (0, n))) (hi : vp_in i n) (kk : WX l D base z M sh (pc + 1) ls (.int (gI h a i.toNatClampNeg) :: st) h Q) : WX l D base z M sh pc ls (.int i :: .ref a :: st) h Q :=
  fun p e s m args below meth c C0 H locs A hP hS hL => va_iald C0.1 C0.2.1 C0.2.2.2.2.2.2.2.1.1 hP.2 a 0 (wl_get D base sh h hsh) rfl hi hd (kk p e s m args below meth c C0 H locs A hP hS hL)
theorem wx_bald {a n : Nat} {i : Int32} (hd : decode M.2.1 pc = .ok (.baload, 1)) (hsh : sh[a]? = some (.inl (1, n))) (hi : vp_in i n) (kk : WX l D base z M sh (pc + 1) ls (.int (gI h a i.toNatClampNeg) :: st) h Q) : WX l D base z M sh pc ls (.int i :: .ref a :: st) h Q :=
  fun p e s m args below meth c C0 H locs A hP hS hL => va_zald C0.1 C0.2.1 C0.2.2.2.2.2.2.2.1.1 hP.2 a 1 (wl_get D base sh h hsh) rfl hi hd (kk p e s m args below meth c C0 H locs A hP hS hL)
theorem wx_alen {a n t : Nat} (hd : decode M.2.1 pc = .ok (.arraylength, 1)) (hsh : sh[a]? = some (.inl (0, n))) (kk : WX l D base z M sh (pc + 1) ls (.int (Int32.ofNat n) :: st) h Q) : WX l D base z M sh pc ls (.ref a :: st) h Q :=
  fun p e s m args below meth c C0 H locs A hP hS hL => va_alen C0.1 C0.2.1 C0.2.2.2.2.2.2.2.1.1 hP.2 a 0 (wl_get D base sh h hsh) rfl rfl hd (kk p e s m args below meth c C0 H locs A hP hS hL)
theorem up_upd {h : Hp} {a k : Nat} {v : Int32} : upd (gI h a) k v = gI (sI h a k v) a := by
  funext j
  rw [gI_sI]
  unfold upd
  by_cases e : j = k
  · rw [if_pos e, if_pos ⟨rfl, e⟩]
  · rw [if_neg e, if_neg (fun q => e q.2)]
theorem wx_iast {a n : Nat} {i v : Int32} (hd : decode M.2.1 pc = .ok (.iastore, 1)) (hsh : sh[a]? = some (.inl (0, n))) (hi : vp_in i n) (kk : WX l D base z M sh (pc + 1) ls st (sI h a i.toNatClampNeg v) Q) : WX l D base z M sh pc ls (.int v :: .int i :: .ref a :: st) h Q := by
  intro p e s m args below meth c C0 H locs A hP hS hL
  have ha := wl_get D base sh h hsh
  refine W.iast C0.1 C0.2.1 (hP.2 a _ ha) ((C0.2.2.2.2.2.2.2.1.1.2 0 _ rfl).1 n (fun j => .int (gI h a j))) (fun q => by cases q) (by show ¬ (i < 0 ∨ (arrV _ _ _).slots.size ≤ _); rw [arrV_size]; exact hi) rfl rfl hd fun H1 e1 zz oq => ?_
  have hP1 := hP.2.set (wl_D D base sh h) ha (e := .inl (D.1 10, n, .inl (upd (gI h a) i.toNatClampNeg v))) (H1 := H1) (by
    show H1[base + a]? = some (vp_cell _ _)
    rw [e1]
    show some (Cell.setSlot (vp_cell (D.1 10) (n, .inl (gI h a))) _ _) = _
    rw [vp_cell_i, vp_cell_i, arrV_store]
    congr 2
    funext q
    by_cases hq : q = i.toNatClampNeg
    · subst hq
      simp [updV, upd]
    · simp [updV, upd, hq]) oq
  have e2 : (wl D base sh h).set a (base + a, .inl (D.1 10, n, .inl (gI (sI h a i.toNatClampNeg v) a))) = wl D base sh (sI h a i.toNatClampNeg v) := (wl_set (h' := sI h a i.toNatClampNeg v) (x' := .inl (0, n)) hsh rfl (fun b y hb _ => en_ext y (gI_ne hb) (fun _ => rfl) (fun _ => rfl))).trans (by rw [set_same hsh])
  rw [up_upd, e2] at hP1
  exact kk p e s m args below meth c C0 H1 _ A ⟨by rw [zz]; exact hP.1, hP1⟩ (hS.put zz oq (Nat.le_add_right _ _)) hL
theorem wx_bast {a n : Nat} {i v : Int32} (hd : decode M.2.1 pc = .ok (.bastore, 1)) (hsh : sh[a]? = some (.inl (1, n))) (hi : vp_in i n) (hv : vp_nar .boolean v = v) (kk : WX l D base z M sh (pc + 1) ls st (sI h a i.toNatClampNeg v) Q) : WX l D base z M sh pc ls (.int v :: .int i :: .ref a :: st) h Q := by
  intro p e s m args below meth c C0 H locs A hP hS hL
  have ha := wl_get D base sh h hsh
  refine W.zast C0.1 C0.2.1 (hP.2 a _ ha) ((C0.2.2.2.2.2.2.2.1.1.2 1 _ rfl).1 n (fun j => .int (gI h a j))) (fun q => by cases q) (by show ¬ (i < 0 ∨ (arrV _ _ _).slots.size ≤ _); rw [arrV_size]; exact hi) rfl rfl hd fun H1 e1 zz oq => ?_
  have hP1 := hP.2.set (wl_D D base sh h) ha (e := .inl (D.1 11, n, .inl (upd (gI h a) i.toNatClampNeg (vp_nar .boolean v)))) (H1 := H1) (by
    show H1[base + a]? = some (vp_cell _ _)
    rw [e1]
    show some (Cell.setSlot (vp_cell (D.1 11) (n, .inl (gI h a))) _ _) = _
    rw [vp_cell_i, vp_cell_i, arrV_store]
    congr 2
    funext q
    by_cases hq : q = i.toNatClampNeg
    · subst hq
      simp [updV, upd, vp_nar]
      try rfl
    · simp [updV, upd, hq]) oq
  have e2 : (wl D base sh h).set a (base + a, .inl (D.1 11, n, .inl (gI (sI h a i.toNatClampNeg v) a))) = wl D base sh (sI h a i.toNatClampNeg v) := (wl_set (h' := sI h a i.toNatClampNeg v) (x' := .inl (1, n)) hsh rfl (fun b y hb _ => en_ext y (gI_ne hb) (fun _ => rfl) (fun _ => rfl))).trans (by rw [set_same hsh])
  rw [hv, up_upd, e2] at hP1
  exact kk p e s m args below meth c C0 H1 _ A ⟨by rw [zz]; exact hP.1, hP1⟩ (hS.put zz oq (Nat.le_add_right _ _)) hL
theorem wx_aald {a n r : Nat} {i : Int32} (hd : decode M.2.1 pc = .ok (.aaload, 1)) (hsh : sh[a]? = some (.inl (2, n))) (hi : vp_in i n) (hr : gR h a i.toNatClampNeg = some r) (kk : WX l D base z M sh (pc + 1) ls (.ref r :: st) h Q) : WX l D base z M sh pc ls (.int i :: .ref a :: st) h Q := by
  intro p e s m args below meth c C0 H locs A hP hS hL
  have hlt : i.toNatClampNeg < n := Nat.not_le.mp fun q => hi (Or.inr q)
  exact W.aald (v := .ref (base + r)) C0.1 C0.2.1 (hP.2 a _ (wl_get D base sh h hsh)) ((C0.2.2.2.2.2.2.2.1.1.2 2 _ rfl).1 n (fun j => va_rf (rfv base (gR h a j)))) rfl (fun q => by cases q) (by show ¬ (i < 0 ∨ (arrV _ _ _).slots.size ≤ _); rw [arrV_size]; exact hi) (by show (arrV _ _ _).slots[_]? = _; rw [arrV_read _ _ hlt]; show some (va_rf (rfv base (gR h a i.toNatClampNeg))) = _; rw [hr]; rfl) rfl rfl hd (kk p e s m args below meth c C0 H locs A hP hS hL)
theorem wx_aast {a n r k : Nat} {i : Int32} (hd : decode M.2.1 pc = .ok (.aastore, 1)) (hsh : sh[a]? = some (.inl (2, n))) (hr : sh[r]? = some (.inl (0, k))) (hi : vp_in i n) (kk : WX l D base z M sh (pc + 1) ls st (sR h a i.toNatClampNeg (some r)) Q) : WX l D base z M sh pc ls (.ref r :: .int i :: .ref a :: st) h Q := by
  intro p e s m args below meth c C0 H locs A hP hS hL
  have hlt : i.toNatClampNeg < n := Nat.not_le.mp fun q => hi (Or.inr q)
  have h0 : ¬ i < 0 := fun q => hi (Or.inl q)
  have ha := wl_get D base sh h hsh
  have hrc := hP.2 r _ (wl_get D base sh h hr)
  obtain ⟨comp, cA2, kA, k3, -, k1, k2, k4⟩ := AOA_spec C0.2.2.2.2.2.2.2.1.2.2.2.2
  have q1 : s.vm.findClass ("[" ++ (FieldType.array .int).toString) = some (D.1 12) := (C0.2.2.2.2.2.2.2.1.1.2 2 _ rfl).2
  have q2 : s.vm.findClass (FieldType.array .int).toString = some (D.1 10) := (C0.2.2.2.2.2.2.2.1.1.2 0 _ rfl).2
  cases q1.symm.trans k4
  cases k3.symm.trans q2
  obtain ⟨kE, hkE, -⟩ := Vm.findClass_spec k3
  refine W.aast C0.1 C0.2.1 (hP.2 a _ ha) (fun q hq => by cases hq) (fun hq => by cases hq) k1 k2 rfl hkE ⟨h0, by show _ < (arrV _ _ _).slots.size; rw [arrV_size]; exact hlt⟩ hrc (fun q hq => by cases hq) hkE (va_asg _ _) rfl rfl hd fun H1 e1 zz oq => ?_
  have hP1 := hP.2.set (wl_D D base sh h) ha (e := en D base (sR h a i.toNatClampNeg (some r)) a (.inl (2, n))) (H1 := H1) (by
    show H1[base + a]? = some (vp_cell _ _)
    rw [e1]
    show some (Cell.setSlot (vp_cell (D.1 12) (n, .inr (.inr (.inr (.inr (fun k => rfv base (gR h a k))))))) _ _) = some (vp_cell (D.1 12) (n, .inr (.inr (.inr (.inr (fun k => rfv base (gR (sR h a i.toNatClampNeg (some r)) a k)))))))
    rw [vp_cell_q, vp_cell_q, arrV_store]
    congr 2
    funext q
    rw [gR_sR]
    by_cases hq : q = i.toNatClampNeg
    · subst hq
      simp [updV, va_rf, rfv]
    · simp [updV, hq]) oq
  have e2 : (wl D base sh h).set a (base + a, en D base (sR h a i.toNatClampNeg (some r)) a (.inl (2, n))) = wl D base sh (sR h a i.toNatClampNeg (some r)) := (wl_set (h := h) (h' := sR h a i.toNatClampNeg (some r)) (x' := .inl (2, n)) hsh rfl (fun b y hb _ => en_ext y (fun _ => rfl) (fun _ => rfl) (gR_ne hb))).trans (by rw [set_same hsh])
  rw [e2] at hP1
  exact kk p e s m args below meth c C0 H1 _ A ⟨by rw [zz]; exact hP.1, hP1⟩ (hS.put zz oq (Nat.le_add_right _ _)) hL
end HPR
end
section
section CLR
variable {p : Program} {l : Launch} {e : Env} {R : Room} {s : State} {m : MethodId} {args : Array Value} {below : List Frame} {meth : Method} {c : Code} {H : Heap} {locs : List Loc} {cells slots : Nat} {Qf : State → Prop}
theorem W_call {D : va_G} {base : Nat} {pc : Nat} {A : Array Slot} {rest st0 : List Value} {a : Array Value} {H0 : Heap} {mc ms : Nat} {Q' : List Sh → Hp → Option Value → Prop} (hr : va_Run p l e R s m args below meth c H locs cells slots mc ms (F0 m pc A st0) rest (QX D base Q' a) (fun q => base ≤ q)) (hS : va_S (fun q => base ≤ q) H0 H locs)
    (kk : ∀ (sh' : List Sh) (h' : Hp) (r : Option Value) (H1 : Heap) (locs1 : List Loc), Q' sh' h' r → PX D base sh' h' H1 → va_S (fun q => base ≤ q) H0 H1 locs1 → W p l e R s m args below meth c H1 locs1 (cells + mc) (slots + ms) Qf (F0 m (pc + 3) A ((r.map (up base)).toList ++ rest))) : W p l e R s m args below meth c H locs cells slots Qf (F0 m pc A st0) := by
  intro T hT X
  obtain ⟨v, st₀, t, T', L, h0, X', hL, e1, e2, ⟨sh', h', r, hv, hq, hP1, hz, hk⟩, st⟩ := hr T hT X
  cases hv
  rw [h0] at hz hk
  obtain ⟨t2, a1, b1⟩ := kk sh' h' r T'.heap (locs ++ L) hq (by rw [e1]; exact hP1)
    ⟨Nat.le_trans hS.1 (by rw [e1]; exact hz), fun q h1 h2 => by rw [e1, hk q (Nat.lt_of_lt_of_le h1 hS.1) h2]; exact hS.2.1 q h1 h2, fun q hq => by
      rcases List.mem_append.mp hq with h | h
      · exact hS.2.2 q h
      · exact hL q h⟩ T' rfl X'
  exact ⟨t2, st t2 a1, b1⟩
end CLR
/-- a callee's words and name, n parameters -/
def okM (M' : MI) (n : Nat) : Prop := Cond.code M'.1 M'.2.1 M'.2.2.1 M'.2.2.2.1 ∈ lw_gt ∧ Cond.initialized M'.1.cls ∈ lw_gt ∧ (M'.1.cls ≠ "java/lang/invoke/MethodHandle" ∧ M'.1.cls ≠ "java/lang/invoke/VarHandle" ∧ (parseMethodDescriptor M'.1.desc).map (fun d => d.parameters.length) = some n)
/-- the room of a callee in its caller's -/
def okR (M M' : MI) : Prop := M'.2.2.2.2.frames + 1 ≤ M.2.2.2.2.frames ∧ 8 + (M'.2.2.1 + 11) + M'.2.2.2.2.locals ≤ M.2.2.2.2.locals
theorem wsM_in {M' : MI} (h : Cond.code M'.1 M'.2.1 M'.2.2.1 M'.2.2.2.1 ∈ lw_gt) : GoodIn lw_gt (wsM M') := fun w hw => by
  rcases List.mem_cons.mp hw with e | hw
  · subst e; exact gt_good h
  · exact gt_good hw
theorem fb_pc (D : va_G) (base : Nat) (sh : List Sh) (h : Hp) (av : List Value) : FrameBlind (va_Pc av (fun U => PX D base sh h U.heap ∧ KX D U)) := fun a U g mk q => ⟨q.1, q.2.1, KX.same (u := U) (U := U.calling g mk a) rfl q.2.2⟩
section CLX
variable {l : Launch} {D : va_G} {base : Nat} {z : Nat × Nat} {M M' : MI} {sh : List Sh} {pc idx n : Nat} {ls : List (Option Value)} {st rest : List Value} {h : Hp} {Q Q' : List Sh → Hp → Option Value → Prop} {As : List Value}
theorem cb_of {p : Program} {s : State} {m : MethodId} {args : Array Value} {meth : Method} {c : Code} (C : CX D base M p s m args meth c) (hM : okM M' n) (hR : okR M M') (hl : Cond.methodLink M.1.cls idx M'.1 ∈ lw_gt) : CallB M.2.2.2.2 s args M.1.cls idx M'.1 M'.2.1 M'.2.2.1 M'.2.2.2.1 (wsM M') M'.2.2.2.2 M'.2.2.2.2.cells M'.2.2.2.2.slots n :=
  callB_of n (Ts := lw_gt) (fun w hw => C.2.2.2.2.2.1 w hw) (wsM_in hM.1) rfl rfl rfl (C.2.2.2.2.2.1 _ hM.2.1) (C.2.2.2.2.2.1 _ hl) hM.2.2 hR
theorem up_rev (As rest : List Value) (b : Nat) : (As.reverse ++ .ref b :: rest).map (up base) = (As.map (up base)).reverse ++ .ref (base + b) :: rest.map (up base) := by
  rw [List.map_append, List.map_reverse]; rfl
theorem up_sum (rest : List Value) : ((rest.map (up base)).map fun v => v.category).sum = (rest.map fun v => v.category).sum := by
  rw [List.map_map]; congr 1; apply List.map_congr_left; intro v _; exact up_cat base v
theorem r_up (r : Option Value) : (r.map (up base)).toList ++ rest.map (up base) = (r.toList ++ rest).map (up base) := by cases r <;> rfl
/-- a virtual call; the callee may make cells -/
theorem wx_callVG {b ci : Nat} {q : vw_C} {fl : List (Nat × Option Nat)} (hd : decode M.2.1 pc = .ok (.invokevirtual idx, 3)) (hM : okM M' n) (hR : okR M M') (hl : Cond.methodLink M.1.cls idx M'.1 ∈ lw_gt) (hi : Cond.instanceMethod M'.1 ∈ lw_gt) (hs : Cond.selects M'.1.cls M'.1 M'.1 ∈ lw_gt) (hsh : sh[b]? = some (.inr (ci, fl))) (hc : classes[ci]? = some q) (hq : q.1 = M'.1.cls)
    (hsp : SX l D base M' sh (.ref b :: As) h Q') (hn : As.length = n) (hst : st = As.reverse ++ .ref b :: rest) (hw : (rest.map fun v => v.category).sum ≤ 8) (hf : sh.length - z.1 + M'.2.2.2.2.cells ≤ M.2.2.2.2.cells ∧ szs sh - z.2 + M'.2.2.2.2.slots ≤ M.2.2.2.2.slots)
    (k : ∀ (sh' : List Sh) (h' : Hp) (r : Option Value), Q' sh' h' r → (sh.length - z.1 + M'.2.2.2.2.cells = sh'.length - z.1 ∧ szs sh - z.2 + M'.2.2.2.2.slots = szs sh' - z.2) ∧ WX l D base z M sh' (pc + 3) ls (r.toList ++ rest) h' Q) : WX l D base z M sh pc ls st h Q := by
  intro p e s m args below meth c C H locs A hP hS hL
  subst hst
  rw [up_rev]
  have hrecv := va_recv C.2.2.2.2.2.2.2.1.1 hP.2 hc (wl_get D base sh h hsh)
  rw [hq] at hrecv
  refine W_call (va_runV (C := M'.1.cls) (As := As.map (up base)) (rest := rest.map (up base)) ⟨C.1, C.2.1, C.2.2.2.1, C.2.2.2.2.1, fun w hw => C.2.2.2.2.2.1 w hw⟩ hsp ⟨cb_of C hM hR hl, C.2.2.2.2.2.1 _ hi, C.2.2.2.2.2.1 _ hs⟩ ⟨fb_pc D base sh h _, hrecv, fun U hU hW => ⟨rfl, by rw [hU]; exact hP, C.2.2.2.2.2.2.2.1.warm hW⟩⟩ rfl (by rw [List.length_map]; exact hn) hL.1 rfl (lv_room (by rw [up_sum]; exact hw)) hd hf) hS (fun sh' h' r H1 locs1 hq1 hP1 hS1 => ?_)
  obtain ⟨⟨e1, e2⟩, k1⟩ := k sh' h' r hq1
  rw [r_up, e1, e2]
  exact k1 p e s m args below meth c C H1 locs1 A hP1 hS1 hL
theorem wx_callSG (hd : decode M.2.1 pc = .ok (.invokestatic idx, 3)) (hM : okM M' n) (hR : okR M M') (hl : Cond.methodLink M.1.cls idx M'.1 ∈ lw_gt) (hi : Cond.static M'.1 ∈ lw_gt)
    (hsp : SX l D base M' sh As h Q') (hn : As.length = n) (hst : st = As.reverse ++ rest) (hw : (rest.map fun v => v.category).sum ≤ 8) (hf : sh.length - z.1 + M'.2.2.2.2.cells ≤ M.2.2.2.2.cells ∧ szs sh - z.2 + M'.2.2.2.2.slots ≤ M.2.2.2.2.slots)
    (k : ∀ (sh' : List Sh) (h' : Hp) (r : Option Value), Q' sh' h' r → (sh.length - z.1 + M'.2.2.2.2.cells = sh'.length - z.1 ∧ szs sh - z.2 + M'.2.2.2.2.slots = szs sh' - z.2) ∧ WX l D base z M sh' (pc + 3) ls (r.toList ++ rest) h' Q) : WX l D base z M sh pc ls st h Q := by
  intro p e s m args below meth c C H locs A hP hS hL
  subst hst
  rw [List.map_append, List.map_reverse]
  refine W_call (va_runS (As := As.map (up base)) (rest := rest.map (up base)) ⟨C.1, C.2.1, C.2.2.2.1, C.2.2.2.2.1, fun w hw => C.2.2.2.2.2.1 w hw⟩ hsp ⟨cb_of C hM hR hl, C.2.2.2.2.2.1 _ hi⟩ ⟨fb_pc D base sh h _, fun U hU hW => ⟨rfl, by rw [hU]; exact hP, C.2.2.2.2.2.2.2.1.warm hW⟩⟩ rfl (by rw [List.length_map]; exact hn) hL.1 rfl (lv_room (by rw [up_sum]; exact hw)) hd hf) hS (fun sh' h' r H1 locs1 hq1 hP1 hS1 => ?_)
  obtain ⟨⟨e1, e2⟩, k1⟩ := k sh' h' r hq1
  rw [r_up, e1, e2]
  exact k1 p e s m args below meth c C H1 locs1 A hP1 hS1 hL
/-- a static call of a nest mate's private method -/
theorem wx_callSN (hd : decode M.2.1 pc = .ok (.invokestatic idx, 3)) (hM : okM M' n) (hR : okR M M') {host : String} (hl : ∀ U, KX D U → va_Nw (.methodLinkNest M.1.cls idx M'.1 host) U) (hi : Cond.static M'.1 ∈ lw_gt)
    (hsp : SX l D base M' sh As h Q') (hn : As.length = n) (hst : st = As.reverse ++ rest) (hw : (rest.map fun v => v.category).sum ≤ 8) (hf : sh.length - z.1 + M'.2.2.2.2.cells ≤ M.2.2.2.2.cells ∧ szs sh - z.2 + M'.2.2.2.2.slots ≤ M.2.2.2.2.slots)
    (k : ∀ (sh' : List Sh) (h' : Hp) (r : Option Value), Q' sh' h' r → (sh.length - z.1 + M'.2.2.2.2.cells = sh'.length - z.1 ∧ szs sh - z.2 + M'.2.2.2.2.slots = szs sh' - z.2) ∧ WX l D base z M sh' (pc + 3) ls (r.toList ++ rest) h' Q) : WX l D base z M sh pc ls st h Q := by
  intro p e s m args below meth c C H locs A hP hS hL
  subst hst
  rw [List.map_append, List.map_reverse]
  refine W_call (va_runSN (As := As.map (up base)) (rest := rest.map (up base)) ⟨C.1, C.2.1, C.2.2.2.1, C.2.2.2.2.1, fun w hw => C.2.2.2.2.2.1 w hw⟩ hsp ⟨va_cnB n (Ts := lw_gt) (fun w hw => C.2.2.2.2.2.1 w hw) (wsM_in hM.1) rfl rfl rfl (hl s C.2.2.2.2.2.2.2.1) (C.2.2.2.2.2.1 _ hM.2.1) hM.2.2 hR, C.2.2.2.2.2.1 _ hi, trivial⟩ ⟨fb_pc D base sh h _, fun U hU hW => ⟨rfl, by rw [hU]; exact hP, C.2.2.2.2.2.2.2.1.warm hW⟩⟩ rfl (by rw [List.length_map]; exact hn) hL.1 rfl (lv_room (by rw [up_sum]; exact hw)) hd hf) hS (fun sh' h' r H1 locs1 hq1 hP1 hS1 => ?_)
  obtain ⟨⟨e1, e2⟩, k1⟩ := k sh' h' r hq1
  rw [r_up, e1, e2]
  exact k1 p e s m args below meth c C H1 locs1 A hP1 hS1 hL
end CLX
end
