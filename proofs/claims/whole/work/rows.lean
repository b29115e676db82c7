section
-- ===== PART A: goes FIRST, ahead of the names: the tables' words, and 'selects' of the private methods out of them =====
/-- a private method of a class that the tables say can be made, by its rows of tables_1 -/
def lw_okq (q : MethodName × Nat) : Prop := (q.1.cls ≠ "java/lang/invoke/MethodHandle" ∧ q.1.cls ≠ "java/lang/invoke/VarHandle") ∧ Cond.instantiable q.1.cls q.2 ∈ tables_1 ∧ Cond.privateMethod q.1 ∈ tables_1 ∧ Cond.instanceMethod q.1 ∈ tables_1
theorem lw_p0 : lw_okq (⟨"LampMoths", "readInto", "(LLampMoths$Lane;)I"⟩, 15) := ⟨⟨by decide +kernel, by decide +kernel⟩, List.mem_of_getElem? (i := 8) (by decide +kernel), List.mem_of_getElem? (i := 152) (by decide +kernel), List.mem_of_getElem? (i := 153) (by decide +kernel)⟩
theorem lw_p1 : lw_okq (⟨"LampMoths$Reader", "goesOn", "(ZI)Z"⟩, 3) := ⟨⟨by decide +kernel, by decide +kernel⟩, List.mem_of_getElem? (i := 75) (by decide +kernel), List.mem_of_getElem? (i := 168) (by decide +kernel), List.mem_of_getElem? (i := 169) (by decide +kernel)⟩
theorem lw_p2 : lw_okq (⟨"LampMoths$Reader", "takesPart", "(ILLampMoths$Lane;)Z"⟩, 3) := ⟨⟨by decide +kernel, by decide +kernel⟩, List.mem_of_getElem? (i := 75) (by decide +kernel), List.mem_of_getElem? (i := 172) (by decide +kernel), List.mem_of_getElem? (i := 173) (by decide +kernel)⟩
theorem lw_p3 : lw_okq (⟨"LampMoths$Reader", "takesFigure", "(ILLampMoths$Lane;)Z"⟩, 3) := ⟨⟨by decide +kernel, by decide +kernel⟩, List.mem_of_getElem? (i := 75) (by decide +kernel), List.mem_of_getElem? (i := 176) (by decide +kernel), List.mem_of_getElem? (i := 177) (by decide +kernel)⟩
theorem lw_p4 : lw_okq (⟨"LampMoths$Lane", "reckon", "()V"⟩, 12) := ⟨⟨by decide +kernel, by decide +kernel⟩, List.mem_of_getElem? (i := 16) (by decide +kernel), List.mem_of_getElem? (i := 219) (by decide +kernel), List.mem_of_getElem? (i := 220) (by decide +kernel)⟩
theorem lw_p5 : lw_okq (⟨"LampMoths$Lane", "glow", "(I)I"⟩, 12) := ⟨⟨by decide +kernel, by decide +kernel⟩, List.mem_of_getElem? (i := 16) (by decide +kernel), List.mem_of_getElem? (i := 242) (by decide +kernel), List.mem_of_getElem? (i := 243) (by decide +kernel)⟩
theorem lw_p6 : lw_okq (⟨"LampMoths$Lane", "windHelp", "(II)I"⟩, 12) := ⟨⟨by decide +kernel, by decide +kernel⟩, List.mem_of_getElem? (i := 16) (by decide +kernel), List.mem_of_getElem? (i := 246) (by decide +kernel), List.mem_of_getElem? (i := 247) (by decide +kernel)⟩
theorem lw_p7 : lw_okq (⟨"LampMoths$Lane", "sweetness", "(II)I"⟩, 12) := ⟨⟨by decide +kernel, by decide +kernel⟩, List.mem_of_getElem? (i := 16) (by decide +kernel), List.mem_of_getElem? (i := 250) (by decide +kernel), List.mem_of_getElem? (i := 251) (by decide +kernel)⟩
theorem lw_p8 : lw_okq (⟨"LampMoths$Lane", "taxOf", "(I)I"⟩, 12) := ⟨⟨by decide +kernel, by decide +kernel⟩, List.mem_of_getElem? (i := 16) (by decide +kernel), List.mem_of_getElem? (i := 257) (by decide +kernel), List.mem_of_getElem? (i := 258) (by decide +kernel)⟩
theorem lw_p9 : lw_okq (⟨"LampMoths$Lane", "charge", "(II)V"⟩, 12) := ⟨⟨by decide +kernel, by decide +kernel⟩, List.mem_of_getElem? (i := 16) (by decide +kernel), List.mem_of_getElem? (i := 261) (by decide +kernel), List.mem_of_getElem? (i := 262) (by decide +kernel)⟩
theorem lw_p10 : lw_okq (⟨"LampMoths", "turned", "(II)I"⟩, 15) := ⟨⟨by decide +kernel, by decide +kernel⟩, List.mem_of_getElem? (i := 8) (by decide +kernel), List.mem_of_getElem? (i := 312) (by decide +kernel), List.mem_of_getElem? (i := 313) (by decide +kernel)⟩
theorem lw_p11 : lw_okq (⟨"LampMoths", "remember", "()V"⟩, 15) := ⟨⟨by decide +kernel, by decide +kernel⟩, List.mem_of_getElem? (i := 8) (by decide +kernel), List.mem_of_getElem? (i := 320) (by decide +kernel), List.mem_of_getElem? (i := 321) (by decide +kernel)⟩
theorem lw_p12 : lw_okq (⟨"LampMoths", "forgetFirstAct", "()V"⟩, 15) := ⟨⟨by decide +kernel, by decide +kernel⟩, List.mem_of_getElem? (i := 8) (by decide +kernel), List.mem_of_getElem? (i := 324) (by decide +kernel), List.mem_of_getElem? (i := 325) (by decide +kernel)⟩
theorem lw_p13 : lw_okq (⟨"LampMoths$Lane", "flyNearer", "(II)V"⟩, 12) := ⟨⟨by decide +kernel, by decide +kernel⟩, List.mem_of_getElem? (i := 16) (by decide +kernel), List.mem_of_getElem? (i := 361) (by decide +kernel), List.mem_of_getElem? (i := 362) (by decide +kernel)⟩
theorem lw_p14 : lw_okq (⟨"LampMoths", "owesAtMost", "(III)Z"⟩, 15) := ⟨⟨by decide +kernel, by decide +kernel⟩, List.mem_of_getElem? (i := 8) (by decide +kernel), List.mem_of_getElem? (i := 387) (by decide +kernel), List.mem_of_getElem? (i := 388) (by decide +kernel)⟩
theorem lw_p15 : lw_okq (⟨"LampMoths", "didOnTrial", "(II)Z"⟩, 15) := ⟨⟨by decide +kernel, by decide +kernel⟩, List.mem_of_getElem? (i := 8) (by decide +kernel), List.mem_of_getElem? (i := 420) (by decide +kernel), List.mem_of_getElem? (i := 421) (by decide +kernel)⟩
def lw_privs_1 : List (MethodName × Nat) := [(⟨"LampMoths", "readInto", "(LLampMoths$Lane;)I"⟩, 15), (⟨"LampMoths$Reader", "goesOn", "(ZI)Z"⟩, 3), (⟨"LampMoths$Reader", "takesPart", "(ILLampMoths$Lane;)Z"⟩, 3), (⟨"LampMoths$Reader", "takesFigure", "(ILLampMoths$Lane;)Z"⟩, 3), (⟨"LampMoths$Lane", "reckon", "()V"⟩, 12), (⟨"LampMoths$Lane", "glow", "(I)I"⟩, 12), (⟨"LampMoths$Lane", "windHelp", "(II)I"⟩, 12), (⟨"LampMoths$Lane", "sweetness", "(II)I"⟩, 12), (⟨"LampMoths$Lane", "taxOf", "(I)I"⟩, 12), (⟨"LampMoths$Lane", "charge", "(II)V"⟩, 12), (⟨"LampMoths", "turned", "(II)I"⟩, 15), (⟨"LampMoths", "remember", "()V"⟩, 15), (⟨"LampMoths", "forgetFirstAct", "()V"⟩, 15), (⟨"LampMoths$Lane", "flyNearer", "(II)V"⟩, 12), (⟨"LampMoths", "owesAtMost", "(III)Z"⟩, 15), (⟨"LampMoths", "didOnTrial", "(II)Z"⟩, 15)]
theorem lw_r1 : ∀ q ∈ lw_privs_1, lw_okq q := List.forall_mem_cons.mpr ⟨lw_p0, List.forall_mem_cons.mpr ⟨lw_p1, List.forall_mem_cons.mpr ⟨lw_p2, List.forall_mem_cons.mpr ⟨lw_p3, List.forall_mem_cons.mpr ⟨lw_p4, List.forall_mem_cons.mpr ⟨lw_p5, List.forall_mem_cons.mpr ⟨lw_p6, List.forall_mem_cons.mpr ⟨lw_p7, List.forall_mem_cons.mpr ⟨lw_p8, List.forall_mem_cons.mpr ⟨lw_p9, List.forall_mem_cons.mpr ⟨lw_p10, List.forall_mem_cons.mpr ⟨lw_p11, List.forall_mem_cons.mpr ⟨lw_p12, List.forall_mem_cons.mpr ⟨lw_p13, List.forall_mem_cons.mpr ⟨lw_p14, List.forall_mem_cons.mpr ⟨lw_p15, fun _ h => absurd h List.not_mem_nil⟩⟩⟩⟩⟩⟩⟩⟩⟩⟩⟩⟩⟩⟩⟩⟩
theorem lw_p16 : lw_okq (⟨"LampMoths", "blewOnTrial", "(I)Z"⟩, 15) := ⟨⟨by decide +kernel, by decide +kernel⟩, List.mem_of_getElem? (i := 8) (by decide +kernel), List.mem_of_getElem? (i := 424) (by decide +kernel), List.mem_of_getElem? (i := 425) (by decide +kernel)⟩
theorem lw_p17 : lw_okq (⟨"LampMoths", "movedOnTrial", "(I)Z"⟩, 15) := ⟨⟨by decide +kernel, by decide +kernel⟩, List.mem_of_getElem? (i := 8) (by decide +kernel), List.mem_of_getElem? (i := 428) (by decide +kernel), List.mem_of_getElem? (i := 429) (by decide +kernel)⟩
theorem lw_p18 : lw_okq (⟨"LampMoths", "reckonGroups", "()V"⟩, 15) := ⟨⟨by decide +kernel, by decide +kernel⟩, List.mem_of_getElem? (i := 8) (by decide +kernel), List.mem_of_getElem? (i := 436) (by decide +kernel), List.mem_of_getElem? (i := 437) (by decide +kernel)⟩
theorem lw_p19 : lw_okq (⟨"LampMoths", "ordersWith", "(I)I"⟩, 15) := ⟨⟨by decide +kernel, by decide +kernel⟩, List.mem_of_getElem? (i := 8) (by decide +kernel), List.mem_of_getElem? (i := 441) (by decide +kernel), List.mem_of_getElem? (i := 442) (by decide +kernel)⟩
theorem lw_p20 : lw_okq (⟨"LampMoths", "trialFitsCounted", "()Z"⟩, 15) := ⟨⟨by decide +kernel, by decide +kernel⟩, List.mem_of_getElem? (i := 8) (by decide +kernel), List.mem_of_getElem? (i := 467) (by decide +kernel), List.mem_of_getElem? (i := 468) (by decide +kernel)⟩
theorem lw_p21 : lw_okq (⟨"LampMoths", "gain", "(IIII)I"⟩, 15) := ⟨⟨by decide +kernel, by decide +kernel⟩, List.mem_of_getElem? (i := 8) (by decide +kernel), List.mem_of_getElem? (i := 475) (by decide +kernel), List.mem_of_getElem? (i := 476) (by decide +kernel)⟩
theorem lw_p22 : lw_okq (⟨"LampMoths", "passWeekOnTrial", "(I)V"⟩, 15) := ⟨⟨by decide +kernel, by decide +kernel⟩, List.mem_of_getElem? (i := 8) (by decide +kernel), List.mem_of_getElem? (i := 498) (by decide +kernel), List.mem_of_getElem? (i := 499) (by decide +kernel)⟩
theorem lw_p23 : lw_okq (⟨"LampMothsModel", "readStreet", "()I"⟩, 35) := ⟨⟨by decide +kernel, by decide +kernel⟩, List.mem_of_getElem? (i := 510) (by decide +kernel), List.mem_of_getElem? (i := 638) (by decide +kernel), List.mem_of_getElem? (i := 639) (by decide +kernel)⟩
theorem lw_p24 : lw_okq (⟨"LampMothsModel", "figure", "(II)I"⟩, 35) := ⟨⟨by decide +kernel, by decide +kernel⟩, List.mem_of_getElem? (i := 510) (by decide +kernel), List.mem_of_getElem? (i := 642) (by decide +kernel), List.mem_of_getElem? (i := 643) (by decide +kernel)⟩
theorem lw_p25 : lw_okq (⟨"LampMothsModel", "readPart", "()Z"⟩, 35) := ⟨⟨by decide +kernel, by decide +kernel⟩, List.mem_of_getElem? (i := 510) (by decide +kernel), List.mem_of_getElem? (i := 646) (by decide +kernel), List.mem_of_getElem? (i := 647) (by decide +kernel)⟩
theorem lw_p26 : lw_okq (⟨"LampMothsModel", "readOneWindow", "()Z"⟩, 35) := ⟨⟨by decide +kernel, by decide +kernel⟩, List.mem_of_getElem? (i := 510) (by decide +kernel), List.mem_of_getElem? (i := 650) (by decide +kernel), List.mem_of_getElem? (i := 651) (by decide +kernel)⟩
theorem lw_p27 : lw_okq (⟨"LampMothsModel", "readPlace", "()I"⟩, 35) := ⟨⟨by decide +kernel, by decide +kernel⟩, List.mem_of_getElem? (i := 510) (by decide +kernel), List.mem_of_getElem? (i := 654) (by decide +kernel), List.mem_of_getElem? (i := 655) (by decide +kernel)⟩
theorem lw_p28 : lw_okq (⟨"LampMothsModel", "readOneMoth", "()Z"⟩, 35) := ⟨⟨by decide +kernel, by decide +kernel⟩, List.mem_of_getElem? (i := 510) (by decide +kernel), List.mem_of_getElem? (i := 659) (by decide +kernel), List.mem_of_getElem? (i := 660) (by decide +kernel)⟩
theorem lw_p29 : lw_okq (⟨"LampMothsModel", "paid", "([I)I"⟩, 35) := ⟨⟨by decide +kernel, by decide +kernel⟩, List.mem_of_getElem? (i := 510) (by decide +kernel), List.mem_of_getElem? (i := 671) (by decide +kernel), List.mem_of_getElem? (i := 672) (by decide +kernel)⟩
theorem lw_p30 : lw_okq (⟨"LampMothsModel", "layOwed", "([I)I"⟩, 35) := ⟨⟨by decide +kernel, by decide +kernel⟩, List.mem_of_getElem? (i := 510) (by decide +kernel), List.mem_of_getElem? (i := 675) (by decide +kernel), List.mem_of_getElem? (i := 676) (by decide +kernel)⟩
theorem lw_p31 : lw_okq (⟨"LampMothsModel", "strongest", "([II)I"⟩, 35) := ⟨⟨by decide +kernel, by decide +kernel⟩, List.mem_of_getElem? (i := 510) (by decide +kernel), List.mem_of_getElem? (i := 679) (by decide +kernel), List.mem_of_getElem? (i := 680) (by decide +kernel)⟩
def lw_privs_2 : List (MethodName × Nat) := [(⟨"LampMoths", "blewOnTrial", "(I)Z"⟩, 15), (⟨"LampMoths", "movedOnTrial", "(I)Z"⟩, 15), (⟨"LampMoths", "reckonGroups", "()V"⟩, 15), (⟨"LampMoths", "ordersWith", "(I)I"⟩, 15), (⟨"LampMoths", "trialFitsCounted", "()Z"⟩, 15), (⟨"LampMoths", "gain", "(IIII)I"⟩, 15), (⟨"LampMoths", "passWeekOnTrial", "(I)V"⟩, 15), (⟨"LampMothsModel", "readStreet", "()I"⟩, 35), (⟨"LampMothsModel", "figure", "(II)I"⟩, 35), (⟨"LampMothsModel", "readPart", "()Z"⟩, 35), (⟨"LampMothsModel", "readOneWindow", "()Z"⟩, 35), (⟨"LampMothsModel", "readPlace", "()I"⟩, 35), (⟨"LampMothsModel", "readOneMoth", "()Z"⟩, 35), (⟨"LampMothsModel", "paid", "([I)I"⟩, 35), (⟨"LampMothsModel", "layOwed", "([I)I"⟩, 35), (⟨"LampMothsModel", "strongest", "([II)I"⟩, 35)]
theorem lw_r2 : ∀ q ∈ lw_privs_2, lw_okq q := List.forall_mem_cons.mpr ⟨lw_p16, List.forall_mem_cons.mpr ⟨lw_p17, List.forall_mem_cons.mpr ⟨lw_p18, List.forall_mem_cons.mpr ⟨lw_p19, List.forall_mem_cons.mpr ⟨lw_p20, List.forall_mem_cons.mpr ⟨lw_p21, List.forall_mem_cons.mpr ⟨lw_p22, List.forall_mem_cons.mpr ⟨lw_p23, List.forall_mem_cons.mpr ⟨lw_p24, List.forall_mem_cons.mpr ⟨lw_p25, List.forall_mem_cons.mpr ⟨lw_p26, List.forall_mem_cons.mpr ⟨lw_p27, List.forall_mem_cons.mpr ⟨lw_p28, List.forall_mem_cons.mpr ⟨lw_p29, List.forall_mem_cons.mpr ⟨lw_p30, List.forall_mem_cons.mpr ⟨lw_p31, fun _ h => absurd h List.not_mem_nil⟩⟩⟩⟩⟩⟩⟩⟩⟩⟩⟩⟩⟩⟩⟩⟩
theorem lw_p32 : lw_okq (⟨"LampMothsModel", "pullOf", "([III)I"⟩, 35) := ⟨⟨by decide +kernel, by decide +kernel⟩, List.mem_of_getElem? (i := 510) (by decide +kernel), List.mem_of_getElem? (i := 683) (by decide +kernel), List.mem_of_getElem? (i := 684) (by decide +kernel)⟩
theorem lw_p33 : lw_okq (⟨"LampMothsModel", "readers", "([I)I"⟩, 35) := ⟨⟨by decide +kernel, by decide +kernel⟩, List.mem_of_getElem? (i := 510) (by decide +kernel), List.mem_of_getElem? (i := 693) (by decide +kernel), List.mem_of_getElem? (i := 694) (by decide +kernel)⟩
theorem lw_p34 : lw_okq (⟨"LampMothsModel", "reads", "([II)Z"⟩, 35) := ⟨⟨by decide +kernel, by decide +kernel⟩, List.mem_of_getElem? (i := 510) (by decide +kernel), List.mem_of_getElem? (i := 697) (by decide +kernel), List.mem_of_getElem? (i := 698) (by decide +kernel)⟩
theorem lw_p35 : lw_okq (⟨"LampMothsModel", "noWindow", "(I)Z"⟩, 35) := ⟨⟨by decide +kernel, by decide +kernel⟩, List.mem_of_getElem? (i := 510) (by decide +kernel), List.mem_of_getElem? (i := 706) (by decide +kernel), List.mem_of_getElem? (i := 707) (by decide +kernel)⟩
theorem lw_p36 : lw_okq (⟨"LampMothsModel", "noMoth", "(I)Z"⟩, 35) := ⟨⟨by decide +kernel, by decide +kernel⟩, List.mem_of_getElem? (i := 510) (by decide +kernel), List.mem_of_getElem? (i := 714) (by decide +kernel), List.mem_of_getElem? (i := 715) (by decide +kernel)⟩
theorem lw_p37 : lw_okq (⟨"LampMothsModel", "turned", "(II)I"⟩, 35) := ⟨⟨by decide +kernel, by decide +kernel⟩, List.mem_of_getElem? (i := 510) (by decide +kernel), List.mem_of_getElem? (i := 726) (by decide +kernel), List.mem_of_getElem? (i := 727) (by decide +kernel)⟩
theorem lw_p38 : lw_okq (⟨"LampMothsModel", "note", "()V"⟩, 35) := ⟨⟨by decide +kernel, by decide +kernel⟩, List.mem_of_getElem? (i := 510) (by decide +kernel), List.mem_of_getElem? (i := 731) (by decide +kernel), List.mem_of_getElem? (i := 732) (by decide +kernel)⟩
theorem lw_p39 : lw_okq (⟨"LampMothsModel", "goNight", "([I)I"⟩, 35) := ⟨⟨by decide +kernel, by decide +kernel⟩, List.mem_of_getElem? (i := 510) (by decide +kernel), List.mem_of_getElem? (i := 752) (by decide +kernel), List.mem_of_getElem? (i := 753) (by decide +kernel)⟩
theorem lw_p40 : lw_okq (⟨"LampMothsModel", "leastOf", "(I)I"⟩, 35) := ⟨⟨by decide +kernel, by decide +kernel⟩, List.mem_of_getElem? (i := 510) (by decide +kernel), List.mem_of_getElem? (i := 756) (by decide +kernel), List.mem_of_getElem? (i := 757) (by decide +kernel)⟩
theorem lw_p41 : lw_okq (⟨"LampMothsModel", "owesBy", "(III)Z"⟩, 35) := ⟨⟨by decide +kernel, by decide +kernel⟩, List.mem_of_getElem? (i := 510) (by decide +kernel), List.mem_of_getElem? (i := 769) (by decide +kernel), List.mem_of_getElem? (i := 770) (by decide +kernel)⟩
theorem lw_p42 : lw_okq (⟨"LampMothsModel", "begin", "()V"⟩, 35) := ⟨⟨by decide +kernel, by decide +kernel⟩, List.mem_of_getElem? (i := 510) (by decide +kernel), List.mem_of_getElem? (i := 773) (by decide +kernel), List.mem_of_getElem? (i := 774) (by decide +kernel)⟩
theorem lw_p43 : lw_okq (⟨"LampMothsModel", "findCheap", "()V"⟩, 35) := ⟨⟨by decide +kernel, by decide +kernel⟩, List.mem_of_getElem? (i := 510) (by decide +kernel), List.mem_of_getElem? (i := 781) (by decide +kernel), List.mem_of_getElem? (i := 782) (by decide +kernel)⟩
theorem lw_p44 : lw_okq (⟨"LampMothsModel", "findMoving", "()V"⟩, 35) := ⟨⟨by decide +kernel, by decide +kernel⟩, List.mem_of_getElem? (i := 510) (by decide +kernel), List.mem_of_getElem? (i := 792) (by decide +kernel), List.mem_of_getElem? (i := 793) (by decide +kernel)⟩
theorem lw_p45 : lw_okq (⟨"LampMothsModel", "isFree", "(I)Z"⟩, 35) := ⟨⟨by decide +kernel, by decide +kernel⟩, List.mem_of_getElem? (i := 510) (by decide +kernel), List.mem_of_getElem? (i := 796) (by decide +kernel), List.mem_of_getElem? (i := 797) (by decide +kernel)⟩
theorem lw_p46 : lw_okq (⟨"LampMothsModel", "does", "(I)Z"⟩, 35) := ⟨⟨by decide +kernel, by decide +kernel⟩, List.mem_of_getElem? (i := 510) (by decide +kernel), List.mem_of_getElem? (i := 805) (by decide +kernel), List.mem_of_getElem? (i := 806) (by decide +kernel)⟩
theorem lw_p47 : lw_okq (⟨"LampMothsModel", "findRests", "(II)V"⟩, 35) := ⟨⟨by decide +kernel, by decide +kernel⟩, List.mem_of_getElem? (i := 510) (by decide +kernel), List.mem_of_getElem? (i := 838) (by decide +kernel), List.mem_of_getElem? (i := 839) (by decide +kernel)⟩
def lw_privs_3 : List (MethodName × Nat) := [(⟨"LampMothsModel", "pullOf", "([III)I"⟩, 35), (⟨"LampMothsModel", "readers", "([I)I"⟩, 35), (⟨"LampMothsModel", "reads", "([II)Z"⟩, 35), (⟨"LampMothsModel", "noWindow", "(I)Z"⟩, 35), (⟨"LampMothsModel", "noMoth", "(I)Z"⟩, 35), (⟨"LampMothsModel", "turned", "(II)I"⟩, 35), (⟨"LampMothsModel", "note", "()V"⟩, 35), (⟨"LampMothsModel", "goNight", "([I)I"⟩, 35), (⟨"LampMothsModel", "leastOf", "(I)I"⟩, 35), (⟨"LampMothsModel", "owesBy", "(III)Z"⟩, 35), (⟨"LampMothsModel", "begin", "()V"⟩, 35), (⟨"LampMothsModel", "findCheap", "()V"⟩, 35), (⟨"LampMothsModel", "findMoving", "()V"⟩, 35), (⟨"LampMothsModel", "isFree", "(I)Z"⟩, 35), (⟨"LampMothsModel", "does", "(I)Z"⟩, 35), (⟨"LampMothsModel", "findRests", "(II)V"⟩, 35)]
theorem lw_r3 : ∀ q ∈ lw_privs_3, lw_okq q := List.forall_mem_cons.mpr ⟨lw_p32, List.forall_mem_cons.mpr ⟨lw_p33, List.forall_mem_cons.mpr ⟨lw_p34, List.forall_mem_cons.mpr ⟨lw_p35, List.forall_mem_cons.mpr ⟨lw_p36, List.forall_mem_cons.mpr ⟨lw_p37, List.forall_mem_cons.mpr ⟨lw_p38, List.forall_mem_cons.mpr ⟨lw_p39, List.forall_mem_cons.mpr ⟨lw_p40, List.forall_mem_cons.mpr ⟨lw_p41, List.forall_mem_cons.mpr ⟨lw_p42, List.forall_mem_cons.mpr ⟨lw_p43, List.forall_mem_cons.mpr ⟨lw_p44, List.forall_mem_cons.mpr ⟨lw_p45, List.forall_mem_cons.mpr ⟨lw_p46, List.forall_mem_cons.mpr ⟨lw_p47, fun _ h => absurd h List.not_mem_nil⟩⟩⟩⟩⟩⟩⟩⟩⟩⟩⟩⟩⟩⟩⟩⟩
theorem lw_p48 : lw_okq (⟨"LampMothsModel", "gainOf", "(II)I"⟩, 35) := ⟨⟨by decide +kernel, by decide +kernel⟩, List.mem_of_getElem? (i := 510) (by decide +kernel), List.mem_of_getElem? (i := 842) (by decide +kernel), List.mem_of_getElem? (i := 843) (by decide +kernel)⟩
def lw_privs_4 : List (MethodName × Nat) := [(⟨"LampMothsModel", "gainOf", "(II)I"⟩, 35)]
theorem lw_r4 : ∀ q ∈ lw_privs_4, lw_okq q := List.forall_mem_cons.mpr ⟨lw_p48, fun _ h => absurd h List.not_mem_nil⟩
def lw_privs : List (MethodName × Nat) := lw_privs_1 ++ (lw_privs_2 ++ (lw_privs_3 ++ (lw_privs_4)))
def lw_tbl : List Cond := k2_sels lw_privs ++ tables_1
theorem lw_privs_ok : ∀ q ∈ lw_privs, lw_okq q := by
  show ∀ q ∈ lw_privs_1 ++ (lw_privs_2 ++ (lw_privs_3 ++ (lw_privs_4))), lw_okq q
  exact List.forall_mem_append.mpr ⟨lw_r1, List.forall_mem_append.mpr ⟨lw_r2, List.forall_mem_append.mpr ⟨lw_r3, lw_r4⟩⟩⟩
end
section
def R_Ln : String := "LampMoths$Lane"
def T_Ln : u_T := fun k => match k with
  | 0 => ("LampMoths$Lane", "spots", "[I", true)
  | 1 => ("LampMoths$Lane", "burns", "[I", true)
  | 2 => ("LampMoths$Lane", "kinds", "[I", true)
  | 3 => ("LampMoths$Lane", "paid", "[I", true)
  | 4 => ("LampMoths$Lane", "seats", "[I", true)
  | 5 => ("LampMoths$Lane", "sorts", "[I", true)
  | 6 => ("LampMoths$Lane", "windows", "I", false)
  | 7 => ("LampMoths$Lane", "moths", "I", false)
  | 8 => ("LampMoths$Lane", "wind", "I", false)
  | 9 => ("LampMoths$Lane", "honey", "I", false)
  | 10 => ("LampMoths$Lane", "nights", "I", false)
  | _ => ("LampMoths$Lane", "dues", "[I", true)
def t_Ln : Nat → FieldType := fun k => match k with
  | 0 => .array .int
  | 1 => .array .int
  | 2 => .array .int
  | 3 => .array .int
  | 4 => .array .int
  | 5 => .array .int
  | 6 => .int
  | 7 => .int
  | 8 => .int
  | 9 => .int
  | 10 => .int
  | _ => .array .int
theorem n_Ln : ∀ a, a < 12 → ∀ b, b < 12 → a ≠ b → (T_Ln a).2.1 ≠ (T_Ln b).2.1 := by decide +kernel
theorem t_Ln_ok : ∀ k, k < 12 → parseFieldDescriptor (T_Ln k).2.2.1 = some (t_Ln k) := by decide +kernel
theorem i_Ln : ∀ w ∈ u_ws R_Ln T_Ln 12, w ∈ lw_tbl := by
  intro w hw
  have e : u_ws R_Ln T_Ln 12 = ([97, 99, 101, 103, 105, 107, 109, 111, 113, 115, 117, 119]).filterMap (fun i => lw_tbl[i]?) := by decide +kernel
  rw [e] at hw
  obtain ⟨i, -, hi⟩ := List.mem_filterMap.mp hw
  exact List.mem_of_getElem? hi
def R_Rd : String := "LampMoths$Reader"
def T_Rd : u_T := fun k => match k with
  | 0 => ("LampMoths$Reader", "due", "I", false)
  | 1 => ("LampMoths$Reader", "place", "I", false)
  | _ => ("LampMoths$Reader", "burns", "I", false)
def t_Rd : Nat → FieldType := fun k => match k with
  | 0 => .int
  | 1 => .int
  | _ => .int
theorem n_Rd : ∀ a, a < 3 → ∀ b, b < 3 → a ≠ b → (T_Rd a).2.1 ≠ (T_Rd b).2.1 := by decide +kernel
theorem t_Rd_ok : ∀ k, k < 3 → parseFieldDescriptor (T_Rd k).2.2.1 = some (t_Rd k) := by decide +kernel
theorem i_Rd : ∀ w ∈ u_ws R_Rd T_Rd 3, w ∈ lw_tbl := by
  intro w hw
  have e : u_ws R_Rd T_Rd 3 = ([132, 134, 136]).filterMap (fun i => lw_tbl[i]?) := by decide +kernel
  rw [e] at hw
  obtain ⟨i, -, hi⟩ := List.mem_filterMap.mp hw
  exact List.mem_of_getElem? hi
def R_Lm : String := "LampMoths"
def T_Lm : u_T := fun k => match k with
  | 0 => ("LampMoths", "text", "[I", true)
  | 1 => ("LampMoths", "length", "I", false)
  | 2 => ("LampMoths", "now", "LLampMoths$Lane;", true)
  | 3 => ("LampMoths", "trial", "LLampMoths$Lane;", true)
  | 4 => ("LampMoths", "reader", "LLampMoths$Reader;", true)
  | 5 => ("LampMoths", "acts", "[[I", true)
  | 6 => ("LampMoths", "actsHeld", "I", false)
  | 7 => ("LampMoths", "slots", "[[I", true)
  | 8 => ("LampMoths", "slotUsed", "[Z", true)
  | 9 => ("LampMoths", "countedWindows", "[I", true)
  | 10 => ("LampMoths", "countedWinds", "[I", true)
  | 11 => ("LampMoths", "countedSums", "[I", true)
  | 12 => ("LampMoths", "countsHeld", "I", false)
  | 13 => ("LampMoths", "groupOwes", "[I", true)
  | _ => ("LampMoths", "chance", "J", false)
def t_Lm : Nat → FieldType := fun k => match k with
  | 0 => .array .int
  | 1 => .int
  | 2 => .object "LampMoths$Lane"
  | 3 => .object "LampMoths$Lane"
  | 4 => .object "LampMoths$Reader"
  | 5 => .array (.array .int)
  | 6 => .int
  | 7 => .array (.array .int)
  | 8 => .array .boolean
  | 9 => .array .int
  | 10 => .array .int
  | 11 => .array .int
  | 12 => .int
  | 13 => .array .int
  | _ => .long
theorem n_Lm : ∀ a, a < 15 → ∀ b, b < 15 → a ≠ b → (T_Lm a).2.1 ≠ (T_Lm b).2.1 := by decide +kernel
theorem t_Lm_ok : ∀ k, k < 15 → parseFieldDescriptor (T_Lm k).2.2.1 = some (t_Lm k) := by decide +kernel
theorem i_Lm : ∀ w ∈ u_ws R_Lm T_Lm 15, w ∈ lw_tbl := by
  intro w hw
  have e : u_ws R_Lm T_Lm 15 = ([156, 158, 160, 162, 164, 166, 168, 170, 172, 174, 176, 178, 180, 182, 184]).filterMap (fun i => lw_tbl[i]?) := by decide +kernel
  rw [e] at hw
  obtain ⟨i, -, hi⟩ := List.mem_filterMap.mp hw
  exact List.mem_of_getElem? hi
def R_Md : String := "LampMothsModel"
def T_Md : u_T := fun k => match k with
  | 0 => ("LampMothsModel", "thrown", "I", false)
  | 1 => ("LampMothsModel", "text", "[I", true)
  | 2 => ("LampMothsModel", "textSize", "I", false)
  | 3 => ("LampMothsModel", "place", "I", false)
  | 4 => ("LampMothsModel", "windows", "I", false)
  | 5 => ("LampMothsModel", "windowKind", "[I", true)
  | 6 => ("LampMothsModel", "moths", "I", false)
  | 7 => ("LampMothsModel", "mothKind", "[I", true)
  | 8 => ("LampMothsModel", "readWind", "I", false)
  | 9 => ("LampMothsModel", "readHoney", "I", false)
  | 10 => ("LampMothsModel", "readWindows", "I", false)
  | 11 => ("LampMothsModel", "readWindow", "[I", true)
  | 12 => ("LampMothsModel", "readMoths", "I", false)
  | 13 => ("LampMothsModel", "readMoth", "[I", true)
  | 14 => ("LampMothsModel", "page", "[I", true)
  | 15 => ("LampMothsModel", "trial", "[I", true)
  | 16 => ("LampMothsModel", "book", "[I", true)
  | 17 => ("LampMothsModel", "acts", "I", false)
  | 18 => ("LampMothsModel", "kept", "[I", true)
  | 19 => ("LampMothsModel", "isKept", "[Z", true)
  | 20 => ("LampMothsModel", "counted", "I", false)
  | 21 => ("LampMothsModel", "countedWindow", "[I", true)
  | 22 => ("LampMothsModel", "countedWind", "[I", true)
  | 23 => ("LampMothsModel", "countedTax", "[I", true)
  | 24 => ("LampMothsModel", "seed", "J", false)
  | 25 => ("LampMothsModel", "draws", "[I", true)
  | 26 => ("LampMothsModel", "owed", "[I", true)
  | 27 => ("LampMothsModel", "cheapMuch", "I", false)
  | 28 => ("LampMothsModel", "cheapRow", "I", false)
  | 29 => ("LampMothsModel", "movedWhich", "I", false)
  | 30 => ("LampMothsModel", "movedMuch", "I", false)
  | 31 => ("LampMothsModel", "restMany", "I", false)
  | 32 => ("LampMothsModel", "restFirst", "I", false)
  | 33 => ("LampMothsModel", "gains", "[I", true)
  | _ => ("LampMothsModel", "value", "[I", true)
def t_Md : Nat → FieldType := fun k => match k with
  | 0 => .int
  | 1 => .array .int
  | 2 => .int
  | 3 => .int
  | 4 => .int
  | 5 => .array .int
  | 6 => .int
  | 7 => .array .int
  | 8 => .int
  | 9 => .int
  | 10 => .int
  | 11 => .array .int
  | 12 => .int
  | 13 => .array .int
  | 14 => .array .int
  | 15 => .array .int
  | 16 => .array .int
  | 17 => .int
  | 18 => .array .int
  | 19 => .array .boolean
  | 20 => .int
  | 21 => .array .int
  | 22 => .array .int
  | 23 => .array .int
  | 24 => .long
  | 25 => .array .int
  | 26 => .array .int
  | 27 => .int
  | 28 => .int
  | 29 => .int
  | 30 => .int
  | 31 => .int
  | 32 => .int
  | 33 => .array .int
  | _ => .array .int
theorem n_Md : ∀ a, a < 35 → ∀ b, b < 35 → a ≠ b → (T_Md a).2.1 ≠ (T_Md b).2.1 := by decide +kernel
theorem t_Md_ok : ∀ k, k < 35 → parseFieldDescriptor (T_Md k).2.2.1 = some (t_Md k) := by decide +kernel
theorem i_Md : ∀ w ∈ u_ws R_Md T_Md 35, w ∈ lw_tbl := by
  intro w hw
  have e : u_ws R_Md T_Md 35 = ([599, 601, 603, 605, 607, 609, 611, 613, 615, 617, 619, 621, 623, 625, 627, 629, 631, 633, 635, 637, 639, 641, 643, 645, 647, 649, 651, 653, 655, 657, 659, 661, 663, 665, 667]).filterMap (fun i => lw_tbl[i]?) := by decide +kernel
  rw [e] at hw
  obtain ⟨i, -, hi⟩ := List.mem_filterMap.mp hw
  exact List.mem_of_getElem? hi
abbrev classes : List vw_C := [(R_Ln, T_Ln, 12), (R_Rd, T_Rd, 3), (R_Lm, T_Lm, 15), (R_Md, T_Md, 35)]
abbrev MI : Type := MethodName × ByteArray × Nat × Option FieldType × Room
def M_Lm_init : MI := (⟨"LampMoths", "<init>", "()V"⟩, prog_1_method_1_code, 1, none, { frames := 2, cells := 41, slots := 529, locals := 44 })
def M_Ln_init : MI := (⟨"LampMoths$Lane", "<init>", "()V"⟩, prog_2_method_1_code, 1, none, { frames := 1, cells := 7, slots := 37, locals := 24 })
def M_Rd_init : MI := (⟨"LampMoths$Reader", "<init>", "()V"⟩, prog_3_method_1_code, 1, none, { frames := 1, cells := 0, slots := 0, locals := 24 })
def M_Lm_write : MI := (⟨"LampMoths", "write", "(I)I"⟩, prog_1_method_2_code, 2, (some .int), { frames := 0, cells := 0, slots := 0, locals := 0 })
def M_Lm_wipe : MI := (⟨"LampMoths", "wipe", "()I"⟩, prog_1_method_3_code, 2, (some .int), { frames := 0, cells := 0, slots := 0, locals := 0 })
def M_Lm_fault : MI := (⟨"LampMoths", "fault", "()I"⟩, prog_1_method_4_code, 1, (some .int), { frames := 4, cells := 0, slots := 0, locals := 90 })
def M_Lm_readInto : MI := (⟨"LampMoths", "readInto", "(LLampMoths$Lane;)I"⟩, prog_1_method_33_code, 3, (some .int), { frames := 3, cells := 0, slots := 0, locals := 68 })
def M_Rd_begin : MI := (⟨"LampMoths$Reader", "begin", "(LLampMoths$Lane;)V"⟩, prog_3_method_2_code, 2, none, { frames := 1, cells := 0, slots := 0, locals := 20 })
def M_Ln_clear : MI := (⟨"LampMoths$Lane", "clear", "()V"⟩, prog_2_method_2_code, 1, none, { frames := 0, cells := 0, slots := 0, locals := 0 })
def M_Rd_takes : MI := (⟨"LampMoths$Reader", "takes", "(ILLampMoths$Lane;)Z"⟩, prog_3_method_4_code, 4, (some .boolean), { frames := 2, cells := 0, slots := 0, locals := 45 })
def M_Rd_goesOn : MI := (⟨"LampMoths$Reader", "goesOn", "(ZI)Z"⟩, prog_3_method_5_code, 3, (some .boolean), { frames := 0, cells := 0, slots := 0, locals := 0 })
def M_Rd_takesPart : MI := (⟨"LampMoths$Reader", "takesPart", "(ILLampMoths$Lane;)Z"⟩, prog_3_method_6_code, 3, (some .boolean), { frames := 1, cells := 0, slots := 0, locals := 22 })
def M_Rd_takesFigure : MI := (⟨"LampMoths$Reader", "takesFigure", "(ILLampMoths$Lane;)Z"⟩, prog_3_method_7_code, 3, (some .boolean), { frames := 1, cells := 0, slots := 0, locals := 23 })
def M_Lm_isWind : MI := (⟨"LampMoths", "isWind", "(I)Z"⟩, prog_1_method_30_code, 1, (some .boolean), { frames := 0, cells := 0, slots := 0, locals := 0 })
def M_Ln_isFree : MI := (⟨"LampMoths$Lane", "isFree", "(I)Z"⟩, prog_2_method_10_code, 3, (some .boolean), { frames := 0, cells := 0, slots := 0, locals := 0 })
def M_Ln_addWindow : MI := (⟨"LampMoths$Lane", "addWindow", "(III)Z"⟩, prog_2_method_3_code, 4, (some .boolean), { frames := 0, cells := 0, slots := 0, locals := 0 })
def M_Ln_addMoth : MI := (⟨"LampMoths$Lane", "addMoth", "(II)Z"⟩, prog_2_method_4_code, 3, (some .boolean), { frames := 0, cells := 0, slots := 0, locals := 0 })
def M_Rd_mayEnd : MI := (⟨"LampMoths$Reader", "mayEnd", "()Z"⟩, prog_3_method_3_code, 1, (some .boolean), { frames := 0, cells := 0, slots := 0, locals := 0 })
def M_Lm_street : MI := (⟨"LampMoths", "street", "()I"⟩, prog_1_method_5_code, 2, (some .int), { frames := 4, cells := 0, slots := 0, locals := 90 })
def M_Ln_copyFrom : MI := (⟨"LampMoths$Lane", "copyFrom", "(LLampMoths$Lane;)V"⟩, prog_2_method_5_code, 3, none, { frames := 0, cells := 0, slots := 0, locals := 0 })
def M_Lm_about : MI := (⟨"LampMoths", "about", "(I)I"⟩, prog_1_method_6_code, 2, (some .int), { frames := 5, cells := 0, slots := 0, locals := 114 })
def M_Ln_paidByAll : MI := (⟨"LampMoths$Lane", "paidByAll", "()I"⟩, prog_2_method_23_code, 3, (some .int), { frames := 0, cells := 0, slots := 0, locals := 0 })
def M_Ln_owedByAll : MI := (⟨"LampMoths$Lane", "owedByAll", "()I"⟩, prog_2_method_22_code, 3, (some .int), { frames := 4, cells := 0, slots := 0, locals := 92 })
def M_Ln_reckon : MI := (⟨"LampMoths$Lane", "reckon", "()V"⟩, prog_2_method_19_code, 2, none, { frames := 3, cells := 0, slots := 0, locals := 71 })
def M_Ln_drawersOf : MI := (⟨"LampMoths$Lane", "drawersOf", "(I)I"⟩, prog_2_method_16_code, 6, (some .int), { frames := 2, cells := 0, slots := 0, locals := 46 })
def M_Ln_tug : MI := (⟨"LampMoths$Lane", "tug", "(II)I"⟩, prog_2_method_11_code, 4, (some .int), { frames := 1, cells := 0, slots := 0, locals := 23 })
def M_Ln_hasWindow : MI := (⟨"LampMoths$Lane", "hasWindow", "(I)Z"⟩, prog_2_method_8_code, 2, (some .boolean), { frames := 0, cells := 0, slots := 0, locals := 0 })
def M_Ln_hasMoth : MI := (⟨"LampMoths$Lane", "hasMoth", "(I)Z"⟩, prog_2_method_9_code, 2, (some .boolean), { frames := 0, cells := 0, slots := 0, locals := 0 })
def M_Jm_abs : MI := (⟨"java/lang/Math", "abs", "(I)I"⟩, prog_7_method_59_code, 1, (some .int), { frames := 0, cells := 0, slots := 0, locals := 0 })
def M_Ln_glow : MI := (⟨"LampMoths$Lane", "glow", "(I)I"⟩, prog_2_method_12_code, 2, (some .int), { frames := 0, cells := 0, slots := 0, locals := 0 })
def M_Ln_windHelp : MI := (⟨"LampMoths$Lane", "windHelp", "(II)I"⟩, prog_2_method_13_code, 4, (some .int), { frames := 0, cells := 0, slots := 0, locals := 0 })
def M_Ln_sweetness : MI := (⟨"LampMoths$Lane", "sweetness", "(II)I"⟩, prog_2_method_14_code, 3, (some .int), { frames := 0, cells := 0, slots := 0, locals := 0 })
def M_Jm_max : MI := (⟨"java/lang/Math", "max", "(II)I"⟩, prog_7_method_65_code, 2, (some .int), { frames := 0, cells := 0, slots := 0, locals := 0 })
def M_Ln_taxOf : MI := (⟨"LampMoths$Lane", "taxOf", "(I)I"⟩, prog_2_method_18_code, 2, (some .int), { frames := 0, cells := 0, slots := 0, locals := 0 })
def M_Ln_charge : MI := (⟨"LampMoths$Lane", "charge", "(II)V"⟩, prog_2_method_20_code, 5, none, { frames := 1, cells := 0, slots := 0, locals := 20 })
def M_Ji_bitCount : MI := (⟨"java/lang/Integer", "bitCount", "(I)I"⟩, prog_6_method_49_code, 1, (some .int), { frames := 0, cells := 0, slots := 0, locals := 0 })
def M_Ln_readers : MI := (⟨"LampMoths$Lane", "readers", "()I"⟩, prog_2_method_25_code, 3, (some .int), { frames := 2, cells := 0, slots := 0, locals := 43 })
def M_Ln_reads : MI := (⟨"LampMoths$Lane", "reads", "(I)Z"⟩, prog_2_method_24_code, 3, (some .boolean), { frames := 1, cells := 0, slots := 0, locals := 21 })
def M_Lm_window : MI := (⟨"LampMoths", "window", "(II)I"⟩, prog_1_method_7_code, 3, (some .int), { frames := 5, cells := 0, slots := 0, locals := 113 })
def M_Ln_owedBy : MI := (⟨"LampMoths$Lane", "owedBy", "(I)I"⟩, prog_2_method_21_code, 2, (some .int), { frames := 4, cells := 0, slots := 0, locals := 92 })
def M_Ln_mothsDrawnBy : MI := (⟨"LampMoths$Lane", "mothsDrawnBy", "(I)I"⟩, prog_2_method_17_code, 4, (some .int), { frames := 3, cells := 0, slots := 0, locals := 71 })
def M_Lm_moth : MI := (⟨"LampMoths", "moth", "(II)I"⟩, prog_1_method_8_code, 3, (some .int), { frames := 3, cells := 0, slots := 0, locals := 71 })
def M_Ln_greatestTugOn : MI := (⟨"LampMoths$Lane", "greatestTugOn", "(I)I"⟩, prog_2_method_15_code, 4, (some .int), { frames := 2, cells := 0, slots := 0, locals := 46 })
def M_Lm_pull : MI := (⟨"LampMoths", "pull", "(II)I"⟩, prog_1_method_9_code, 3, (some .int), { frames := 2, cells := 0, slots := 0, locals := 46 })
def M_Lm_up : MI := (⟨"LampMoths", "up", "(I)I"⟩, prog_1_method_10_code, 2, (some .int), { frames := 4, cells := 0, slots := 0, locals := 87 })
def M_Lm_turned : MI := (⟨"LampMoths", "turned", "(II)I"⟩, prog_1_method_34_code, 3, (some .int), { frames := 3, cells := 0, slots := 0, locals := 65 })
def M_Ln_canTurn : MI := (⟨"LampMoths$Lane", "canTurn", "(II)Z"⟩, prog_2_method_27_code, 3, (some .boolean), { frames := 1, cells := 0, slots := 0, locals := 21 })
def M_Lm_remember : MI := (⟨"LampMoths", "remember", "()V"⟩, prog_1_method_35_code, 1, none, { frames := 1, cells := 0, slots := 0, locals := 22 })
def M_Lm_forgetFirstAct : MI := (⟨"LampMoths", "forgetFirstAct", "()V"⟩, prog_1_method_36_code, 3, none, { frames := 0, cells := 0, slots := 0, locals := 0 })
def M_Ln_save : MI := (⟨"LampMoths$Lane", "save", "([I)V"⟩, prog_2_method_6_code, 3, none, { frames := 0, cells := 0, slots := 0, locals := 0 })
def M_Ln_turn : MI := (⟨"LampMoths$Lane", "turn", "(II)Z"⟩, prog_2_method_28_code, 3, (some .boolean), { frames := 2, cells := 0, slots := 0, locals := 43 })
def M_Lm_down : MI := (⟨"LampMoths", "down", "(I)I"⟩, prog_1_method_11_code, 2, (some .int), { frames := 4, cells := 0, slots := 0, locals := 87 })
def M_Lm_blow : MI := (⟨"LampMoths", "blow", "(I)I"⟩, prog_1_method_12_code, 3, (some .int), { frames := 2, cells := 0, slots := 0, locals := 42 })
def M_Lm_move : MI := (⟨"LampMoths", "move", "(I)I"⟩, prog_1_method_13_code, 3, (some .int), { frames := 2, cells := 0, slots := 0, locals := 42 })
def M_Lm_isHoneyPlace : MI := (⟨"LampMoths", "isHoneyPlace", "(I)Z"⟩, prog_1_method_31_code, 1, (some .boolean), { frames := 0, cells := 0, slots := 0, locals := 0 })
def M_Lm_night : MI := (⟨"LampMoths", "night", "()I"⟩, prog_1_method_14_code, 1, (some .int), { frames := 5, cells := 0, slots := 0, locals := 114 })
def M_Ln_passNight : MI := (⟨"LampMoths$Lane", "passNight", "()I"⟩, prog_2_method_29_code, 3, (some .int), { frames := 4, cells := 0, slots := 0, locals := 92 })
def M_Ln_flyNearer : MI := (⟨"LampMoths$Lane", "flyNearer", "(II)V"⟩, prog_2_method_30_code, 4, none, { frames := 1, cells := 0, slots := 0, locals := 21 })
def M_Ji_numberOfTrailingZeros : MI := (⟨"java/lang/Integer", "numberOfTrailingZeros", "(I)I"⟩, prog_6_method_48_code, 2, (some .int), { frames := 0, cells := 0, slots := 0, locals := 0 })
def M_Ji_compare : MI := (⟨"java/lang/Integer", "compare", "(II)I"⟩, prog_6_method_40_code, 2, (some .int), { frames := 0, cells := 0, slots := 0, locals := 0 })
def M_Lm_undo : MI := (⟨"LampMoths", "undo", "()I"⟩, prog_1_method_15_code, 1, (some .int), { frames := 1, cells := 0, slots := 0, locals := 22 })
def M_Ln_load : MI := (⟨"LampMoths$Lane", "load", "([I)V"⟩, prog_2_method_7_code, 3, none, { frames := 0, cells := 0, slots := 0, locals := 0 })
def M_Lm_dim : MI := (⟨"LampMoths", "dim", "(II)I"⟩, prog_1_method_16_code, 5, (some .int), { frames := 6, cells := 0, slots := 0, locals := 136 })
def M_Lm_isSum : MI := (⟨"LampMoths", "isSum", "(I)Z"⟩, prog_1_method_32_code, 1, (some .boolean), { frames := 0, cells := 0, slots := 0, locals := 0 })
def M_Lm_owesAtMost : MI := (⟨"LampMoths", "owesAtMost", "(III)Z"⟩, prog_1_method_37_code, 4, (some .boolean), { frames := 5, cells := 0, slots := 0, locals := 113 })
def M_Lm_cheap : MI := (⟨"LampMoths", "cheap", "(Z)I"⟩, prog_1_method_17_code, 7, (some .int), { frames := 5, cells := 0, slots := 0, locals := 114 })
def M_Lm_power : MI := (⟨"LampMoths", "power", "(II)I"⟩, prog_1_method_46_code, 4, (some .int), { frames := 0, cells := 0, slots := 0, locals := 0 })
def M_Ln_burnByThrees : MI := (⟨"LampMoths$Lane", "burnByThrees", "(I)V"⟩, prog_2_method_32_code, 4, none, { frames := 0, cells := 0, slots := 0, locals := 0 })
def M_Ln_allRead : MI := (⟨"LampMoths$Lane", "allRead", "()Z"⟩, prog_2_method_26_code, 1, (some .boolean), { frames := 3, cells := 0, slots := 0, locals := 65 })
def M_Ln_burnsAsRow : MI := (⟨"LampMoths$Lane", "burnsAsRow", "()I"⟩, prog_2_method_33_code, 3, (some .int), { frames := 0, cells := 0, slots := 0, locals := 0 })
def M_Lm_moving : MI := (⟨"LampMoths", "moving", "(I)I"⟩, prog_1_method_18_code, 7, (some .int), { frames := 5, cells := 0, slots := 0, locals := 114 })
def M_Lm_judge : MI := (⟨"LampMoths", "judge", "(II)I"⟩, prog_1_method_19_code, 7, (some .int), { frames := 4, cells := 0, slots := 0, locals := 87 })
def M_Lm_didOnTrial : MI := (⟨"LampMoths", "didOnTrial", "(II)Z"⟩, prog_1_method_38_code, 3, (some .boolean), { frames := 3, cells := 0, slots := 0, locals := 65 })
def M_Lm_blewOnTrial : MI := (⟨"LampMoths", "blewOnTrial", "(I)Z"⟩, prog_1_method_39_code, 2, (some .boolean), { frames := 1, cells := 0, slots := 0, locals := 20 })
def M_Lm_movedOnTrial : MI := (⟨"LampMoths", "movedOnTrial", "(I)Z"⟩, prog_1_method_40_code, 2, (some .boolean), { frames := 1, cells := 0, slots := 0, locals := 20 })
def M_Lm_share : MI := (⟨"LampMoths", "share", "(IZ)I"⟩, prog_1_method_20_code, 8, (some .int), { frames := 6, cells := 0, slots := 0, locals := 137 })
def M_Lm_reckonGroups : MI := (⟨"LampMoths", "reckonGroups", "()V"⟩, prog_1_method_41_code, 4, none, { frames := 5, cells := 0, slots := 0, locals := 114 })
def M_Lm_ordersWith : MI := (⟨"LampMoths", "ordersWith", "(I)I"⟩, prog_1_method_42_code, 2, (some .int), { frames := 1, cells := 0, slots := 0, locals := 22 })
def M_Lm_factorial : MI := (⟨"LampMoths", "factorial", "(I)I"⟩, prog_1_method_47_code, 3, (some .int), { frames := 0, cells := 0, slots := 0, locals := 0 })
def M_Lm_told : MI := (⟨"LampMoths", "told", "(IIZ)I"⟩, prog_1_method_48_code, 4, (some .int), { frames := 1, cells := 0, slots := 0, locals := 25 })
def M_Lm_commonDivisor : MI := (⟨"LampMoths", "commonDivisor", "(II)I"⟩, prog_1_method_49_code, 6, (some .int), { frames := 0, cells := 0, slots := 0, locals := 0 })
def M_Lm_count : MI := (⟨"LampMoths", "count", "(III)I"⟩, prog_1_method_21_code, 4, (some .int), { frames := 1, cells := 0, slots := 0, locals := 21 })
def M_Lm_forget : MI := (⟨"LampMoths", "forget", "()I"⟩, prog_1_method_22_code, 2, (some .int), { frames := 0, cells := 0, slots := 0, locals := 0 })
def M_Lm_honeys : MI := (⟨"LampMoths", "honeys", "()I"⟩, prog_1_method_23_code, 3, (some .int), { frames := 6, cells := 0, slots := 0, locals := 135 })
def M_Lm_trialFitsCounted : MI := (⟨"LampMoths", "trialFitsCounted", "()Z"⟩, prog_1_method_43_code, 3, (some .boolean), { frames := 5, cells := 0, slots := 0, locals := 113 })
def M_Lm_rests : MI := (⟨"LampMoths", "rests", "(III)I"⟩, prog_1_method_24_code, 11, (some .int), { frames := 6, cells := 0, slots := 0, locals := 137 })
def M_Lm_gain : MI := (⟨"LampMoths", "gain", "(IIII)I"⟩, prog_1_method_44_code, 5, (some .int), { frames := 5, cells := 0, slots := 0, locals := 113 })
def M_Lm_clouds : MI := (⟨"LampMoths", "clouds", "(IIZ)I"⟩, prog_1_method_25_code, 8, (some .int), { frames := 5, cells := 0, slots := 0, locals := 114 })
def M_Ln_cloud : MI := (⟨"LampMoths$Lane", "cloud", "(I)V"⟩, prog_2_method_31_code, 3, none, { frames := 1, cells := 0, slots := 0, locals := 21 })
def M_Lm_seed : MI := (⟨"LampMoths", "seed", "(J)J"⟩, prog_1_method_26_code, 5, (some .long), { frames := 0, cells := 0, slots := 0, locals := 0 })
def M_Lm_weeks : MI := (⟨"LampMoths", "weeks", "(I)I"⟩, prog_1_method_27_code, 3, (some .int), { frames := 6, cells := 0, slots := 0, locals := 135 })
def M_Lm_passWeekOnTrial : MI := (⟨"LampMoths", "passWeekOnTrial", "(I)V"⟩, prog_1_method_45_code, 2, none, { frames := 5, cells := 0, slots := 0, locals := 114 })
def M_Lm_keep : MI := (⟨"LampMoths", "keep", "(I)I"⟩, prog_1_method_28_code, 2, (some .int), { frames := 1, cells := 0, slots := 0, locals := 22 })
def M_Lm_again : MI := (⟨"LampMoths", "again", "(I)I"⟩, prog_1_method_29_code, 2, (some .int), { frames := 1, cells := 0, slots := 0, locals := 22 })
def M_Md_init : MI := (⟨"LampMothsModel", "<init>", "()V"⟩, prog_5_method_1_code, 1, none, { frames := 1, cells := 17, slots := 597, locals := 24 })
def M_Md_write : MI := (⟨"LampMothsModel", "write", "(I)I"⟩, prog_5_method_8_code, 2, (some .int), { frames := 1, cells := 0, slots := 0, locals := 25 })
def M_Md_in : MI := (⟨"LampMothsModel", "in", "(JJJ)Z"⟩, prog_5_method_3_code, 6, (some .boolean), { frames := 0, cells := 0, slots := 0, locals := 0 })
def M_Md_wipe : MI := (⟨"LampMothsModel", "wipe", "()I"⟩, prog_5_method_9_code, 2, (some .int), { frames := 0, cells := 0, slots := 0, locals := 0 })
def M_Md_fault : MI := (⟨"LampMothsModel", "fault", "()I"⟩, prog_5_method_16_code, 1, (some .int), { frames := 5, cells := 0, slots := 0, locals := 112 })
def M_Md_readStreet : MI := (⟨"LampMothsModel", "readStreet", "()I"⟩, prog_5_method_15_code, 1, (some .int), { frames := 4, cells := 0, slots := 0, locals := 92 })
def M_Md_figure : MI := (⟨"LampMothsModel", "figure", "(II)I"⟩, prog_5_method_10_code, 3, (some .int), { frames := 1, cells := 0, slots := 0, locals := 25 })
def M_Md_readPart : MI := (⟨"LampMothsModel", "readPart", "()Z"⟩, prog_5_method_14_code, 2, (some .boolean), { frames := 3, cells := 0, slots := 0, locals := 71 })
def M_Md_readOneWindow : MI := (⟨"LampMothsModel", "readOneWindow", "()Z"⟩, prog_5_method_12_code, 4, (some .boolean), { frames := 2, cells := 0, slots := 0, locals := 48 })
def M_Md_readPlace : MI := (⟨"LampMothsModel", "readPlace", "()I"⟩, prog_5_method_11_code, 4, (some .int), { frames := 1, cells := 0, slots := 0, locals := 25 })
def M_Md_readOneMoth : MI := (⟨"LampMothsModel", "readOneMoth", "()Z"⟩, prog_5_method_13_code, 3, (some .boolean), { frames := 2, cells := 0, slots := 0, locals := 47 })
def M_Md_street : MI := (⟨"LampMothsModel", "street", "()I"⟩, prog_5_method_17_code, 2, (some .int), { frames := 5, cells := 0, slots := 0, locals := 112 })
def M_Md_about : MI := (⟨"LampMothsModel", "about", "(I)I"⟩, prog_5_method_24_code, 2, (some .int), { frames := 3, cells := 0, slots := 0, locals := 76 })
def M_Md_paid : MI := (⟨"LampMothsModel", "paid", "([I)I"⟩, prog_5_method_23_code, 4, (some .int), { frames := 0, cells := 0, slots := 0, locals := 0 })
def M_Md_layOwed : MI := (⟨"LampMothsModel", "layOwed", "([I)I"⟩, prog_5_method_20_code, 6, (some .int), { frames := 2, cells := 0, slots := 0, locals := 51 })
def M_Md_strongest : MI := (⟨"LampMothsModel", "strongest", "([II)I"⟩, prog_5_method_19_code, 6, (some .int), { frames := 1, cells := 0, slots := 0, locals := 26 })
def M_Md_pullOf : MI := (⟨"LampMothsModel", "pullOf", "([III)I"⟩, prog_5_method_18_code, 7, (some .int), { frames := 0, cells := 0, slots := 0, locals := 0 })
def M_Md_has : MI := (⟨"LampMothsModel", "has", "(II)Z"⟩, prog_5_method_4_code, 2, (some .boolean), { frames := 0, cells := 0, slots := 0, locals := 0 })
def M_Md_many : MI := (⟨"LampMothsModel", "many", "(I)I"⟩, prog_5_method_5_code, 3, (some .int), { frames := 0, cells := 0, slots := 0, locals := 0 })
def M_Md_readers : MI := (⟨"LampMothsModel", "readers", "([I)I"⟩, prog_5_method_22_code, 4, (some .int), { frames := 2, cells := 0, slots := 0, locals := 50 })
def M_Md_reads : MI := (⟨"LampMothsModel", "reads", "([II)Z"⟩, prog_5_method_21_code, 6, (some .boolean), { frames := 1, cells := 0, slots := 0, locals := 25 })
def M_Md_window : MI := (⟨"LampMothsModel", "window", "(II)I"⟩, prog_5_method_25_code, 5, (some .int), { frames := 3, cells := 0, slots := 0, locals := 76 })
def M_Md_noWindow : MI := (⟨"LampMothsModel", "noWindow", "(I)Z"⟩, prog_5_method_6_code, 2, (some .boolean), { frames := 1, cells := 0, slots := 0, locals := 25 })
def M_Md_moth : MI := (⟨"LampMothsModel", "moth", "(II)I"⟩, prog_5_method_26_code, 3, (some .int), { frames := 3, cells := 0, slots := 0, locals := 76 })
def M_Md_noMoth : MI := (⟨"LampMothsModel", "noMoth", "(I)Z"⟩, prog_5_method_7_code, 2, (some .boolean), { frames := 1, cells := 0, slots := 0, locals := 25 })
def M_Md_pull : MI := (⟨"LampMothsModel", "pull", "(II)I"⟩, prog_5_method_27_code, 3, (some .int), { frames := 2, cells := 0, slots := 0, locals := 46 })
def M_Md_up : MI := (⟨"LampMothsModel", "up", "(I)I"⟩, prog_5_method_30_code, 2, (some .int), { frames := 3, cells := 0, slots := 0, locals := 68 })
def M_Md_turned : MI := (⟨"LampMothsModel", "turned", "(II)I"⟩, prog_5_method_29_code, 3, (some .int), { frames := 2, cells := 0, slots := 0, locals := 46 })
def M_Md_note : MI := (⟨"LampMothsModel", "note", "()V"⟩, prog_5_method_28_code, 2, none, { frames := 0, cells := 0, slots := 0, locals := 0 })
def M_Md_down : MI := (⟨"LampMothsModel", "down", "(I)I"⟩, prog_5_method_31_code, 2, (some .int), { frames := 3, cells := 0, slots := 0, locals := 68 })
def M_Md_blow : MI := (⟨"LampMothsModel", "blow", "(I)I"⟩, prog_5_method_32_code, 3, (some .int), { frames := 1, cells := 0, slots := 0, locals := 25 })
def M_Md_move : MI := (⟨"LampMothsModel", "move", "(I)I"⟩, prog_5_method_33_code, 3, (some .int), { frames := 1, cells := 0, slots := 0, locals := 25 })
def M_Md_night : MI := (⟨"LampMothsModel", "night", "()I"⟩, prog_5_method_36_code, 1, (some .int), { frames := 4, cells := 0, slots := 0, locals := 101 })
def M_Md_goNight : MI := (⟨"LampMothsModel", "goNight", "([I)I"⟩, prog_5_method_35_code, 6, (some .int), { frames := 3, cells := 0, slots := 0, locals := 76 })
def M_Md_leastOf : MI := (⟨"LampMothsModel", "leastOf", "(I)I"⟩, prog_5_method_34_code, 4, (some .int), { frames := 1, cells := 0, slots := 0, locals := 21 })
def M_Md_undo : MI := (⟨"LampMothsModel", "undo", "()I"⟩, prog_5_method_37_code, 2, (some .int), { frames := 0, cells := 0, slots := 0, locals := 0 })
def M_Md_dim : MI := (⟨"LampMothsModel", "dim", "(II)I"⟩, prog_5_method_41_code, 4, (some .int), { frames := 4, cells := 0, slots := 0, locals := 99 })
def M_Md_owesBy : MI := (⟨"LampMothsModel", "owesBy", "(III)Z"⟩, prog_5_method_40_code, 4, (some .boolean), { frames := 3, cells := 0, slots := 0, locals := 76 })
def M_Md_begin : MI := (⟨"LampMothsModel", "begin", "()V"⟩, prog_5_method_38_code, 2, none, { frames := 0, cells := 0, slots := 0, locals := 0 })
def M_Md_cheap : MI := (⟨"LampMothsModel", "cheap", "(Z)I"⟩, prog_5_method_43_code, 2, (some .int), { frames := 4, cells := 0, slots := 0, locals := 99 })
def M_Md_findCheap : MI := (⟨"LampMothsModel", "findCheap", "()V"⟩, prog_5_method_42_code, 4, none, { frames := 3, cells := 0, slots := 0, locals := 76 })
def M_Md_power : MI := (⟨"LampMothsModel", "power", "(II)I"⟩, prog_5_method_39_code, 4, (some .int), { frames := 0, cells := 0, slots := 0, locals := 0 })
def M_Md_moving : MI := (⟨"LampMothsModel", "moving", "(I)I"⟩, prog_5_method_46_code, 2, (some .int), { frames := 4, cells := 0, slots := 0, locals := 99 })
def M_Md_findMoving : MI := (⟨"LampMothsModel", "findMoving", "()V"⟩, prog_5_method_45_code, 4, none, { frames := 3, cells := 0, slots := 0, locals := 76 })
def M_Md_isFree : MI := (⟨"LampMothsModel", "isFree", "(I)Z"⟩, prog_5_method_44_code, 4, (some .boolean), { frames := 0, cells := 0, slots := 0, locals := 0 })
def M_Md_judge : MI := (⟨"LampMothsModel", "judge", "(II)I"⟩, prog_5_method_48_code, 4, (some .int), { frames := 5, cells := 0, slots := 0, locals := 126 })
def M_Md_does : MI := (⟨"LampMothsModel", "does", "(I)Z"⟩, prog_5_method_47_code, 6, (some .boolean), { frames := 4, cells := 0, slots := 0, locals := 101 })
def M_Md_share : MI := (⟨"LampMothsModel", "share", "(IZ)I"⟩, prog_5_method_52_code, 6, (some .int), { frames := 3, cells := 0, slots := 0, locals := 76 })
def M_Md_ways : MI := (⟨"LampMothsModel", "ways", "(I)I"⟩, prog_5_method_49_code, 3, (some .int), { frames := 0, cells := 0, slots := 0, locals := 0 })
def M_Md_fraction : MI := (⟨"LampMothsModel", "fraction", "(IIZ)I"⟩, prog_5_method_51_code, 4, (some .int), { frames := 1, cells := 0, slots := 0, locals := 24 })
def M_Md_divisor : MI := (⟨"LampMothsModel", "divisor", "(II)I"⟩, prog_5_method_50_code, 5, (some .int), { frames := 0, cells := 0, slots := 0, locals := 0 })
def M_Md_count : MI := (⟨"LampMothsModel", "count", "(III)I"⟩, prog_5_method_53_code, 4, (some .int), { frames := 2, cells := 0, slots := 0, locals := 46 })
def M_Md_forget : MI := (⟨"LampMothsModel", "forget", "()I"⟩, prog_5_method_54_code, 2, (some .int), { frames := 0, cells := 0, slots := 0, locals := 0 })
def M_Md_honeys : MI := (⟨"LampMothsModel", "honeys", "()I"⟩, prog_5_method_55_code, 5, (some .int), { frames := 3, cells := 0, slots := 0, locals := 76 })
def M_Md_rests : MI := (⟨"LampMothsModel", "rests", "(III)I"⟩, prog_5_method_58_code, 4, (some .int), { frames := 4, cells := 0, slots := 0, locals := 100 })
def M_Md_findRests : MI := (⟨"LampMothsModel", "findRests", "(II)V"⟩, prog_5_method_57_code, 5, none, { frames := 3, cells := 0, slots := 0, locals := 76 })
def M_Md_gainOf : MI := (⟨"LampMothsModel", "gainOf", "(II)I"⟩, prog_5_method_56_code, 3, (some .int), { frames := 2, cells := 0, slots := 0, locals := 50 })
def M_Md_clouds : MI := (⟨"LampMothsModel", "clouds", "(IIZ)I"⟩, prog_5_method_59_code, 8, (some .int), { frames := 3, cells := 0, slots := 0, locals := 76 })
def M_Md_seed : MI := (⟨"LampMothsModel", "seed", "(J)J"⟩, prog_5_method_60_code, 5, (some .long), { frames := 0, cells := 0, slots := 0, locals := 0 })
def M_Md_weeks : MI := (⟨"LampMothsModel", "weeks", "(I)I"⟩, prog_5_method_61_code, 4, (some .int), { frames := 5, cells := 0, slots := 0, locals := 126 })
def M_Md_keep : MI := (⟨"LampMothsModel", "keep", "(I)I"⟩, prog_5_method_62_code, 3, (some .int), { frames := 1, cells := 0, slots := 0, locals := 25 })
def M_Md_again : MI := (⟨"LampMothsModel", "again", "(I)I"⟩, prog_5_method_63_code, 3, (some .int), { frames := 1, cells := 0, slots := 0, locals := 25 })
end
section
/-! A flat picture of the heap: the cells that the law makes lie at base, base + 1, ..; h has their ints, longs, references; sh their shapes -/
abbrev Hp : Type := (Nat → Nat → Int32) × (Nat → Nat → Int64) × (Nat → Nat → Option Nat)
def gI (h : Hp) (a k : Nat) : Int32 := h.1 a k
def gL (h : Hp) (a k : Nat) : Int64 := h.2.1 a k
def gR (h : Hp) (a k : Nat) : Option Nat := h.2.2 a k
def sI (h : Hp) (a k : Nat) (v : Int32) : Hp := (fun b j => if b = a ∧ j = k then v else h.1 b j, h.2.1, h.2.2)
def sL (h : Hp) (a k : Nat) (v : Int64) : Hp := (h.1, fun b j => if b = a ∧ j = k then v else h.2.1 b j, h.2.2)
def sR (h : Hp) (a k : Nat) (v : Option Nat) : Hp := (h.1, h.2.1, fun b j => if b = a ∧ j = k then v else h.2.2 b j)
theorem gI_sI (h : Hp) (a k : Nat) (v : Int32) (b j : Nat) : gI (sI h a k v) b j = if b = a ∧ j = k then v else gI h b j := rfl
theorem gL_sI (h : Hp) (a k : Nat) (v : Int32) (b j : Nat) : gL (sI h a k v) b j = gL h b j := rfl
theorem gR_sI (h : Hp) (a k : Nat) (v : Int32) (b j : Nat) : gR (sI h a k v) b j = gR h b j := rfl
theorem gI_sL (h : Hp) (a k : Nat) (v : Int64) (b j : Nat) : gI (sL h a k v) b j = gI h b j := rfl
theorem gL_sL (h : Hp) (a k : Nat) (v : Int64) (b j : Nat) : gL (sL h a k v) b j = if b = a ∧ j = k then v else gL h b j := rfl
theorem gR_sL (h : Hp) (a k : Nat) (v : Int64) (b j : Nat) : gR (sL h a k v) b j = gR h b j := rfl
theorem gI_sR (h : Hp) (a k : Nat) (v : Option Nat) (b j : Nat) : gI (sR h a k v) b j = gI h b j := rfl
theorem gL_sR (h : Hp) (a k : Nat) (v : Option Nat) (b j : Nat) : gL (sR h a k v) b j = gL h b j := rfl
theorem gR_sR (h : Hp) (a k : Nat) (v : Option Nat) (b j : Nat) : gR (sR h a k v) b j = if b = a ∧ j = k then v else gR h b j := rfl
/-- a shape: an array (its type: 0 int, 1 boolean, 2 int[]; its length), or an object (its class's number; its fields: 0 int, 1 long, 2 a reference with what it is) -/
abbrev Sh : Type := (Nat × Nat) ⊕ (Nat × List (Nat × Option Nat))
def rfv (base : Nat) (r : Option Nat) : Option Nat := r.map (fun a => base + a)
def fv (base : Nat) (h : Hp) (a k : Nat) (f : Nat × Option Nat) : Value := match f.1 with
  | 0 => .int (gI h a k)
  | 1 => .long (gL h a k)
  | _ => va_rf (rfv base f.2)
def fvs (base : Nat) (h : Hp) (a : Nat) : Nat → List (Nat × Option Nat) → List Value
  | _, [] => []
  | k, f :: t => fv base h a k f :: fvs base h a (k + 1) t
def en (D : va_G) (base : Nat) (h : Hp) (a : Nat) (x : Sh) : va_E := match x with
  | .inl (0, n) => .inl (D.1 10, n, .inl (gI h a))
  | .inl (1, n) => .inl (D.1 11, n, .inl (gI h a))
  | .inl (_, n) => .inl (D.1 12, n, .inr (.inr (.inr (.inr (fun k => rfv base (gR h a k))))))
  | .inr (ci, fl) => .inr (ci, fvs base h a 0 fl)
def wl (D : va_G) (base : Nat) (sh : List Sh) (h : Hp) : va_W := sh.mapIdx (fun i x => (base + i, en D base h i x))
def szs : List Sh → Nat
  | [] => 0
  | .inl (_, n) :: t => n + szs t
  | .inr (_, fl) :: t => fl.length + szs t
def up (base : Nat) (v : Value) : Value := match v with
  | .ref a => .ref (base + a)
  | w => w
theorem up_cat (base : Nat) (v : Value) : (up base v).category = v.category := by cases v <;> rfl
theorem wl_get (D : va_G) (base : Nat) (sh : List Sh) (h : Hp) {a : Nat} {x : Sh} (hx : sh[a]? = some x) : (wl D base sh h)[a]? = some (base + a, en D base h a x) := by
  unfold wl
  rw [List.getElem?_mapIdx, hx]
  rfl
theorem wl_inv {D : va_G} {base : Nat} {sh : List Sh} {h : Hp} {a : Nat} {q : Nat × va_E} (hq : (wl D base sh h)[a]? = some q) : ∃ x, sh[a]? = some x ∧ q = (base + a, en D base h a x) := by
  unfold wl at hq
  rw [List.getElem?_mapIdx] at hq
  cases hx : sh[a]? with
  | none => rw [hx] at hq; cases hq
  | some x => rw [hx] at hq; cases hq; exact ⟨x, rfl, rfl⟩
theorem wl_D (D : va_G) (base : Nat) (sh : List Sh) (h : Hp) : va_D (fun q => base ≤ q) (wl D base sh h) := by
  refine ⟨fun i j p q hi hj e => ?_, fun k q hk => ?_⟩
  · obtain ⟨x, -, rfl⟩ := wl_inv hi
    obtain ⟨y, -, rfl⟩ := wl_inv hj
    have e2 : base + i = base + j := e
    omega
  · obtain ⟨x, -, rfl⟩ := wl_inv hk
    exact Nat.le_add_right _ _
theorem wl_set {D : va_G} {base : Nat} {sh : List Sh} {h h' : Hp} {a : Nat} {x x' : Sh} {e : va_E} (hx : sh[a]? = some x) (he : e = en D base h' a x') (ho : ∀ b y, b ≠ a → sh[b]? = some y → en D base h' b y = en D base h b y) : (wl D base sh h).set a (base + a, e) = wl D base (sh.set a x') h' := by
  apply List.ext_getElem?
  intro k
  have hl : a < sh.length := (List.getElem?_eq_some_iff.mp hx).1
  by_cases hk : k = a
  · subst hk
    rw [List.getElem?_set_self (by unfold wl; rw [List.length_mapIdx]; exact hl)]
    rw [wl_get D base (sh.set k x') h' (x := x') (List.getElem?_set_self hl), he]
  · rw [List.getElem?_set_ne (Ne.symm hk)]
    have e2 : (sh.set a x')[k]? = sh[k]? := List.getElem?_set_ne (Ne.symm hk)
    unfold wl
    rw [List.getElem?_mapIdx, List.getElem?_mapIdx, e2]
    cases hy : sh[k]? with
    | none => rfl
    | some y => 
      show some (base + k, en D base h k y) = some (base + k, en D base h' k y)
      rw [ho k y hk hy]
theorem set_same {α : Type} {l : List α} {a : Nat} {x : α} (h : l[a]? = some x) : l.set a x = l := by
  apply List.ext_getElem?
  intro k
  by_cases hk : k = a
  · subst hk
    rw [List.getElem?_set_self (List.getElem?_eq_some_iff.mp h).1, h]
  · rw [List.getElem?_set_ne (Ne.symm hk)]
theorem fvs_ext {base : Nat} {h h' : Hp} {a : Nat} : ∀ (fl : List (Nat × Option Nat)) (k : Nat), (∀ j, gI h' a j = gI h a j) → (∀ j, gL h' a j = gL h a j) → fvs base h' a k fl = fvs base h a k fl
  | [], _, _, _ => rfl
  | f :: t, k, h1, h2 => by
    show fv base h' a k f :: fvs base h' a (k + 1) t = fv base h a k f :: fvs base h a (k + 1) t
    rw [fvs_ext t (k + 1) h1 h2]
    unfold fv
    rw [h1, h2]
theorem en_ext {D : va_G} {base : Nat} {h h' : Hp} {a : Nat} (x : Sh) (h1 : ∀ j, gI h' a j = gI h a j) (h2 : ∀ j, gL h' a j = gL h a j) (h3 : ∀ j, gR h' a j = gR h a j) : en D base h' a x = en D base h a x := by
  have e1 : gI h' a = gI h a := funext h1
  have e3 : gR h' a = gR h a := funext h3
  rcases x with ⟨t, n⟩ | ⟨ci, fl⟩
  · match t with
    | 0 => simp only [en, e1]
    | 1 => simp only [en, e1]
    | t + 2 => simp only [en, e3]
  · simp only [en]
    rw [fvs_ext fl 0 h1 h2]
theorem fvs_get {base : Nat} {h : Hp} {a : Nat} : ∀ (fl : List (Nat × Option Nat)) (k j : Nat) {f : Nat × Option Nat}, fl[j]? = some f → (fvs base h a k fl)[j]? = some (fv base h a (k + j) f)
  | [], _, j, _, e => by simp at e
  | g :: t, k, 0, f, e => by
    rw [List.getElem?_cons_zero] at e
    cases e
    rfl
  | g :: t, k, j + 1, f, e => by
    rw [List.getElem?_cons_succ] at e
    show (fvs base h a (k + 1) t)[j]? = _
    rw [fvs_get t (k + 1) j e, show k + 1 + j = k + (j + 1) by omega]
theorem fvs_len {base : Nat} {h : Hp} {a : Nat} : ∀ (fl : List (Nat × Option Nat)) (k : Nat), (fvs base h a k fl).length = fl.length
  | [], _ => rfl
  | g :: t, k => by
    show (fvs base h a (k + 1) t).length + 1 = t.length + 1
    rw [fvs_len t (k + 1)]
theorem fvs_set {base : Nat} {h h' : Hp} {a : Nat} : ∀ (fl : List (Nat × Option Nat)) (k j : Nat) {f f' : Nat × Option Nat} {v : Value}, fl[j]? = some f → v = fv base h' a (k + j) f' → (∀ i y, i ≠ k + j → fv base h' a i y = fv base h a i y) → (fvs base h a k fl).set j v = fvs base h' a k (fl.set j f')
  | [], _, j, _, _, _, e, _, _ => by simp at e
  | g :: t, k, 0, f, f', v, e, hv, ho => by
    show v :: fvs base h a (k + 1) t = fv base h' a k f' :: fvs base h' a (k + 1) t
    rw [hv]
    have : ∀ (l : List (Nat × Option Nat)) (i : Nat), k < i → fvs base h a i l = fvs base h' a i l := by
      intro l
      induction l with
      | nil => intro i _; rfl
      | cons y l ih =>
        intro i hi
        show fv base h a i y :: fvs base h a (i + 1) l = fv base h' a i y :: fvs base h' a (i + 1) l
        rw [ih (i + 1) (by omega), ho i y (by omega)]
    rw [this t (k + 1) (by omega)]
    rfl
  | g :: t, k, j + 1, f, f', v, e, hv, ho => by
    rw [List.getElem?_cons_succ] at e
    show fv base h a k g :: (fvs base h a (k + 1) t).set j v = fv base h' a k g :: fvs base h' a (k + 1) (t.set j f')
    rw [fvs_set t (k + 1) j e (by rw [hv, show k + 1 + j = k + (j + 1) by omega]) (fun i y hi => ho i y (by omega)), ho k g (by omega)]
/-! locals -/
def lget : List (Option Value) → Nat → Option Value
  | [], _ => none
  | v :: _, 0 => v
  | _ :: t, n + 1 => lget t n
def lset : List (Option Value) → Nat → Option Value → List (Option Value)
  | [], _, _ => []
  | _ :: t, 0, v => v :: t
  | a :: t, n + 1, v => a :: lset t n v
def lvl (base : Nat) : Nat → List (Option Value) → List (Nat × Value)
  | _, [] => []
  | i, none :: t => lvl base (i + 1) t
  | i, some v :: t => (i, up base v) :: lvl base (i + 1) t
/-- the place before i holds no long -/
def okst : List (Option Value) → Nat → Bool
  | _, 0 => true
  | ls, i + 1 => match lget ls i with
    | some (.long _) => false
    | some (.double _) => false
    | _ => true
theorem lvl_get {base : Nat} : ∀ (ls : List (Option Value)) (i0 i : Nat) {v : Value}, lget ls i = some v → (i0 + i, up base v) ∈ lvl base i0 ls
  | [], _, _, _, e => by cases e
  | a :: t, i0, 0, v, e => by
    have e2 : a = some v := e
    subst e2
    exact List.mem_cons_self
  | a :: t, i0, i + 1, v, e => by
    have h := lvl_get (base := base) t (i0 + 1) i (v := v) e
    rw [show i0 + 1 + i = i0 + (i + 1) by omega] at h
    cases a with
    | none => exact h
    | some w => exact List.mem_cons_of_mem _ h
theorem lvl_inv {base : Nat} : ∀ (ls : List (Option Value)) (i0 : Nat) {q : Nat × Value}, q ∈ lvl base i0 ls → ∃ i v, lget ls i = some v ∧ q = (i0 + i, up base v)
  | [], _, _, h => by cases h
  | none :: t, i0, q, h => by
    obtain ⟨i, v, h1, h2⟩ := lvl_inv t (i0 + 1) (show q ∈ lvl base (i0 + 1) t from h)
    exact ⟨i + 1, v, h1, by rw [h2, show i0 + 1 + i = i0 + (i + 1) by omega]⟩
  | some w :: t, i0, q, h => by
    rcases List.mem_cons.mp (show q ∈ (i0, up base w) :: lvl base (i0 + 1) t from h) with h | h
    · exact ⟨0, w, rfl, h⟩
    · obtain ⟨i, v, h1, h2⟩ := lvl_inv t (i0 + 1) h
      exact ⟨i + 1, v, h1, by rw [h2, show i0 + 1 + i = i0 + (i + 1) by omega]⟩
theorem lget_lset : ∀ (ls : List (Option Value)) (i j : Nat) (o : Option Value) {v : Value}, lget (lset ls i o) j = some v → (j = i ∧ o = some v) ∨ (j ≠ i ∧ lget ls j = some v)
  | [], _, _, _, _, e => by cases e
  | a :: t, 0, 0, o, v, e => Or.inl ⟨rfl, e⟩
  | a :: t, 0, j + 1, o, v, e => Or.inr ⟨by omega, e⟩
  | a :: t, i + 1, 0, o, v, e => Or.inr ⟨by omega, e⟩
  | a :: t, i + 1, j + 1, o, v, e => by
    rcases lget_lset t i j o (v := v) e with ⟨h1, h2⟩ | ⟨h1, h2⟩
    · exact Or.inl ⟨by omega, h2⟩
    · exact Or.inr ⟨by omega, h2⟩
theorem okst_cat {ls : List (Option Value)} {i j : Nat} {v : Value} (ho : okst ls i = true) (hj : j + 1 = i) (hv : lget ls j = some v) : v.category = 1 := by
  subst hj
  have ho : (match lget ls j with
    | some (.long _) => false
    | some (.double _) => false
    | _ => true) = true := ho
  rw [hv] at ho
  cases v <;> first | rfl | cases ho
theorem lv_setI {base nL i : Nat} {ls : List (Option Value)} {A : Array Slot} {v : Value} (ho : okst ls i = true) (h : lv_has A nL ((i, up base v) :: (lvl base 0 ls).filter (fun q => !(q.1 == i) && !(q.1 + 1 == i && q.2.category == 2)))) : lv_has A nL (lvl base 0 (lset ls i (some v))) := by
  refine ⟨h.1, h.2.1, fun q hq => ?_⟩
  obtain ⟨j, w, h1, rfl⟩ := lvl_inv _ _ hq
  rw [Nat.zero_add]
  rcases lget_lset ls i j (some v) h1 with ⟨h2, h3⟩ | ⟨h2, h3⟩
  · have e3 := Option.some.inj h3
    subst e3
    subst h2
    exact h.2.2 _ List.mem_cons_self
  · refine h.2.2 (j, up base w) (List.mem_cons_of_mem _ (List.mem_filter.mpr ⟨?_, ?_⟩))
    · have := lvl_get (base := base) ls 0 j h3
      rwa [Nat.zero_add] at this
    · have hc : j + 1 = i → w.category = 1 := fun e => okst_cat ho e h3
      by_cases e : j + 1 = i
      · simp [h2, e, up_cat, hc e]
      · simp [h2, e]
theorem lv_setL {base nL i : Nat} {ls : List (Option Value)} {A : Array Slot} {v : Value} (ho : okst ls i = true) (h : lv_has A nL ((i, up base v) :: (lvl base 0 ls).filter (fun q => !(q.1 == i) && (!(q.1 == i + 1) && !(q.1 + 1 == i && q.2.category == 2))))) : lv_has A nL (lvl base 0 (lset (lset ls i (some v)) (i + 1) none)) := by
  refine ⟨h.1, h.2.1, fun q hq => ?_⟩
  obtain ⟨j, w, h1, rfl⟩ := lvl_inv _ _ hq
  rw [Nat.zero_add]
  rcases lget_lset _ (i + 1) j none h1 with ⟨h2, h3⟩ | ⟨h2', h3⟩
  · cases h3
  rcases lget_lset ls i j (some v) h3 with ⟨h2, h3⟩ | ⟨h2, h3⟩
  · have e3 := Option.some.inj h3
    subst e3
    subst h2
    exact h.2.2 _ List.mem_cons_self
  · refine h.2.2 (j, up base w) (List.mem_cons_of_mem _ (List.mem_filter.mpr ⟨?_, ?_⟩))
    · have := lvl_get (base := base) ls 0 j h3
      rwa [Nat.zero_add] at this
    · have hc : j + 1 = i → w.category = 1 := fun e => okst_cat ho e h3
      by_cases e : j + 1 = i
      · simp [h2, h2', e, up_cat, hc e]
      · simp [h2, h2', e]
/-! what is known of the tables at a method's entry -/
abbrev tysG (D : va_G) : List (ClassId × FieldType) := [(D.1 10, .int), (D.1 11, .boolean), (D.1 12, .array .int)]
def AOA (U : State) : Prop := (Cond.arrayOver (.array .int)).before #[] U = true
abbrev nw1 : Cond := .methodLinkNest "LampMoths" 19 ⟨"LampMoths$Lane", "<init>", "()V"⟩ "LampMoths"
abbrev nw2 : Cond := .methodLinkNest "LampMoths" 29 ⟨"LampMoths$Reader", "<init>", "()V"⟩ "LampMoths"
abbrev nw3 : Cond := .methodLinkNest "LampMoths$Reader" 46 ⟨"LampMoths", "isWind", "(I)Z"⟩ "LampMoths"
theorem AOA_spec {U : State} (h : AOA U) : ∃ comp c k, U.vm.findClass (FieldType.array .int).toString = some comp ∧ (U.vm.classes.findIdx? fun (x : Class) => match x.kind with | .array component _ => component == comp | _ => false) = some c ∧ U.vm.classes[c]? = some k ∧ k.kind = .array comp (.array .int) ∧ U.vm.findClass ("[" ++ (FieldType.array .int).toString) = some c := by
  unfold AOA Cond.before Cond.holds at h
  simp only [Cond.value, beq_iff_eq] at h
  cases hc : U.vm.findClass (FieldType.array .int).toString with
  | none => simp [hc] at h
  | some comp =>
    simp only [hc, Option.bind_some, Option.bind_eq_some_iff, Option.map_eq_some_iff] at h
    obtain ⟨c, hi, k, hk, hb⟩ := h
    obtain ⟨hlt, hp, -⟩ := Array.findIdx?_eq_some_iff_getElem.mp hi
    have hkk : U.vm.classes[c] = k := (Array.getElem?_eq_some_iff.mp hk).2
    rw [hkk] at hp
    cases hkind : k.kind with
    | array component ty =>
      rw [hkind] at hb hp
      simp at hb hp
      exact ⟨comp, c, k, rfl, hi, hk, by rw [hkind, hp, hb.1], hb.2⟩
    | _ => rw [hkind] at hb; simp at hb
theorem AOA.moved {u U : State} (hvm : u.vm.Alike U.vm) (h : AOA u) : AOA U := by
  obtain ⟨comp, c, k, h1, h2, h3, h4, h5⟩ := AOA_spec h
  obtain ⟨k', hk', he⟩ := hvm.2.2 _ _ h3
  have hi : (U.vm.classes.findIdx? fun (x : Class) => match x.kind with | .array component _ => component == comp | _ => false) = some c := by
    have e1 := va_idx_bare U.vm comp
    have e2 := va_idx_bare u.vm comp
    rw [hvm.bare_eq] at e1
    exact (e1.symm.trans e2).trans h2
  have hkind : k'.kind = .array comp (.array .int) := by rw [he]; exact h4
  have f1 : U.vm.findClass (FieldType.array .int).toString = some comp := by rw [hvm.findClass]; exact h1
  have f2 : U.vm.findClass ("[" ++ (FieldType.array .int).toString) = some c := by rw [hvm.findClass]; exact h5
  unfold AOA Cond.before Cond.holds
  simp only [Cond.value]
  rw [f1, Option.bind_some]
  refine (congrArg (fun o : Option Nat => (o.bind (fun c => (U.vm.classes[c]?).map fun (k : Class) => match k.kind with | .array _ ty => decide (ty = FieldType.array .int) && decide (U.vm.findClass ("[" ++ (FieldType.array .int).toString) = some c) | _ => false) == some true)) hi).trans ?_
  simp [hk', hkind, f2]
def KX (D : va_G) (U : State) : Prop := va_K D classes (tysG D) U ∧ va_Nw nw1 U ∧ va_Nw nw2 U ∧ va_Nw nw3 U ∧ AOA U
theorem KX.warm {D : va_G} {s U : State} (hW : s.WarmedH U.vm) (h : KX D s) : KX D U :=
  ⟨va_K.moved hW.alike h.1, va_Nw.warmM hW h.2.1, va_Nw.warmM hW h.2.2.1, va_Nw.warmM hW h.2.2.2.1, h.2.2.2.2.moved hW.alike⟩
theorem KX.same {D : va_G} {u U : State} (e : u.vm = U.vm) (h : KX D u) : KX D U :=
  ⟨va_K.moved (by rw [e]; exact Vm.Alike.refl U.vm) h.1, va_Nw.same rfl e h.2.1, va_Nw.same rfl e h.2.2.1, va_Nw.same rfl e h.2.2.2.1, h.2.2.2.2.moved (by rw [e]; exact Vm.Alike.refl U.vm)⟩
/-- the words that a call hands on -/
def lw_gt : List Cond := lw_tbl.filter goodWord
theorem gt_in {w : Cond} (h : w ∈ lw_gt) : w ∈ lw_tbl := (List.mem_filter.mp h).1
theorem gt_at {w : Cond} (i : Nat) (h : lw_tbl[i]? = some w) (hg : goodWord w = true) : w ∈ lw_gt := List.mem_filter.mpr ⟨List.mem_of_getElem? h, hg⟩
def wsM (M : MI) : List Cond := .code M.1 M.2.1 M.2.2.1 M.2.2.2.1 :: lw_gt
def CX (D : va_G) (base : Nat) (M : MI) (p : Program) (s : State) (m : MethodId) (args : Array Value) (meth : Method) (c : Code) : Prop :=
  p.tables.exec = Jvm.exec ∧ c.code = M.2.1 ∧ meth.sig.returnType = M.2.2.2.1 ∧ c.maxLocals = M.2.2.1 ∧ s.vm.findClass M.1.cls = some m.cls ∧ (∀ w ∈ lw_gt, w.before args s = true) ∧ meth.locks = false ∧ KX D s ∧ base ≤ s.heap.size ∧ meth.name = M.1.name
def PX (D : va_G) (base : Nat) (sh : List Sh) (h : Hp) (H : Heap) : Prop := H.size = base + sh.length ∧ va_P D classes (wl D base sh h) H
def QX (D : va_G) (base : Nat) (Q : List Sh → Hp → Option Value → Prop) : Array Value → State → Outcome → State → Prop := fun _ st oc t =>
  ∃ (sh : List Sh) (h : Hp) (r : Option Value), oc = .returned (r.map (up base)) ∧ Q sh h r ∧ PX D base sh h t.heap ∧ va_F (fun q => base ≤ q) st t
def WX (l : Launch) (D : va_G) (base : Nat) (z : Nat × Nat) (M : MI) (sh : List Sh) (pc : Nat) (ls : List (Option Value)) (st : List Value) (h : Hp) (Q : List Sh → Hp → Option Value → Prop) : Prop :=
  ∀ (p : Program) (e : Env) (s : State) (m : MethodId) (args : Array Value) (below : List Frame) (meth : Method) (c : Code), CX D base M p s m args meth c → ∀ (H : Heap) (locs : List Loc) (A : Array Slot), PX D base sh h H → va_S (fun q => base ≤ q) s.heap H locs → lv_has A M.2.2.1 (lvl base 0 ls) →
    W p l e M.2.2.2.2 s m args below meth c H locs (sh.length - z.1) (szs sh - z.2) (MQ below (QX D base Q) args s M.2.2.2.2.cells M.2.2.2.2.slots (fun q => base ≤ q)) (F0 m pc A (st.map (up base)))
/-- a method's contract, cells sh with contents h at its call -/
def SX (l : Launch) (D : va_G) (base : Nat) (M : MI) (sh : List Sh) (As : List Value) (h : Hp) (Q : List Sh → Hp → Option Value → Prop) : Prop :=
  Met l M.1 (wsM M) M.2.2.2.2 (va_Pc (As.map (up base)) (fun U => PX D base sh h U.heap ∧ KX D U)) (QX D base Q) M.2.2.2.2.cells M.2.2.2.2.slots (fun q => base ≤ q)
theorem SX.of {l : Launch} {D : va_G} {base : Nat} {M : MI} {sh : List Sh} {As : List Value} {h : Hp} {Q : List Sh → Hp → Option Value → Prop} (ls : List (Option Value)) (hy : plainName M.1.cls = true) (hls : lvl base 0 ls = lv_args 0 (As.map (up base))) (hn : (lg_sl (As.map (up base))).length ≤ M.2.2.1)
    (k : WX l D base (sh.length, szs sh) M sh 0 ls [] h Q) : SX l D base M sh As h Q := by
  refine Met.ofW (cc := M.2.1) (maxL := M.2.2.1) (ret := M.2.2.2.1) hy rfl ?_
  intro p e s m args below meth c s₁ B hml hv
  obtain ⟨rfl, hP, hK⟩ := hv
  have hts := atoms_spec (ws := wsM M) B.pre
  rw [lg_entry_eq]
  have hl := lv_entry (As.map (up base)) (n := M.2.2.1) hn
  rw [← hls] at hl
  have k1 := k p e s m _ below meth c ⟨B.exec, B.bytes, B.returns, hml, findClass_of_methodNamed B.named, fun w hw => hts w (List.mem_cons_of_mem _ hw), B.notSynchronized, hK, by have := hP.1; omega, (name_of_methodNamed B.named B.method).1⟩ s.heap [] _ hP va_S.rf hl
  rw [Nat.sub_self, Nat.sub_self] at k1
  exact k1
theorem wx_eq {l : Launch} {D : va_G} {base : Nat} {z : Nat × Nat} {M : MI} {sh : List Sh} {pc : Nat} {ls ls' : List (Option Value)} {st st' : List Value} {h h' : Hp} {Q : List Sh → Hp → Option Value → Prop} (k : WX l D base z M sh pc ls' st' h' Q) (h1 : ls = ls') (h2 : st = st') (h3 : h = h') : WX l D base z M sh pc ls st h Q := by
  subst h1; subst h2; subst h3; exact k
end
section
section WXR
variable {l : Launch} {D : va_G} {base : Nat} {z : Nat × Nat} {M : MI} {sh : List Sh} {pc : Nat} {ls : List (Option Value)} {st : List Value} {h : Hp} {Q : List Sh → Hp → Option Value → Prop}
theorem wx_iconst {n : Int} {v : Int32} (hd : decode M.2.1 pc = .ok (.iconst n, 1)) (hv : Int32.ofInt n = v) (k : WX l D base z M sh (pc + 1) ls (.int v :: st) h Q) : WX l D base z M sh pc ls (st) h Q :=
  fun p e s m args below meth c C H locs A hP hS hL => lv_iconst C.1 C.2.1 hd hv (k p e s m args below meth c C H locs A hP hS hL)
theorem wx_bipush {n : Int} {v : Int32} (hd : decode M.2.1 pc = .ok (.bipush n, 2)) (hv : (Int8.ofInt n).toInt32 = v) (k : WX l D base z M sh (pc + 2) ls (.int v :: st) h Q) : WX l D base z M sh pc ls (st) h Q :=
  fun p e s m args below meth c C H locs A hP hS hL => lv_bipush C.1 C.2.1 hd hv (k p e s m args below meth c C H locs A hP hS hL)
theorem wx_sipush {n : Int} {v : Int32} (hd : decode M.2.1 pc = .ok (.sipush n, 3)) (hv : (Int16.ofInt n).toInt32 = v) (k : WX l D base z M sh (pc + 3) ls (.int v :: st) h Q) : WX l D base z M sh pc ls (st) h Q :=
  fun p e s m args below meth c C H locs A hP hS hL => lv_sipush C.1 C.2.1 hd hv (k p e s m args below meth c C H locs A hP hS hL)
theorem wx_lconst {n : Fin 2} {v : Int64} (hd : decode M.2.1 pc = .ok (.lconst n, 1)) (hv : Int64.ofNat (n : Nat) = v) (k : WX l D base z M sh (pc + 1) ls (.long v :: st) h Q) : WX l D base z M sh pc ls (st) h Q :=
  fun p e s m args below meth c C H locs A hP hS hL => lv_lconst C.1 C.2.1 hd hv (k p e s m args below meth c C H locs A hP hS hL)
theorem wx_iload_n {k : Fin 4} {i : Nat} {x : Int32} (hd : decode M.2.1 pc = .ok (.iload_n k, 1)) (hi : (k : Nat) = i) (hg : lget ls i = some (.int x)) (k2 : WX l D base z M sh (pc + 1) ls (.int x :: st) h Q) : WX l D base z M sh pc ls st h Q :=
  fun p e s m args below meth c C H locs A hP hS hL => lv_iload_n C.1 C.2.1 hd hi (by have q := hL.2.2 _ (lvl_get ls 0 i hg); rw [Nat.zero_add] at q; exact q) (k2 p e s m args below meth c C H locs A hP hS hL)
theorem wx_iload {i : Nat} {x : Int32} (hd : decode M.2.1 pc = .ok (.iload i, 2)) (hg : lget ls i = some (.int x)) (k2 : WX l D base z M sh (pc + 2) ls (.int x :: st) h Q) : WX l D base z M sh pc ls st h Q :=
  fun p e s m args below meth c C H locs A hP hS hL => lv_iload C.1 C.2.1 hd (by have q := hL.2.2 _ (lvl_get ls 0 i hg); rw [Nat.zero_add] at q; exact q) (k2 p e s m args below meth c C H locs A hP hS hL)
theorem wx_lload_n {k : Fin 4} {i : Nat} {x : Int64} (hd : decode M.2.1 pc = .ok (.lload_n k, 1)) (hi : (k : Nat) = i) (hg : lget ls i = some (.long x)) (k2 : WX l D base z M sh (pc + 1) ls (.long x :: st) h Q) : WX l D base z M sh pc ls st h Q :=
  fun p e s m args below meth c C H locs A hP hS hL => lv_lload_n C.1 C.2.1 hd hi (by have q := hL.2.2 _ (lvl_get ls 0 i hg); rw [Nat.zero_add] at q; exact q) (k2 p e s m args below meth c C H locs A hP hS hL)
theorem wx_lload {i : Nat} {x : Int64} (hd : decode M.2.1 pc = .ok (.lload i, 2)) (hg : lget ls i = some (.long x)) (k2 : WX l D base z M sh (pc + 2) ls (.long x :: st) h Q) : WX l D base z M sh pc ls st h Q :=
  fun p e s m args below meth c C H locs A hP hS hL => lv_lload C.1 C.2.1 hd (by have q := hL.2.2 _ (lvl_get ls 0 i hg); rw [Nat.zero_add] at q; exact q) (k2 p e s m args below meth c C H locs A hP hS hL)
theorem wx_aload_n {k : Fin 4} {i : Nat} {x : Nat} (hd : decode M.2.1 pc = .ok (.aload_n k, 1)) (hi : (k : Nat) = i) (hg : lget ls i = some (.ref x)) (k2 : WX l D base z M sh (pc + 1) ls (.ref x :: st) h Q) : WX l D base z M sh pc ls st h Q :=
  fun p e s m args below meth c C H locs A hP hS hL => lv_aload_n C.1 C.2.1 hd hi (by have q := hL.2.2 _ (lvl_get ls 0 i hg); rw [Nat.zero_add] at q; exact q) (k2 p e s m args below meth c C H locs A hP hS hL)
theorem wx_istore_n {k : Fin 4} {i : Nat} {x : Int32} {ls2 : List (Option Value)} (hd : decode M.2.1 pc = .ok (.istore_n k, 1)) (hi : (k : Nat) = i) (hn : i < M.2.2.1) (ho : okst ls i = true) (he : lset ls i (some (.int x)) = ls2) (k2 : WX l D base z M sh (pc + 1) ls2 st h Q) : WX l D base z M sh pc ls (.int x :: st) h Q := by
  subst he
  exact fun p e s m args below meth c C H locs A hP hS hL => lv_istore_n C.1 C.2.1 hd hi hL hn rfl (fun A2 hL2 => k2 p e s m args below meth c C H locs A2 hP hS (lv_setI ho hL2))
theorem wx_istore {i : Nat} {x : Int32} {ls2 : List (Option Value)} (hd : decode M.2.1 pc = .ok (.istore i, 2)) (hn : i < M.2.2.1) (ho : okst ls i = true) (he : lset ls i (some (.int x)) = ls2) (k2 : WX l D base z M sh (pc + 2) ls2 st h Q) : WX l D base z M sh pc ls (.int x :: st) h Q := by
  subst he
  exact fun p e s m args below meth c C H locs A hP hS hL => lv_istore C.1 C.2.1 hd hL hn rfl (fun A2 hL2 => k2 p e s m args below meth c C H locs A2 hP hS (lv_setI ho hL2))
theorem wx_astore_n {k : Fin 4} {i : Nat} {x : Nat} {ls2 : List (Option Value)} (hd : decode M.2.1 pc = .ok (.astore_n k, 1)) (hi : (k : Nat) = i) (hn : i < M.2.2.1) (ho : okst ls i = true) (he : lset ls i (some (.ref x)) = ls2) (k2 : WX l D base z M sh (pc + 1) ls2 st h Q) : WX l D base z M sh pc ls (.ref x :: st) h Q := by
  subst he
  exact fun p e s m args below meth c C H locs A hP hS hL => lv_astore_n C.1 C.2.1 hd hi hL hn rfl (fun A2 hL2 => k2 p e s m args below meth c C H locs A2 hP hS (lv_setI ho hL2))
theorem wx_lstore_n {k : Fin 4} {i : Nat} {x : Int64} {ls2 : List (Option Value)} (hd : decode M.2.1 pc = .ok (.lstore_n k, 1)) (hi : (k : Nat) = i) (hn : i + 1 < M.2.2.1) (ho : okst ls i = true) (he : lset (lset ls i (some (.long x))) (i + 1) none = ls2) (k2 : WX l D base z M sh (pc + 1) ls2 st h Q) : WX l D base z M sh pc ls (.long x :: st) h Q := by
  subst he
  exact fun p e s m args below meth c C H locs A hP hS hL => lv_lstore_n C.1 C.2.1 hd hi hL hn rfl (fun A2 hL2 => k2 p e s m args below meth c C H locs A2 hP hS (lv_setL ho hL2))
theorem wx_iinc {i : Nat} {n : Int} {x v : Int32} {ls2 : List (Option Value)} (hd : decode M.2.1 pc = .ok (.iinc i n, 3)) (hg : lget ls i = some (.int x)) (hv : x + Int32.ofInt n = v) (hn : i < M.2.2.1) (ho : okst ls i = true) (he : lset ls i (some (.int v)) = ls2) (k2 : WX l D base z M sh (pc + 3) ls2 st h Q) : WX l D base z M sh pc ls st h Q := by
  subst he
  intro p e s m args below meth c C H locs A hP hS hL
  have q := lvl_get (base := base) ls 0 i hg
  rw [Nat.zero_add] at q
  obtain ⟨j, hj⟩ := List.getElem?_of_mem q
  exact lv_iinc C.1 C.2.1 hd hL hj hv hn rfl (fun A2 hL2 => k2 p e s m args below meth c C H locs A2 hP hS (lv_setI (v := .int v) ho hL2))
theorem wx_iadd {x y : Int32} (hd : decode M.2.1 pc = .ok (.iadd, 1))  (k : WX l D base z M sh (pc + 1) ls (.int (x + y) :: st) h Q) : WX l D base z M sh pc ls (.int y :: .int x :: st) h Q :=
  fun p e s m args below meth c C H locs A hP hS hL => lv_iadd C.1 C.2.1 hd  (k p e s m args below meth c C H locs A hP hS hL)
theorem wx_isub {x y : Int32} (hd : decode M.2.1 pc = .ok (.isub, 1))  (k : WX l D base z M sh (pc + 1) ls (.int (x - y) :: st) h Q) : WX l D base z M sh pc ls (.int y :: .int x :: st) h Q :=
  fun p e s m args below meth c C H locs A hP hS hL => lv_isub C.1 C.2.1 hd  (k p e s m args below meth c C H locs A hP hS hL)
theorem wx_imul {x y : Int32} (hd : decode M.2.1 pc = .ok (.imul, 1))  (k : WX l D base z M sh (pc + 1) ls (.int (x * y) :: st) h Q) : WX l D base z M sh pc ls (.int y :: .int x :: st) h Q :=
  fun p e s m args below meth c C H locs A hP hS hL => lv_imul C.1 C.2.1 hd  (k p e s m args below meth c C H locs A hP hS hL)
theorem wx_iand {x y : Int32} (hd : decode M.2.1 pc = .ok (.iand, 1))  (k : WX l D base z M sh (pc + 1) ls (.int (x &&& y) :: st) h Q) : WX l D base z M sh pc ls (.int y :: .int x :: st) h Q :=
  fun p e s m args below meth c C H locs A hP hS hL => lv_iand C.1 C.2.1 hd  (k p e s m args below meth c C H locs A hP hS hL)
theorem wx_ior {x y : Int32} (hd : decode M.2.1 pc = .ok (.ior, 1))  (k : WX l D base z M sh (pc + 1) ls (.int (x ||| y) :: st) h Q) : WX l D base z M sh pc ls (.int y :: .int x :: st) h Q :=
  fun p e s m args below meth c C H locs A hP hS hL => lv_ior C.1 C.2.1 hd  (k p e s m args below meth c C H locs A hP hS hL)
theorem wx_ixor {x y : Int32} (hd : decode M.2.1 pc = .ok (.ixor, 1))  (k : WX l D base z M sh (pc + 1) ls (.int (x ^^^ y) :: st) h Q) : WX l D base z M sh pc ls (.int y :: .int x :: st) h Q :=
  fun p e s m args below meth c C H locs A hP hS hL => lv_ixor C.1 C.2.1 hd  (k p e s m args below meth c C H locs A hP hS hL)
theorem wx_ishl {x y : Int32} (hd : decode M.2.1 pc = .ok (.ishl, 1))  (k : WX l D base z M sh (pc + 1) ls (.int (x <<< (y &&& 31)) :: st) h Q) : WX l D base z M sh pc ls (.int y :: .int x :: st) h Q :=
  fun p e s m args below meth c C H locs A hP hS hL => lv_ishl C.1 C.2.1 hd  (k p e s m args below meth c C H locs A hP hS hL)
theorem wx_ishr {x y : Int32} (hd : decode M.2.1 pc = .ok (.ishr, 1))  (k : WX l D base z M sh (pc + 1) ls (.int (x >>> (y &&& 31)) :: st) h Q) : WX l D base z M sh pc ls (.int y :: .int x :: st) h Q :=
  fun p e s m args below meth c C H locs A hP hS hL => lv_ishr C.1 C.2.1 hd  (k p e s m args below meth c C H locs A hP hS hL)
theorem wx_iushr {x y : Int32} (hd : decode M.2.1 pc = .ok (.iushr, 1))  (k : WX l D base z M sh (pc + 1) ls (.int (x.toUInt32 >>> (y.toUInt32 &&& Int32.toUInt32 31)).toInt32 :: st) h Q) : WX l D base z M sh pc ls (.int y :: .int x :: st) h Q :=
  fun p e s m args below meth c C H locs A hP hS hL => lv_iushr C.1 C.2.1 hd rfl (k p e s m args below meth c C H locs A hP hS hL)
theorem wx_idiv {x y : Int32} (hd : decode M.2.1 pc = .ok (.idiv, 1)) (hne : ¬ y = 0) (k : WX l D base z M sh (pc + 1) ls (.int (x / y) :: st) h Q) : WX l D base z M sh pc ls (.int y :: .int x :: st) h Q :=
  fun p e s m args below meth c C H locs A hP hS hL => lv_idiv C.1 C.2.1 hd hne (k p e s m args below meth c C H locs A hP hS hL)
theorem wx_irem {x y : Int32} (hd : decode M.2.1 pc = .ok (.irem, 1)) (hne : ¬ y = 0) (k : WX l D base z M sh (pc + 1) ls (.int (x - x / y * y) :: st) h Q) : WX l D base z M sh pc ls (.int y :: .int x :: st) h Q :=
  fun p e s m args below meth c C H locs A hP hS hL => lv_irem C.1 C.2.1 hd hne (k p e s m args below meth c C H locs A hP hS hL)
theorem wx_ineg {x : Int32} (hd : decode M.2.1 pc = .ok (.ineg, 1))  (k : WX l D base z M sh (pc + 1) ls (.int (-x) :: st) h Q) : WX l D base z M sh pc ls (.int x :: st) h Q :=
  fun p e s m args below meth c C H locs A hP hS hL => lv_ineg C.1 C.2.1 hd  (k p e s m args below meth c C H locs A hP hS hL)
theorem wx_ladd {x y : Int64} (hd : decode M.2.1 pc = .ok (.ladd, 1))  (k : WX l D base z M sh (pc + 1) ls (.long (x + y) :: st) h Q) : WX l D base z M sh pc ls (.long y :: .long x :: st) h Q :=
  fun p e s m args below meth c C H locs A hP hS hL => lv_ladd C.1 C.2.1 hd  (k p e s m args below meth c C H locs A hP hS hL)
theorem wx_lmul {x y : Int64} (hd : decode M.2.1 pc = .ok (.lmul, 1))  (k : WX l D base z M sh (pc + 1) ls (.long (x * y) :: st) h Q) : WX l D base z M sh pc ls (.long y :: .long x :: st) h Q :=
  fun p e s m args below meth c C H locs A hP hS hL => lv_lmul C.1 C.2.1 hd  (k p e s m args below meth c C H locs A hP hS hL)
theorem wx_land {x y : Int64} (hd : decode M.2.1 pc = .ok (.land, 1))  (k : WX l D base z M sh (pc + 1) ls (.long (x &&& y) :: st) h Q) : WX l D base z M sh pc ls (.long y :: .long x :: st) h Q :=
  fun p e s m args below meth c C H locs A hP hS hL => lv_land C.1 C.2.1 hd  (k p e s m args below meth c C H locs A hP hS hL)
theorem wx_lor {x y : Int64} (hd : decode M.2.1 pc = .ok (.lor, 1))  (k : WX l D base z M sh (pc + 1) ls (.long (x ||| y) :: st) h Q) : WX l D base z M sh pc ls (.long y :: .long x :: st) h Q :=
  fun p e s m args below meth c C H locs A hP hS hL => lv_lor C.1 C.2.1 hd  (k p e s m args below meth c C H locs A hP hS hL)
theorem wx_lrem {x y : Int64} (hd : decode M.2.1 pc = .ok (.lrem, 1)) (hne : ¬ y = 0) (k : WX l D base z M sh (pc + 1) ls (.long (x - x / y * y) :: st) h Q) : WX l D base z M sh pc ls (.long y :: .long x :: st) h Q :=
  fun p e s m args below meth c C H locs A hP hS hL => lv_lrem C.1 C.2.1 hd hne (k p e s m args below meth c C H locs A hP hS hL)
theorem wx_lushr {x : Int64} {y : Int32} (hd : decode M.2.1 pc = .ok (.lushr, 1))  (k : WX l D base z M sh (pc + 1) ls (.long (x.toUInt64 >>> (y.toInt64.toUInt64 &&& Int64.toUInt64 63)).toInt64 :: st) h Q) : WX l D base z M sh pc ls (.int y :: .long x :: st) h Q :=
  fun p e s m args below meth c C H locs A hP hS hL => lv_lushr C.1 C.2.1 hd rfl (k p e s m args below meth c C H locs A hP hS hL)
theorem wx_lshl {x : Int64} {y : Int32} (hd : decode M.2.1 pc = .ok (.lshl, 1))  (k : WX l D base z M sh (pc + 1) ls (.long (x <<< (y.toInt64 &&& 63)) :: st) h Q) : WX l D base z M sh pc ls (.int y :: .long x :: st) h Q :=
  fun p e s m args below meth c C H locs A hP hS hL => lv_lshl C.1 C.2.1 hd rfl (k p e s m args below meth c C H locs A hP hS hL)
theorem wx_i2l {x : Int32} (hd : decode M.2.1 pc = .ok (.i2l, 1))  (k : WX l D base z M sh (pc + 1) ls (.long x.toInt64 :: st) h Q) : WX l D base z M sh pc ls (.int x :: st) h Q :=
  fun p e s m args below meth c C H locs A hP hS hL => lv_i2l C.1 C.2.1 hd rfl (k p e s m args below meth c C H locs A hP hS hL)
theorem wx_l2i {x : Int64} (hd : decode M.2.1 pc = .ok (.l2i, 1))  (k : WX l D base z M sh (pc + 1) ls (.int x.toInt32 :: st) h Q) : WX l D base z M sh pc ls (.long x :: st) h Q :=
  fun p e s m args below meth c C H locs A hP hS hL => lv_l2i C.1 C.2.1 hd rfl (k p e s m args below meth c C H locs A hP hS hL)
theorem wx_lcmp {x y : Int64} (hd : decode M.2.1 pc = .ok (.lcmp, 1))  (k : WX l D base z M sh (pc + 1) ls (.int (lg_cmp x y) :: st) h Q) : WX l D base z M sh pc ls (.long y :: .long x :: st) h Q :=
  fun p e s m args below meth c C H locs A hP hS hL => W.lcmp C.1 C.2.1 hd  (k p e s m args below meth c C H locs A hP hS hL)
theorem wx_dup {va : Value} (hd : decode M.2.1 pc = .ok (.dup, 1)) (h1 : va.category = 1) (k : WX l D base z M sh (pc + 1) ls (va :: va :: st) h Q) : WX l D base z M sh pc ls (va :: st) h Q :=
  fun p e s m args below meth c C H locs A hP hS hL => lv_dup C.1 C.2.1 hd (by rw [up_cat]; exact h1) (k p e s m args below meth c C H locs A hP hS hL)
theorem wx_pop {va : Value} (hd : decode M.2.1 pc = .ok (.pop, 1)) (h1 : va.category = 1) (k : WX l D base z M sh (pc + 1) ls (st) h Q) : WX l D base z M sh pc ls (va :: st) h Q :=
  fun p e s m args below meth c C H locs A hP hS hL => lv_pop C.1 C.2.1 hd (by rw [up_cat]; exact h1) (k p e s m args below meth c C H locs A hP hS hL)
theorem wx_dup2 {va vb : Value} (hd : decode M.2.1 pc = .ok (.dup2, 1)) (h1 : va.category = 1) (h2 : vb.category = 1) (k : WX l D base z M sh (pc + 1) ls (va :: vb :: va :: vb :: st) h Q) : WX l D base z M sh pc ls (va :: vb :: st) h Q :=
  fun p e s m args below meth c C H locs A hP hS hL => lv_dup2_11 C.1 C.2.1 hd (by rw [up_cat]; exact h1) (by rw [up_cat]; exact h2) (k p e s m args below meth c C H locs A hP hS hL)
theorem wx_if_eq {x : Int32} {off : Int} {tgt : Nat} (hd : decode M.2.1 pc = .ok (.ifCond .eq off, 3)) (ht : (pc : Int) + off = (tgt : Int)) (kt : x = 0 → WX l D base z M sh tgt ls st h Q) (kf : ¬ x = 0 → WX l D base z M sh (pc + 3) ls st h Q) : WX l D base z M sh pc ls (.int x :: st) h Q :=
  fun p e s m args below meth c C H locs A hP hS hL => lv_if_eq C.1 C.2.1 hd ht (fun q => kt q p e s m args below meth c C H locs A hP hS hL) (fun q => kf q p e s m args below meth c C H locs A hP hS hL)
theorem wx_icmp_eq {x y : Int32} {off : Int} {tgt : Nat} (hd : decode M.2.1 pc = .ok (.if_icmp .eq off, 3)) (ht : (pc : Int) + off = (tgt : Int)) (kt : x = y → WX l D base z M sh tgt ls st h Q) (kf : ¬ x = y → WX l D base z M sh (pc + 3) ls st h Q) : WX l D base z M sh pc ls (.int y :: .int x :: st) h Q :=
  fun p e s m args below meth c C H locs A hP hS hL => lv_icmp_eq C.1 C.2.1 hd ht (fun q => kt q p e s m args below meth c C H locs A hP hS hL) (fun q => kf q p e s m args below meth c C H locs A hP hS hL)
theorem wx_if_ne {x : Int32} {off : Int} {tgt : Nat} (hd : decode M.2.1 pc = .ok (.ifCond .ne off, 3)) (ht : (pc : Int) + off = (tgt : Int)) (kt : ¬ x = 0 → WX l D base z M sh tgt ls st h Q) (kf : x = 0 → WX l D base z M sh (pc + 3) ls st h Q) : WX l D base z M sh pc ls (.int x :: st) h Q :=
  fun p e s m args below meth c C H locs A hP hS hL => lv_if_ne C.1 C.2.1 hd ht (fun q => kt q p e s m args below meth c C H locs A hP hS hL) (fun q => kf q p e s m args below meth c C H locs A hP hS hL)
theorem wx_icmp_ne {x y : Int32} {off : Int} {tgt : Nat} (hd : decode M.2.1 pc = .ok (.if_icmp .ne off, 3)) (ht : (pc : Int) + off = (tgt : Int)) (kt : ¬ x = y → WX l D base z M sh tgt ls st h Q) (kf : x = y → WX l D base z M sh (pc + 3) ls st h Q) : WX l D base z M sh pc ls (.int y :: .int x :: st) h Q :=
  fun p e s m args below meth c C H locs A hP hS hL => lv_icmp_ne C.1 C.2.1 hd ht (fun q => kt q p e s m args below meth c C H locs A hP hS hL) (fun q => kf q p e s m args below meth c C H locs A hP hS hL)
theorem wx_if_lt {x : Int32} {off : Int} {tgt : Nat} (hd : decode M.2.1 pc = .ok (.ifCond .lt off, 3)) (ht : (pc : Int) + off = (tgt : Int)) (kt : x < 0 → WX l D base z M sh tgt ls st h Q) (kf : ¬ x < 0 → WX l D base z M sh (pc + 3) ls st h Q) : WX l D base z M sh pc ls (.int x :: st) h Q :=
  fun p e s m args below meth c C H locs A hP hS hL => lv_if_lt C.1 C.2.1 hd ht (fun q => kt q p e s m args below meth c C H locs A hP hS hL) (fun q => kf q p e s m args below meth c C H locs A hP hS hL)
theorem wx_icmp_lt {x y : Int32} {off : Int} {tgt : Nat} (hd : decode M.2.1 pc = .ok (.if_icmp .lt off, 3)) (ht : (pc : Int) + off = (tgt : Int)) (kt : x < y → WX l D base z M sh tgt ls st h Q) (kf : ¬ x < y → WX l D base z M sh (pc + 3) ls st h Q) : WX l D base z M sh pc ls (.int y :: .int x :: st) h Q :=
  fun p e s m args below meth c C H locs A hP hS hL => lv_icmp_lt C.1 C.2.1 hd ht (fun q => kt q p e s m args below meth c C H locs A hP hS hL) (fun q => kf q p e s m args below meth c C H locs A hP hS hL)
theorem wx_if_ge {x : Int32} {off : Int} {tgt : Nat} (hd : decode M.2.1 pc = .ok (.ifCond .ge off, 3)) (ht : (pc : Int) + off = (tgt : Int)) (kt : 0 ≤ x → WX l D base z M sh tgt ls st h Q) (kf : ¬ 0 ≤ x → WX l D base z M sh (pc + 3) ls st h Q) : WX l D base z M sh pc ls (.int x :: st) h Q :=
  fun p e s m args below meth c C H locs A hP hS hL => lv_if_ge C.1 C.2.1 hd ht (fun q => kt q p e s m args below meth c C H locs A hP hS hL) (fun q => kf q p e s m args below meth c C H locs A hP hS hL)
theorem wx_icmp_ge {x y : Int32} {off : Int} {tgt : Nat} (hd : decode M.2.1 pc = .ok (.if_icmp .ge off, 3)) (ht : (pc : Int) + off = (tgt : Int)) (kt : y ≤ x → WX l D base z M sh tgt ls st h Q) (kf : ¬ y ≤ x → WX l D base z M sh (pc + 3) ls st h Q) : WX l D base z M sh pc ls (.int y :: .int x :: st) h Q :=
  fun p e s m args below meth c C H locs A hP hS hL => lv_icmp_ge C.1 C.2.1 hd ht (fun q => kt q p e s m args below meth c C H locs A hP hS hL) (fun q => kf q p e s m args below meth c C H locs A hP hS hL)
theorem wx_if_gt {x : Int32} {off : Int} {tgt : Nat} (hd : decode M.2.1 pc = .ok (.ifCond .gt off, 3)) (ht : (pc : Int) + off = (tgt : Int)) (kt : 0 < x → WX l D base z M sh tgt ls st h Q) (kf : ¬ 0 < x → WX l D base z M sh (pc + 3) ls st h Q) : WX l D base z M sh pc ls (.int x :: st) h Q :=
  fun p e s m args below meth c C H locs A hP hS hL => lv_if_gt C.1 C.2.1 hd ht (fun q => kt q p e s m args below meth c C H locs A hP hS hL) (fun q => kf q p e s m args below meth c C H locs A hP hS hL)
theorem wx_icmp_gt {x y : Int32} {off : Int} {tgt : Nat} (hd : decode M.2.1 pc = .ok (.if_icmp .gt off, 3)) (ht : (pc : Int) + off = (tgt : Int)) (kt : y < x → WX l D base z M sh tgt ls st h Q) (kf : ¬ y < x → WX l D base z M sh (pc + 3) ls st h Q) : WX l D base z M sh pc ls (.int y :: .int x :: st) h Q :=
  fun p e s m args below meth c C H locs A hP hS hL => lv_icmp_gt C.1 C.2.1 hd ht (fun q => kt q p e s m args below meth c C H locs A hP hS hL) (fun q => kf q p e s m args below meth c C H locs A hP hS hL)
theorem wx_if_le {x : Int32} {off : Int} {tgt : Nat} (hd : decode M.2.1 pc = .ok (.ifCond .le off, 3)) (ht : (pc : Int) + off = (tgt : Int)) (kt : x ≤ 0 → WX l D base z M sh tgt ls st h Q) (kf : ¬ x ≤ 0 → WX l D base z M sh (pc + 3) ls st h Q) : WX l D base z M sh pc ls (.int x :: st) h Q :=
  fun p e s m args below meth c C H locs A hP hS hL => lv_if_le C.1 C.2.1 hd ht (fun q => kt q p e s m args below meth c C H locs A hP hS hL) (fun q => kf q p e s m args below meth c C H locs A hP hS hL)
theorem wx_icmp_le {x y : Int32} {off : Int} {tgt : Nat} (hd : decode M.2.1 pc = .ok (.if_icmp .le off, 3)) (ht : (pc : Int) + off = (tgt : Int)) (kt : x ≤ y → WX l D base z M sh tgt ls st h Q) (kf : ¬ x ≤ y → WX l D base z M sh (pc + 3) ls st h Q) : WX l D base z M sh pc ls (.int y :: .int x :: st) h Q :=
  fun p e s m args below meth c C H locs A hP hS hL => lv_icmp_le C.1 C.2.1 hd ht (fun q => kt q p e s m args below meth c C H locs A hP hS hL) (fun q => kf q p e s m args below meth c C H locs A hP hS hL)
theorem wx_goto {off : Int} {tgt : Nat} (hd : decode M.2.1 pc = .ok (.goto off, 3)) (ht : (pc : Int) + off = (tgt : Int)) (k : WX l D base z M sh tgt ls st h Q) : WX l D base z M sh pc ls st h Q :=
  fun p e s m args below meth c C H locs A hP hS hL => lv_goto C.1 C.2.1 hd ht (k p e s m args below meth c C H locs A hP hS hL)
theorem wx_ifnull {x : Nat} {off : Int} (hd : decode M.2.1 pc = .ok (.ifnull off, 3)) (k : WX l D base z M sh (pc + 3) ls st h Q) : WX l D base z M sh pc ls (.ref x :: st) h Q :=
  fun p e s m args below meth c C H locs A hP hS hL => lv_ifnull C.1 C.2.1 hd (k p e s m args below meth c C H locs A hP hS hL)
theorem wx_ldcw {idx : Nat} {v : Int32} (hd : decode M.2.1 pc = .ok (.ldc_w idx, 3)) (hw : Cond.constant M.1.cls idx v ∈ lw_gt) (k : WX l D base z M sh (pc + 3) ls (.int v :: st) h Q) : WX l D base z M sh pc ls st h Q :=
  fun p e s m args below meth c C H locs A hP hS hL => lv_ldcw C.1 C.2.1 C.2.2.2.2.1 (C.2.2.2.2.2.1 _ hw) hd (k p e s m args below meth c C H locs A hP hS hL)
theorem wx_ldc2 {idx : Nat} {v : Int64} (hd : decode M.2.1 pc = .ok (.ldc2_w idx, 3)) (hw : Cond.constantLong M.1.cls idx v ∈ lw_gt) (k : WX l D base z M sh (pc + 3) ls (.long v :: st) h Q) : WX l D base z M sh pc ls st h Q :=
  fun p e s m args below meth c C H locs A hP hS hL => lv_ldc2 C.1 C.2.1 C.2.2.2.2.1 (C.2.2.2.2.2.1 _ hw) hd (k p e s m args below meth c C H locs A hP hS hL)
theorem wx_tabOut {dflt lo hi : Int} {offs : Array Int} {len : Nat} {x : Int32} {tgt : Nat} (hd : decode M.2.1 pc = .ok (.tableswitch dflt lo hi offs, len)) (hx : x.toInt < lo ∨ hi < x.toInt) (ht : (pc : Int) + dflt = (tgt : Int)) (k : WX l D base z M sh tgt ls st h Q) : WX l D base z M sh pc ls (.int x :: st) h Q :=
  fun p e s m args below meth c C H locs A hP hS hL => lv_tableOut C.1 C.2.1 hd hx ht (k p e s m args below meth c C H locs A hP hS hL)
theorem wx_tabIn {dflt lo hi : Int} {offs : Array Int} {len : Nat} {x : Int32} {off : Int} {tgt : Nat} (hd : decode M.2.1 pc = .ok (.tableswitch dflt lo hi offs, len)) (h1 : ¬ x.toInt < lo) (h2 : ¬ hi < x.toInt) (ho : offs[(x.toInt - lo).toNat]? = some off) (ht : (pc : Int) + off = (tgt : Int)) (k : WX l D base z M sh tgt ls st h Q) : WX l D base z M sh pc ls (.int x :: st) h Q :=
  fun p e s m args below meth c C H locs A hP hS hL => lv_tableIn C.1 C.2.1 hd h1 h2 ho ht (k p e s m args below meth c C H locs A hP hS hL)
theorem wx_iret {v : Int32} (hd : decode M.2.1 pc = .ok (.ireturn, 1)) (hr : M.2.2.2.1 = some .int)  (hz : sh.length - z.1 ≤ M.2.2.2.2.cells ∧ szs sh - z.2 ≤ M.2.2.2.2.slots) (hq : Q sh h (some (.int v))) : WX l D base z M sh pc ls ([.int v]) h Q :=
  fun p e s m args below meth c C H locs A hP hS hL => W.widen hz.1 hz.2 (W.iret C.1 C.2.1 (by rw [C.2.2.1]; exact hr)  (fun t ht hW => ⟨sh, h, some (.int v), rfl, hq, by rw [ht]; exact hP, hS.F ht⟩) hS.2.2 hd C.2.2.2.2.2.2.1)
theorem wx_zret {v : Int32} (hd : decode M.2.1 pc = .ok (.ireturn, 1)) (hr : M.2.2.2.1 = some .boolean) (hn : narrow .boolean (.int v) = .int v) (hz : sh.length - z.1 ≤ M.2.2.2.2.cells ∧ szs sh - z.2 ≤ M.2.2.2.2.slots) (hq : Q sh h (some (.int v))) : WX l D base z M sh pc ls ([.int v]) h Q :=
  fun p e s m args below meth c C H locs A hP hS hL => W.widen hz.1 hz.2 (W.zret C.1 C.2.1 (by rw [C.2.2.1]; exact hr) hn (fun t ht hW => ⟨sh, h, some (.int v), rfl, hq, by rw [ht]; exact hP, hS.F ht⟩) hS.2.2 hd C.2.2.2.2.2.2.1)
theorem wx_lret {v : Int64} (hd : decode M.2.1 pc = .ok (.lreturn, 1)) (hr : M.2.2.2.1 = some .long)  (hz : sh.length - z.1 ≤ M.2.2.2.2.cells ∧ szs sh - z.2 ≤ M.2.2.2.2.slots) (hq : Q sh h (some (.long v))) : WX l D base z M sh pc ls ([.long v]) h Q :=
  fun p e s m args below meth c C H locs A hP hS hL => W.widen hz.1 hz.2 (W.lret C.1 C.2.1 (by rw [C.2.2.1]; exact hr)  (fun t ht hW => ⟨sh, h, some (.long v), rfl, hq, by rw [ht]; exact hP, hS.F ht⟩) hS.2.2 hd C.2.2.2.2.2.2.1)
theorem wx_vret  (hd : decode M.2.1 pc = .ok (.return_, 1)) (hr : M.2.2.2.1 = none)  (hz : sh.length - z.1 ≤ M.2.2.2.2.cells ∧ szs sh - z.2 ≤ M.2.2.2.2.slots) (hq : Q sh h (none)) : WX l D base z M sh pc ls ([]) h Q :=
  fun p e s m args below meth c C H locs A hP hS hL => W.widen hz.1 hz.2 (W.vret C.1 C.2.1 (by rw [C.2.2.1]; exact hr)  (fun t ht hW => ⟨sh, h, none, rfl, hq, by rw [ht]; exact hP, hS.F ht⟩) hS.2.2 hd C.2.2.2.2.2.2.1)
end WXR
end
section
theorem gt_good {w : Cond} (h : w ∈ lw_gt) : w ∈ lw_gt ∧ ((w.onTables && w.keeps) = true ∨ ∃ ty, w = .arrayClass ty) := ⟨h, good_of_word (List.mem_filter.mp h).2⟩
theorem ig_of {ws : List Cond} (h1 : ∀ w ∈ ws, w ∈ lw_tbl) (h2 : ws.all goodWord = true) : ∀ w ∈ ws, w ∈ lw_gt := fun w hw => List.mem_filter.mpr ⟨h1 w hw, List.all_eq_true.mp h2 w hw⟩
theorem ig_Ln : ∀ w ∈ u_ws R_Ln T_Ln 12, w ∈ lw_gt := ig_of i_Ln (by decide +kernel)
theorem ig_Rd : ∀ w ∈ u_ws R_Rd T_Rd 3, w ∈ lw_gt := ig_of i_Rd (by decide +kernel)
theorem ig_Lm : ∀ w ∈ u_ws R_Lm T_Lm 15, w ∈ lw_gt := ig_of i_Lm (by decide +kernel)
theorem ig_Md : ∀ w ∈ u_ws R_Md T_Md 35, w ∈ lw_gt := ig_of i_Md (by decide +kernel)
section HPR
variable {l : Launch} {D : va_G} {base : Nat} {z : Nat × Nat} {M : MI} {sh : List Sh} {pc : Nat} {ls : List (Option Value)} {st : List Value} {h : Hp} {Q : List Sh → Hp → Option Value → Prop}
theorem wx_get {idx a ci k N : Nat} {C : String} {T : u_T} {fl : List (Nat × Option Nat)} {f : Nat × Option Nat} {v : Value} (hd : decode M.2.1 pc = .ok (.getfield idx, 3)) (hsh : sh[a]? = some (.inr (ci, fl))) (hc : classes[ci]? = some (C, T, N)) (hin : ∀ w ∈ u_ws C T N, w ∈ lw_gt) (hk : k < N) (hlink : Cond.fieldLink M.1.cls idx (T k).1 (T k).2.1 (T k).2.2.1 ∈ lw_gt) (hf : fl[k]? = some f) (hv : ∀ b, fv b h a k f = up b v)
    (kk : WX l D base z M sh (pc + 3) ls (v :: st) h Q) : WX l D base z M sh pc ls (.ref a :: st) h Q := by
  intro p e s m args below meth c C0 H locs A hP hS hL
  have hg := fvs_get (base := base) (h := h) (a := a) fl 0 k hf
  rw [Nat.zero_add, hv base] at hg
  exact va_get C0.1 C0.2.1 (Ts := lw_gt) (fun w hw => C0.2.2.2.2.2.1 w hw) hin C0.2.2.2.2.1 C0.2.2.2.2.2.2.2.1.1 hP.2 a (wl_get D base sh h hsh) hc k hk (C0.2.2.2.2.2.1 _ hlink) (fun _ h9 => h9) hg hd (kk p e s m args below meth c C0 H locs A hP hS hL)
/-- a store into a field that isn't final, with the heap's size -/
theorem va_putZ {p : Program} {e : Env} {R : Room} {s : State} {m : MethodId} {args : Array Value} {below : List Frame} {meth : Method} {c : Code} {H : Heap} {locs : List Loc} {cells slots : Nat} {Qf : State → Prop} {cc : ByteArray} {A : Array Slot} {rest : List Value} {cl : List vw_C} {B : Nat → Prop} {a : Nat} {tys : List (ClassId × FieldType)} {ws : va_W} {H0 : Heap}
    (hexec : p.tables.exec = Jvm.exec) (hb : c.code = cc) {own C : String} {T : u_T} {N ci index : Nat} {Ts : List Cond} (hts : ∀ w ∈ Ts, w.before args s = true) (hin : ∀ w ∈ u_ws C T N, w ∈ Ts) (ty0 : Nat → FieldType) (hty : ∀ k, k < N → parseFieldDescriptor (T k).2.2.1 = some (ty0 k)) (hnm : ∀ a, a < N → ∀ b, b < N → a ≠ b → (T a).2.1 ≠ (T b).2.1) (hown : s.vm.findClass own = some m.cls) (hK : va_K D cl tys s) (hP : va_P D cl ws H) (hD : va_D B ws) (hS0 : va_S B H0 H locs) (q0 : Nat) {fs : List Value} (he : ws[q0]? = some (a, .inr (ci, fs))) (hc : cl[ci]? = some (C, T, N)) (k : Nat) (hk : k < N) (hlink : (Cond.fieldLink own index (T k).1 (T k).2.1 (T k).2.2.1).before args s = true) (hfin : (T k).2.2.2 = false) {ty : FieldType} {v : Value} (hd : parseFieldDescriptor (T k).2.2.1 = some ty) (hn : narrow ty v = v) (hfit : fits ty v = true) (hl : k < fs.length)
    (hdg : decode cc pc = .ok (.putfield index, 3)) (kk : ∀ (H1 : Heap) (locs1 : List Loc), H1.size = H.size → va_P D cl (ws.set q0 (a, .inr (ci, fs.set k v))) H1 → va_S B H0 H1 locs1 → W p l e R s m args below meth c H1 locs1 cells slots Qf (F0 m (pc + 3) A rest)) : W p l e R s m args below meth c H locs cells slots Qf (F0 m pc A (v :: .ref a :: rest)) := by
  have hap := va_apart (own := own) hts hin ty0 hty hnm hK hc
  obtain ⟨r, h1, cell, q1, q2, q3, q4⟩ := hP q0 _ he
  have hr : r = (C, T, N) := Option.some.inj (h1.symm.trans hc)
  subst hr
  obtain ⟨hS, hfc, kC, hkC, hkind⟩ := hK.1 ci _ hc
  obtain ⟨cf, kf, fi, f, hi, hsl⟩ := hS k hk
  have hlay := hts _ (hin _ (u_in_lay hk))
  unfold u_lay at hlay
  rw [if_neg (by rw [hfin]; decide)] at hlay
  have hst := (u_facts hfc hkC (u_lays hts hin hk) hi).1
  have h6 := u_store hfc hkC hkind hlay hi hd hn hfit
  refine W.putK hexec hb (f := f) ⟨hown, hlink, ⟨_, _, _, hi⟩, hst⟩ (by rw [q2]; exact h6) q1 q3 (by rw [hsl]; exact k2_hasslot (q4 k hk)) rfl rfl hdg fun H' e1 e2 e3 => ?_
  rw [hsl] at e1 ⊢
  exact kk H' _ e2 (hP.set hD he ⟨_, hc, t_OB.to (V := updV (vp_V fs) k v) ⟨_, e1, q2, q3, t_set q4 hap hk v⟩ (fun j _ => vp_updV_set hl v j)⟩ e3) (hS0.put e2 e3 (hD.2 q0 _ he))
theorem gI_ne {h : Hp} {a k b : Nat} {v : Int32} (e : b ≠ a) (j : Nat) : gI (sI h a k v) b j = gI h b j := by rw [gI_sI, if_neg (fun q => e q.1)]
theorem gL_ne {h : Hp} {a k b : Nat} {v : Int64} (e : b ≠ a) (j : Nat) : gL (sL h a k v) b j = gL h b j := by rw [gL_sL, if_neg (fun q => e q.1)]
theorem gR_ne {h : Hp} {a k b : Nat} {v : Option Nat} (e : b ≠ a) (j : Nat) : gR (sR h a k v) b j = gR h b j := by rw [gR_sR, if_neg (fun q => e q.1)]
theorem wx_putI {idx a ci k N : Nat} {C : String} {T : u_T} {fl : List (Nat × Option Nat)} {v : Int32} (hd : decode M.2.1 pc = .ok (.putfield idx, 3)) (hsh : sh[a]? = some (.inr (ci, fl))) (hc : classes[ci]? = some (C, T, N)) (hin : ∀ w ∈ u_ws C T N, w ∈ lw_gt) (ty0 : Nat → FieldType) (hty : ∀ k, k < N → parseFieldDescriptor (T k).2.2.1 = some (ty0 k)) (hnm : ∀ a, a < N → ∀ b, b < N → a ≠ b → (T a).2.1 ≠ (T b).2.1) (hk : k < N) (hlink : Cond.fieldLink M.1.cls idx (T k).1 (T k).2.1 (T k).2.2.1 ∈ lw_gt) (hfin : (T k).2.2.2 = false) (hty2 : parseFieldDescriptor (T k).2.2.1 = some .int) (hf : fl[k]? = some (0, none))
    (kk : WX l D base z M sh (pc + 3) ls st (sI h a k v) Q) : WX l D base z M sh pc ls (.int v :: .ref a :: st) h Q := by
  intro p e s m args below meth c C0 H locs A hP hS hL
  refine va_putZ C0.1 C0.2.1 (Ts := lw_gt) (fun w hw => C0.2.2.2.2.2.1 w hw) hin ty0 hty hnm C0.2.2.2.2.1 C0.2.2.2.2.2.2.2.1.1 hP.2 (wl_D D base sh h) hS a (wl_get D base sh h hsh) hc k hk (C0.2.2.2.2.2.1 _ hlink) hfin (v := .int v) hty2 rfl rfl (by rw [fvs_len]; exact (List.getElem?_eq_some_iff.mp hf).1) hd (fun H1 locs1 hz hP1 hS1 => ?_)
  have e1 : (wl D base sh h).set a (base + a, .inr (ci, (fvs base h a 0 fl).set k (.int v))) = wl D base (sh.set a (.inr (ci, fl))) (sI h a k v) := by
    refine wl_set hsh ?_ (fun b y hb _ => en_ext y (gI_ne hb) (fun _ => rfl) (fun _ => rfl))
    have := fvs_set (base := base) (h := h) (h' := sI h a k v) (a := a) fl 0 k (f' := (0, none)) (v := .int v) hf (by rw [Nat.zero_add]; show Value.int v = Value.int (gI (sI h a k v) a k); rw [gI_sI, if_pos ⟨rfl, rfl⟩]) (fun i y hi => by
      unfold fv
      rw [gI_sI, if_neg (fun q => hi (by omega))]
      rfl)
    rw [this, set_same hf]
    rfl
  rw [e1, set_same hsh] at hP1
  exact kk p e s m args below meth c C0 H1 locs1 A ⟨by rw [hz]; exact hP.1, hP1⟩ hS1 hL
theorem wx_putL {idx a ci k N : Nat} {C : String} {T : u_T} {fl : List (Nat × Option Nat)} {v : Int64} (hd : decode M.2.1 pc = .ok (.putfield idx, 3)) (hsh : sh[a]? = some (.inr (ci, fl))) (hc : classes[ci]? = some (C, T, N)) (hin : ∀ w ∈ u_ws C T N, w ∈ lw_gt) (ty0 : Nat → FieldType) (hty : ∀ k, k < N → parseFieldDescriptor (T k).2.2.1 = some (ty0 k)) (hnm : ∀ a, a < N → ∀ b, b < N → a ≠ b → (T a).2.1 ≠ (T b).2.1) (hk : k < N) (hlink : Cond.fieldLink M.1.cls idx (T k).1 (T k).2.1 (T k).2.2.1 ∈ lw_gt) (hfin : (T k).2.2.2 = false) (hty2 : parseFieldDescriptor (T k).2.2.1 = some .long) (hf : fl[k]? = some (1, none))
    (kk : WX l D base z M sh (pc + 3) ls st (sL h a k v) Q) : WX l D base z M sh pc ls (.long v :: .ref a :: st) h Q := by
  intro p e s m args below meth c C0 H locs A hP hS hL
  refine va_putZ C0.1 C0.2.1 (Ts := lw_gt) (fun w hw => C0.2.2.2.2.2.1 w hw) hin ty0 hty hnm C0.2.2.2.2.1 C0.2.2.2.2.2.2.2.1.1 hP.2 (wl_D D base sh h) hS a (wl_get D base sh h hsh) hc k hk (C0.2.2.2.2.2.1 _ hlink) hfin (v := .long v) hty2 rfl rfl (by rw [fvs_len]; exact (List.getElem?_eq_some_iff.mp hf).1) hd (fun H1 locs1 hz hP1 hS1 => ?_)
  have e1 : (wl D base sh h).set a (base + a, .inr (ci, (fvs base h a 0 fl).set k (.long v))) = wl D base (sh.set a (.inr (ci, fl))) (sL h a k v) := by
    refine wl_set hsh ?_ (fun b y hb _ => en_ext y (fun _ => rfl) (gL_ne hb) (fun _ => rfl))
    have := fvs_set (base := base) (h := h) (h' := sL h a k v) (a := a) fl 0 k (f' := (1, none)) (v := .long v) hf (by rw [Nat.zero_add]; show Value.long v = Value.long (gL (sL h a k v) a k); rw [gL_sL, if_pos ⟨rfl, rfl⟩]) (fun i y hi => by
      unfold fv
      rw [gL_sL, if_neg (fun q => hi (by omega))]
      rfl)
    rw [this, set_same hf]
    rfl
  rw [e1, set_same hsh] at hP1
  exact kk p e s m args below meth c C0 H1 locs1 A ⟨by rw [hz]; exact hP.1, hP1⟩ hS1 hL
theorem wx_iald {a n : Nat} {i : Int32} (hd : decode M.2.1 pc = .ok (.iaload, 1)) (hsh : sh[a]? = some (.inl (0, n))) (hi : vp_in i n) (kk : WX l D base z M sh (pc + 1) ls (.int (gI h a i.toNatClampNeg) :: st) h Q) : WX l D base z M sh pc ls (.int i :: .ref a :: st) h Q :=
  fun p e s m args below meth c C0 H locs A hP hS hL => va_iald C0.1 C0.2.1 C0.2.2.2.2.2.2.2.1.1 hP.2 a 0 (wl_get D base sh h hsh) rfl hi hd (kk p e s m args below meth c C0 H locs A hP hS hL)
theorem wx_bald {a n : Nat} {i : Int32} (hd : decode M.2.1 pc = .ok (.baload, 1)) (hsh : sh[a]? = some (.inl (1, n))) (hi : vp_in i n) (kk : WX l D base z M sh (pc + 1) ls (.int (gI h a i.toNatClampNeg) :: st) h Q) : WX l D base z M sh pc ls (.int i :: .ref a :: st) h Q :=
  fun p e s m args below meth c C0 H locs A hP hS hL => va_zald C0.1 C0.2.1 C0.2.2.2.2.2.2.2.1.1 hP.2 a 1 (wl_get D base sh h hsh) rfl hi hd (kk p e s m args below meth c C0 H locs A hP hS hL)
theorem wx_alen {a n : Nat} (hd : decode M.2.1 pc = .ok (.arraylength, 1)) (hsh : sh[a]? = some (.inl (0, n))) (kk : WX l D base z M sh (pc + 1) ls (.int (Int32.ofNat n) :: st) h Q) : WX l D base z M sh pc ls (.ref a :: st) h Q :=
  fun p e s m args below meth c C0 H locs A hP hS hL => va_alen C0.1 C0.2.1 C0.2.2.2.2.2.2.2.1.1 hP.2 a 0 (wl_get D base sh h hsh) rfl rfl hd (kk p e s m args below meth c C0 H locs A hP hS hL)
theorem up_upd {h : Hp} {a k : Nat} {v : Int32} : upd (gI h a) k v = gI (sI h a k v) a := by
  funext j
  rw [gI_sI]
  unfold upd
  by_cases e : j = k
  · rw [if_pos e, if_pos ⟨rfl, e⟩]
  · rw [if_neg e, if_neg (fun q => e q.2)]
theorem wx_iast {a n : Nat} {i v : Int32} (hd : decode M.2.1 pc = .ok (.iastore, 1)) (hsh : sh[a]? = some (.inl (0, n))) (hi : vp_in i n) (kk : WX l D base z M sh (pc + 1) ls st (sI h a i.toNatClampNeg v) Q) : WX l D base z M sh pc ls (.int v :: .int i :: .ref a :: st) h Q := by
  intro p e s m args below meth c C0 H locs A hP hS hL
  have ha := wl_get D base sh h hsh
  refine W.iast C0.1 C0.2.1 (hP.2 a _ ha) ((C0.2.2.2.2.2.2.2.1.1.2 0 _ rfl).1 n (fun j => .int (gI h a j))) (fun q => by cases q) (by show ¬ (i < 0 ∨ (arrV _ _ _).slots.size ≤ _); rw [arrV_size]; exact hi) rfl rfl hd fun H1 e1 zz oq => ?_
  have hP1 := hP.2.set (wl_D D base sh h) ha (e := .inl (D.1 10, n, .inl (upd (gI h a) i.toNatClampNeg v))) (H1 := H1) (by
    show H1[base + a]? = some (vp_cell _ _)
    rw [e1]
    show some (Cell.setSlot (vp_cell (D.1 10) (n, .inl (gI h a))) _ _) = _
    rw [vp_cell_i, vp_cell_i, arrV_store]
    congr 2
    funext q
    by_cases hq : q = i.toNatClampNeg
    · subst hq
      simp [updV, upd]
    · simp [updV, upd, hq]) oq
  have e2 : (wl D base sh h).set a (base + a, .inl (D.1 10, n, .inl (gI (sI h a i.toNatClampNeg v) a))) = wl D base sh (sI h a i.toNatClampNeg v) := (wl_set (h' := sI h a i.toNatClampNeg v) (x' := .inl (0, n)) hsh rfl (fun b y hb _ => en_ext y (gI_ne hb) (fun _ => rfl) (fun _ => rfl))).trans (by rw [set_same hsh])
  rw [up_upd, e2] at hP1
  exact kk p e s m args below meth c C0 H1 _ A ⟨by rw [zz]; exact hP.1, hP1⟩ (hS.put zz oq (Nat.le_add_right _ _)) hL
theorem wx_bast {a n : Nat} {i v : Int32} (hd : decode M.2.1 pc = .ok (.bastore, 1)) (hsh : sh[a]? = some (.inl (1, n))) (hi : vp_in i n) (hv : vp_nar .boolean v = v) (kk : WX l D base z M sh (pc + 1) ls st (sI h a i.toNatClampNeg v) Q) : WX l D base z M sh pc ls (.int v :: .int i :: .ref a :: st) h Q := by
  intro p e s m args below meth c C0 H locs A hP hS hL
  have ha := wl_get D base sh h hsh
  refine W.zast C0.1 C0.2.1 (hP.2 a _ ha) ((C0.2.2.2.2.2.2.2.1.1.2 1 _ rfl).1 n (fun j => .int (gI h a j))) (fun q => by cases q) (by show ¬ (i < 0 ∨ (arrV _ _ _).slots.size ≤ _); rw [arrV_size]; exact hi) rfl rfl hd fun H1 e1 zz oq => ?_
  have hP1 := hP.2.set (wl_D D base sh h) ha (e := .inl (D.1 11, n, .inl (upd (gI h a) i.toNatClampNeg (vp_nar .boolean v)))) (H1 := H1) (by
    show H1[base + a]? = some (vp_cell _ _)
    rw [e1]
    show some (Cell.setSlot (vp_cell (D.1 11) (n, .inl (gI h a))) _ _) = _
    rw [vp_cell_i, vp_cell_i, arrV_store]
    congr 2
    funext q
    by_cases hq : q = i.toNatClampNeg
    · subst hq
      simp [updV, upd, vp_nar]
      try rfl
    · simp [updV, upd, hq]) oq
  have e2 : (wl D base sh h).set a (base + a, .inl (D.1 11, n, .inl (gI (sI h a i.toNatClampNeg v) a))) = wl D base sh (sI h a i.toNatClampNeg v) := (wl_set (h' := sI h a i.toNatClampNeg v) (x' := .inl (1, n)) hsh rfl (fun b y hb _ => en_ext y (gI_ne hb) (fun _ => rfl) (fun _ => rfl))).trans (by rw [set_same hsh])
  rw [hv, up_upd, e2] at hP1
  exact kk p e s m args below meth c C0 H1 _ A ⟨by rw [zz]; exact hP.1, hP1⟩ (hS.put zz oq (Nat.le_add_right _ _)) hL
theorem wx_aald {a n r : Nat} {i : Int32} (hd : decode M.2.1 pc = .ok (.aaload, 1)) (hsh : sh[a]? = some (.inl (2, n))) (hi : vp_in i n) (hr : gR h a i.toNatClampNeg = some r) (kk : WX l D base z M sh (pc + 1) ls (.ref r :: st) h Q) : WX l D base z M sh pc ls (.int i :: .ref a :: st) h Q := by
  intro p e s m args below meth c C0 H locs A hP hS hL
  have hlt : i.toNatClampNeg < n := Nat.not_le.mp fun q => hi (Or.inr q)
  exact W.aald (v := .ref (base + r)) C0.1 C0.2.1 (hP.2 a _ (wl_get D base sh h hsh)) ((C0.2.2.2.2.2.2.2.1.1.2 2 _ rfl).1 n (fun j => va_rf (rfv base (gR h a j)))) rfl (fun q => by cases q) (by show ¬ (i < 0 ∨ (arrV _ _ _).slots.size ≤ _); rw [arrV_size]; exact hi) (by show (arrV _ _ _).slots[_]? = _; rw [arrV_read _ _ hlt]; show some (va_rf (rfv base (gR h a i.toNatClampNeg))) = _; rw [hr]; rfl) rfl rfl hd (kk p e s m args below meth c C0 H locs A hP hS hL)
theorem wx_aast {a n r k : Nat} {i : Int32} (hd : decode M.2.1 pc = .ok (.aastore, 1)) (hsh : sh[a]? = some (.inl (2, n))) (hr : sh[r]? = some (.inl (0, k))) (hi : vp_in i n) (kk : WX l D base z M sh (pc + 1) ls st (sR h a i.toNatClampNeg (some r)) Q) : WX l D base z M sh pc ls (.ref r :: .int i :: .ref a :: st) h Q := by
  intro p e s m args below meth c C0 H locs A hP hS hL
  have hlt : i.toNatClampNeg < n := Nat.not_le.mp fun q => hi (Or.inr q)
  have h0 : ¬ i < 0 := fun q => hi (Or.inl q)
  have ha := wl_get D base sh h hsh
  have hrc := hP.2 r _ (wl_get D base sh h hr)
  obtain ⟨comp, cA2, kA, k3, -, k1, k2, k4⟩ := AOA_spec C0.2.2.2.2.2.2.2.1.2.2.2.2
  have q1 : s.vm.findClass ("[" ++ (FieldType.array .int).toString) = some (D.1 12) := (C0.2.2.2.2.2.2.2.1.1.2 2 _ rfl).2
  have q2 : s.vm.findClass (FieldType.array .int).toString = some (D.1 10) := (C0.2.2.2.2.2.2.2.1.1.2 0 _ rfl).2
  cases q1.symm.trans k4
  cases k3.symm.trans q2
  obtain ⟨kE, hkE, -⟩ := Vm.findClass_spec k3
  refine W.aast C0.1 C0.2.1 (hP.2 a _ ha) (fun q hq => by cases hq) (fun hq => by cases hq) k1 k2 rfl hkE ⟨h0, by show _ < (arrV _ _ _).slots.size; rw [arrV_size]; exact hlt⟩ hrc (fun q hq => by cases hq) hkE (va_asg _ _) rfl rfl hd fun H1 e1 zz oq => ?_
  have hP1 := hP.2.set (wl_D D base sh h) ha (e := en D base (sR h a i.toNatClampNeg (some r)) a (.inl (2, n))) (H1 := H1) (by
    show H1[base + a]? = some (vp_cell _ _)
    rw [e1]
    show some (Cell.setSlot (vp_cell (D.1 12) (n, .inr (.inr (.inr (.inr (fun k => rfv base (gR h a k))))))) _ _) = some (vp_cell (D.1 12) (n, .inr (.inr (.inr (.inr (fun k => rfv base (gR (sR h a i.toNatClampNeg (some r)) a k)))))))
    rw [vp_cell_q, vp_cell_q, arrV_store]
    congr 2
    funext q
    rw [gR_sR]
    by_cases hq : q = i.toNatClampNeg
    · subst hq
      simp [updV, va_rf, rfv]
    · simp [updV, hq]) oq
  have e2 : (wl D base sh h).set a (base + a, en D base (sR h a i.toNatClampNeg (some r)) a (.inl (2, n))) = wl D base sh (sR h a i.toNatClampNeg (some r)) := (wl_set (h := h) (h' := sR h a i.toNatClampNeg (some r)) (x' := .inl (2, n)) hsh rfl (fun b y hb _ => en_ext y (fun _ => rfl) (fun _ => rfl) (gR_ne hb))).trans (by rw [set_same hsh])
  rw [e2] at hP1
  exact kk p e s m args below meth c C0 H1 _ A ⟨by rw [zz]; exact hP.1, hP1⟩ (hS.put zz oq (Nat.le_add_right _ _)) hL
end HPR
end
section
section CLR
variable {p : Program} {l : Launch} {e : Env} {R : Room} {s : State} {m : MethodId} {args : Array Value} {below : List Frame} {meth : Method} {c : Code} {H : Heap} {locs : List Loc} {cells slots : Nat} {Qf : State → Prop}
theorem W_call {D : va_G} {base : Nat} {pc : Nat} {A : Array Slot} {rest st0 : List Value} {a : Array Value} {H0 : Heap} {mc ms : Nat} {Q' : List Sh → Hp → Option Value → Prop} (hr : va_Run p l e R s m args below meth c H locs cells slots mc ms (F0 m pc A st0) rest (QX D base Q' a) (fun q => base ≤ q)) (hS : va_S (fun q => base ≤ q) H0 H locs)
    (kk : ∀ (sh' : List Sh) (h' : Hp) (r : Option Value) (H1 : Heap) (locs1 : List Loc), Q' sh' h' r → PX D base sh' h' H1 → va_S (fun q => base ≤ q) H0 H1 locs1 → W p l e R s m args below meth c H1 locs1 (cells + mc) (slots + ms) Qf (F0 m (pc + 3) A ((r.map (up base)).toList ++ rest))) : W p l e R s m args below meth c H locs cells slots Qf (F0 m pc A st0) := by
  intro T hT X
  obtain ⟨v, st₀, t, T', L, h0, X', hL, e1, e2, ⟨sh', h', r, hv, hq, hP1, hz, hk⟩, st⟩ := hr T hT X
  cases hv
  rw [h0] at hz hk
  obtain ⟨t2, a1, b1⟩ := kk sh' h' r T'.heap (locs ++ L) hq (by rw [e1]; exact hP1)
    ⟨Nat.le_trans hS.1 (by rw [e1]; exact hz), fun q h1 h2 => by rw [e1, hk q (Nat.lt_of_lt_of_le h1 hS.1) h2]; exact hS.2.1 q h1 h2, fun q hq => by
      rcases List.mem_append.mp hq with h | h
      · exact hS.2.2 q h
      · exact hL q h⟩ T' rfl X'
  exact ⟨t2, st t2 a1, b1⟩
end CLR
/-- a callee's words and name, n parameters -/
def okM (M' : MI) (n : Nat) : Prop := Cond.code M'.1 M'.2.1 M'.2.2.1 M'.2.2.2.1 ∈ lw_gt ∧ Cond.initialized M'.1.cls ∈ lw_gt ∧ (M'.1.cls ≠ "java/lang/invoke/MethodHandle" ∧ M'.1.cls ≠ "java/lang/invoke/VarHandle" ∧ (parseMethodDescriptor M'.1.desc).map (fun d => d.parameters.length) = some n)
/-- the room of a callee in its caller's -/
abbrev okR (M M' : MI) : Prop := M'.2.2.2.2.frames + 1 ≤ M.2.2.2.2.frames ∧ 8 + (M'.2.2.1 + 11) + M'.2.2.2.2.locals ≤ M.2.2.2.2.locals
theorem wsM_in {M' : MI} (h : Cond.code M'.1 M'.2.1 M'.2.2.1 M'.2.2.2.1 ∈ lw_gt) : GoodIn lw_gt (wsM M') := fun w hw => by
  rcases List.mem_cons.mp hw with e | hw
  · subst e; exact gt_good h
  · exact gt_good hw
theorem fb_pc (D : va_G) (base : Nat) (sh : List Sh) (h : Hp) (av : List Value) : FrameBlind (va_Pc av (fun U => PX D base sh h U.heap ∧ KX D U)) := fun a U g mk q => ⟨q.1, q.2.1, KX.same (u := U) (U := U.calling g mk a) rfl q.2.2⟩
section CLX
variable {l : Launch} {D : va_G} {base : Nat} {z : Nat × Nat} {M M' : MI} {sh : List Sh} {pc idx n : Nat} {ls : List (Option Value)} {st rest : List Value} {h : Hp} {Q Q' : List Sh → Hp → Option Value → Prop} {As : List Value}
theorem cb_of {p : Program} {s : State} {m : MethodId} {args : Array Value} {meth : Method} {c : Code} (C : CX D base M p s m args meth c) (hM : okM M' n) (hR : okR M M') (hl : Cond.methodLink M.1.cls idx M'.1 ∈ lw_gt) : CallB M.2.2.2.2 s args M.1.cls idx M'.1 M'.2.1 M'.2.2.1 M'.2.2.2.1 (wsM M') M'.2.2.2.2 M'.2.2.2.2.cells M'.2.2.2.2.slots n :=
  callB_of n (Ts := lw_gt) (fun w hw => C.2.2.2.2.2.1 w hw) (wsM_in hM.1) rfl rfl rfl (C.2.2.2.2.2.1 _ hM.2.1) (C.2.2.2.2.2.1 _ hl) hM.2.2 hR
theorem up_rev (As rest : List Value) (b : Nat) : (As.reverse ++ .ref b :: rest).map (up base) = (As.map (up base)).reverse ++ .ref (base + b) :: rest.map (up base) := by
  rw [List.map_append, List.map_reverse]; rfl
theorem up_sum (rest : List Value) : ((rest.map (up base)).map fun v => v.category).sum = (rest.map fun v => v.category).sum := by
  rw [List.map_map]; congr 1; apply List.map_congr_left; intro v _; exact up_cat base v
theorem r_up (r : Option Value) : (r.map (up base)).toList ++ rest.map (up base) = (r.toList ++ rest).map (up base) := by cases r <;> rfl
/-- a virtual call; the callee may make cells -/
theorem wx_callVG {b ci : Nat} {q : vw_C} {fl : List (Nat × Option Nat)} (hd : decode M.2.1 pc = .ok (.invokevirtual idx, 3)) (hM : okM M' n) (hR : okR M M') (hl : Cond.methodLink M.1.cls idx M'.1 ∈ lw_gt) (hi : Cond.instanceMethod M'.1 ∈ lw_gt) (hs : Cond.selects M'.1.cls M'.1 M'.1 ∈ lw_gt) (hsh : sh[b]? = some (.inr (ci, fl))) (hc : classes[ci]? = some q) (hq : q.1 = M'.1.cls)
    (hsp : SX l D base M' sh (.ref b :: As) h Q') (hn : As.length = n) (hst : st = As.reverse ++ .ref b :: rest) (hw : (rest.map fun v => v.category).sum ≤ 8) (hf : sh.length - z.1 + M'.2.2.2.2.cells ≤ M.2.2.2.2.cells ∧ szs sh - z.2 + M'.2.2.2.2.slots ≤ M.2.2.2.2.slots)
    (k : ∀ (sh' : List Sh) (h' : Hp) (r : Option Value), Q' sh' h' r → (sh.length - z.1 + M'.2.2.2.2.cells = sh'.length - z.1 ∧ szs sh - z.2 + M'.2.2.2.2.slots = szs sh' - z.2) ∧ WX l D base z M sh' (pc + 3) ls (r.toList ++ rest) h' Q) : WX l D base z M sh pc ls st h Q := by
  intro p e s m args below meth c C H locs A hP hS hL
  subst hst
  rw [up_rev]
  have hrecv := va_recv C.2.2.2.2.2.2.2.1.1 hP.2 hc (wl_get D base sh h hsh)
  rw [hq] at hrecv
  refine W_call (va_runV (C := M'.1.cls) (As := As.map (up base)) (rest := rest.map (up base)) ⟨C.1, C.2.1, C.2.2.2.1, C.2.2.2.2.1, fun w hw => C.2.2.2.2.2.1 w hw⟩ hsp ⟨cb_of C hM hR hl, C.2.2.2.2.2.1 _ hi, C.2.2.2.2.2.1 _ hs⟩ ⟨fb_pc D base sh h _, hrecv, fun U hU hW => ⟨rfl, by rw [hU]; exact hP, C.2.2.2.2.2.2.2.1.warm hW⟩⟩ rfl (by rw [List.length_map]; exact hn) hL.1 rfl (lv_room (by rw [up_sum]; exact hw)) hd hf) hS (fun sh' h' r H1 locs1 hq1 hP1 hS1 => ?_)
  obtain ⟨⟨e1, e2⟩, k1⟩ := k sh' h' r hq1
  rw [r_up, e1, e2]
  exact k1 p e s m args below meth c C H1 locs1 A hP1 hS1 hL
theorem wx_callSG (hd : decode M.2.1 pc = .ok (.invokestatic idx, 3)) (hM : okM M' n) (hR : okR M M') (hl : Cond.methodLink M.1.cls idx M'.1 ∈ lw_gt) (hi : Cond.static M'.1 ∈ lw_gt)
    (hsp : SX l D base M' sh As h Q') (hn : As.length = n) (hst : st = As.reverse ++ rest) (hw : (rest.map fun v => v.category).sum ≤ 8) (hf : sh.length - z.1 + M'.2.2.2.2.cells ≤ M.2.2.2.2.cells ∧ szs sh - z.2 + M'.2.2.2.2.slots ≤ M.2.2.2.2.slots)
    (k : ∀ (sh' : List Sh) (h' : Hp) (r : Option Value), Q' sh' h' r → (sh.length - z.1 + M'.2.2.2.2.cells = sh'.length - z.1 ∧ szs sh - z.2 + M'.2.2.2.2.slots = szs sh' - z.2) ∧ WX l D base z M sh' (pc + 3) ls (r.toList ++ rest) h' Q) : WX l D base z M sh pc ls st h Q := by
  intro p e s m args below meth c C H locs A hP hS hL
  subst hst
  rw [List.map_append, List.map_reverse]
  refine W_call (va_runS (As := As.map (up base)) (rest := rest.map (up base)) ⟨C.1, C.2.1, C.2.2.2.1, C.2.2.2.2.1, fun w hw => C.2.2.2.2.2.1 w hw⟩ hsp ⟨cb_of C hM hR hl, C.2.2.2.2.2.1 _ hi⟩ ⟨fb_pc D base sh h _, fun U hU hW => ⟨rfl, by rw [hU]; exact hP, C.2.2.2.2.2.2.2.1.warm hW⟩⟩ rfl (by rw [List.length_map]; exact hn) hL.1 rfl (lv_room (by rw [up_sum]; exact hw)) hd hf) hS (fun sh' h' r H1 locs1 hq1 hP1 hS1 => ?_)
  obtain ⟨⟨e1, e2⟩, k1⟩ := k sh' h' r hq1
  rw [r_up, e1, e2]
  exact k1 p e s m args below meth c C H1 locs1 A hP1 hS1 hL
/-- a static call of a nest mate's private method -/
theorem wx_callSN (hd : decode M.2.1 pc = .ok (.invokestatic idx, 3)) (hM : okM M' n) (hR : okR M M') {host : String} (hl : ∀ U, KX D U → va_Nw (.methodLinkNest M.1.cls idx M'.1 host) U) (hi : Cond.static M'.1 ∈ lw_gt)
    (hsp : SX l D base M' sh As h Q') (hn : As.length = n) (hst : st = As.reverse ++ rest) (hw : (rest.map fun v => v.category).sum ≤ 8) (hf : sh.length - z.1 + M'.2.2.2.2.cells ≤ M.2.2.2.2.cells ∧ szs sh - z.2 + M'.2.2.2.2.slots ≤ M.2.2.2.2.slots)
    (k : ∀ (sh' : List Sh) (h' : Hp) (r : Option Value), Q' sh' h' r → (sh.length - z.1 + M'.2.2.2.2.cells = sh'.length - z.1 ∧ szs sh - z.2 + M'.2.2.2.2.slots = szs sh' - z.2) ∧ WX l D base z M sh' (pc + 3) ls (r.toList ++ rest) h' Q) : WX l D base z M sh pc ls st h Q := by
  intro p e s m args below meth c C H locs A hP hS hL
  subst hst
  rw [List.map_append, List.map_reverse]
  refine W_call (va_runSN (As := As.map (up base)) (rest := rest.map (up base)) ⟨C.1, C.2.1, C.2.2.2.1, C.2.2.2.2.1, fun w hw => C.2.2.2.2.2.1 w hw⟩ hsp ⟨va_cnB n (Ts := lw_gt) (fun w hw => C.2.2.2.2.2.1 w hw) (wsM_in hM.1) rfl rfl rfl (hl s C.2.2.2.2.2.2.2.1) (C.2.2.2.2.2.1 _ hM.2.1) hM.2.2 hR, C.2.2.2.2.2.1 _ hi, trivial⟩ ⟨fb_pc D base sh h _, fun U hU hW => ⟨rfl, by rw [hU]; exact hP, C.2.2.2.2.2.2.2.1.warm hW⟩⟩ rfl (by rw [List.length_map]; exact hn) hL.1 rfl (lv_room (by rw [up_sum]; exact hw)) hd hf) hS (fun sh' h' r H1 locs1 hq1 hP1 hS1 => ?_)
  obtain ⟨⟨e1, e2⟩, k1⟩ := k sh' h' r hq1
  rw [r_up, e1, e2]
  exact k1 p e s m args below meth c C H1 locs1 A hP1 hS1 hL
end CLX
end
section
def SH : List Sh := [.inr (2, [(2, some 1), (0, none), (2, some 2), (2, some 10), (2, some 18), (2, some 19), (0, none), (2, some 34), (2, some 37), (2, some 38), (2, some 39), (2, some 40), (0, none), (2, some 41), (1, none)]),
  .inl (0, 56),
  .inr (0, [(2, some 3), (2, some 4), (2, some 5), (2, some 6), (2, some 7), (2, some 8), (0, none), (0, none), (0, none), (0, none), (0, none), (2, some 9)]),
  .inl (0, 5),
  .inl (0, 5),
  .inl (0, 5),
  .inl (0, 5),
  .inl (0, 6),
  .inl (0, 6),
  .inl (0, 5),
  .inr (0, [(2, some 11), (2, some 12), (2, some 13), (2, some 14), (2, some 15), (2, some 16), (0, none), (0, none), (0, none), (0, none), (0, none), (2, some 17)]),
  .inl (0, 5),
  .inl (0, 5),
  .inl (0, 5),
  .inl (0, 5),
  .inl (0, 6),
  .inl (0, 6),
  .inl (0, 5),
  .inr (1, [(0, none), (0, none), (0, none)]),
  .inl (2, 14),
  .inl (0, 19),
  .inl (0, 19),
  .inl (0, 19),
  .inl (0, 19),
  .inl (0, 19),
  .inl (0, 19),
  .inl (0, 19),
  .inl (0, 19),
  .inl (0, 19),
  .inl (0, 19),
  .inl (0, 19),
  .inl (0, 19),
  .inl (0, 19),
  .inl (0, 19),
  .inl (2, 2),
  .inl (0, 19),
  .inl (0, 19),
  .inl (1, 2),
  .inl (0, 6),
  .inl (0, 6),
  .inl (0, 6),
  .inl (0, 32),
  .inr (3, [(0, none), (2, some 43), (0, none), (0, none), (0, none), (2, some 44), (0, none), (2, some 45), (0, none), (0, none), (0, none), (2, some 46), (0, none), (2, some 47), (2, some 48), (2, some 49), (2, some 50), (0, none), (2, some 51), (2, some 52), (0, none), (2, some 53), (2, some 54), (2, some 55), (1, none), (2, some 56), (2, some 57), (0, none), (0, none), (0, none), (0, none), (0, none), (0, none), (2, some 58), (2, some 59)]),
  .inl (0, 56),
  .inl (0, 5),
  .inl (0, 6),
  .inl (0, 15),
  .inl (0, 12),
  .inl (0, 24),
  .inl (0, 24),
  .inl (0, 336),
  .inl (0, 48),
  .inl (1, 2),
  .inl (0, 6),
  .inl (0, 6),
  .inl (0, 6),
  .inl (0, 6),
  .inl (0, 5),
  .inl (0, 8),
  .inl (0, 32)]
def ZZ : Nat × Nat := (SH.length, szs SH)
theorem zz_c (n : Nat) : SH.length - ZZ.1 + n = n := by show SH.length - SH.length + n = n; rw [Nat.sub_self, Nat.zero_add]
theorem zz_s (n : Nat) : szs SH - ZZ.2 + n = n := by show szs SH - szs SH + n = n; rw [Nat.sub_self, Nat.zero_add]
def WH (l : Launch) (D : va_G) (base : Nat) (M : MI) (pc : Nat) (ls : List (Option Value)) (st : List Value) (h : Hp) (Q : Hp → Option Value → Prop) : Prop := WX l D base ZZ M SH pc ls st h (fun sh' h' r => sh' = SH ∧ Q h' r)
def SP (l : Launch) (D : va_G) (base : Nat) (M : MI) (As : List Value) (h : Hp) (Q : Hp → Option Value → Prop) : Prop := SX l D base M SH As h (fun sh' h' r => sh' = SH ∧ Q h' r)
/-- the method answers r, the cells are then h2 -/
def SD (l : Launch) (D : va_G) (base : Nat) (M : MI) (As : List Value) (h : Hp) (r : Option Value) (h2 : Hp) : Prop := SP l D base M As h (fun h' r' => h' = h2 ∧ r' = r)
/-- the method answers an int, of which P -/
def SI (l : Launch) (D : va_G) (base : Nat) (M : MI) (As : List Value) (h : Hp) (P : Hp → Int32 → Prop) : Prop := SP l D base M As h (fun h' r' => ∃ x, r' = some (.int x) ∧ P h' x)
/-- the method answers nothing, of the cells then P -/
def SV (l : Launch) (D : va_G) (base : Nat) (M : MI) (As : List Value) (h : Hp) (P : Hp → Prop) : Prop := SP l D base M As h (fun h' r' => r' = none ∧ P h')
section SPC
variable {l : Launch} {D : va_G} {base : Nat} {M M' : MI} {pc idx n : Nat} {ls : List (Option Value)} {st rest : List Value} {h h2 : Hp} {Q : Hp → Option Value → Prop} {As : List Value}
theorem SP.of (ls : List (Option Value)) (hy : plainName M.1.cls = true) (hls : lvl base 0 ls = lv_args 0 (As.map (up base))) (hn : (lg_sl (As.map (up base))).length ≤ M.2.2.1) (k : WH l D base M 0 ls [] h Q) : SP l D base M As h Q := SX.of ls hy hls hn k
theorem wh_eq {ls' : List (Option Value)} {st' : List Value} {h' : Hp} (k : WH l D base M pc ls' st' h' Q) (h1 : ls = ls') (h2 : st = st') (h3 : h = h') : WH l D base M pc ls st h Q := wx_eq k h1 h2 h3
theorem SP.cons {Q' : Hp → Option Value → Prop} (hs : SP l D base M As h Q) (hq : ∀ h' r, Q h' r → Q' h' r) : SP l D base M As h Q' := by
  intro p e ha hc hk s m args below hf happ hP hT
  obtain ⟨k, o, h1, h2, h3, ⟨sh', h', r, q1, q2, q3, q4⟩, q5⟩ := hs p e ha hc hk s m args below hf happ hP hT
  exact ⟨k, o, h1, h2, h3, ⟨sh', h', r, q1, ⟨q2.1, hq _ _ q2.2⟩, q3, q4⟩, q5⟩
theorem wh_iret {v : Int32} (hd : decode M.2.1 pc = .ok (.ireturn, 1)) (hr : M.2.2.2.1 = some .int) (hq : Q h (some (.int v))) : WH l D base M pc ls [.int v] h Q := wx_iret hd hr ⟨by rw [← Nat.add_zero (SH.length - ZZ.1), zz_c]; exact Nat.zero_le _, by rw [← Nat.add_zero (szs SH - ZZ.2), zz_s]; exact Nat.zero_le _⟩ ⟨rfl, hq⟩
theorem wh_zret {v : Int32} (hd : decode M.2.1 pc = .ok (.ireturn, 1)) (hr : M.2.2.2.1 = some .boolean) (hn : narrow .boolean (.int v) = .int v) (hq : Q h (some (.int v))) : WH l D base M pc ls [.int v] h Q := wx_zret hd hr hn ⟨by rw [← Nat.add_zero (SH.length - ZZ.1), zz_c]; exact Nat.zero_le _, by rw [← Nat.add_zero (szs SH - ZZ.2), zz_s]; exact Nat.zero_le _⟩ ⟨rfl, hq⟩
theorem wh_lret {v : Int64} (hd : decode M.2.1 pc = .ok (.lreturn, 1)) (hr : M.2.2.2.1 = some .long) (hq : Q h (some (.long v))) : WH l D base M pc ls [.long v] h Q := wx_lret hd hr ⟨by rw [← Nat.add_zero (SH.length - ZZ.1), zz_c]; exact Nat.zero_le _, by rw [← Nat.add_zero (szs SH - ZZ.2), zz_s]; exact Nat.zero_le _⟩ ⟨rfl, hq⟩
theorem wh_vret (hd : decode M.2.1 pc = .ok (.return_, 1)) (hr : M.2.2.2.1 = none) (hq : Q h none) : WH l D base M pc ls [] h Q := wx_vret hd hr ⟨by rw [← Nat.add_zero (SH.length - ZZ.1), zz_c]; exact Nat.zero_le _, by rw [← Nat.add_zero (szs SH - ZZ.2), zz_s]; exact Nat.zero_le _⟩ ⟨rfl, hq⟩
abbrev okR0 (M M' : MI) : Prop := okR M M' ∧ M'.2.2.2.2.cells = 0 ∧ M'.2.2.2.2.slots = 0
theorem wh_callV {b ci : Nat} {q : vw_C} {fl : List (Nat × Option Nat)} {Q' : Hp → Option Value → Prop} (hd : decode M.2.1 pc = .ok (.invokevirtual idx, 3)) (hM : okM M' n) (hR : okR0 M M') (hl : Cond.methodLink M.1.cls idx M'.1 ∈ lw_gt) (hi : Cond.instanceMethod M'.1 ∈ lw_gt) (hs : Cond.selects M'.1.cls M'.1 M'.1 ∈ lw_gt) (hsh : SH[b]? = some (.inr (ci, fl))) (hc : classes[ci]? = some q) (hq : q.1 = M'.1.cls)
    (hsp : SP l D base M' (.ref b :: As) h Q') (hn : As.length = n) (hst : st = As.reverse ++ .ref b :: rest) (hw : (rest.map fun v => v.category).sum ≤ 8)
    (k : ∀ (h' : Hp) (r : Option Value), Q' h' r → WH l D base M (pc + 3) ls (r.toList ++ rest) h' Q) : WH l D base M pc ls st h Q :=
  wx_callVG hd hM hR.1 hl hi hs hsh hc hq hsp hn hst hw ⟨by rw [zz_c, hR.2.1]; exact Nat.zero_le _, by rw [zz_s, hR.2.2]; exact Nat.zero_le _⟩ (fun sh' h' r hq1 => by
    obtain ⟨rfl, hq1⟩ := hq1
    refine ⟨⟨by rw [hR.2.1, Nat.add_zero], by rw [hR.2.2, Nat.add_zero]⟩, k h' r hq1⟩)
theorem wh_callS {Q' : Hp → Option Value → Prop} (hd : decode M.2.1 pc = .ok (.invokestatic idx, 3)) (hM : okM M' n) (hR : okR0 M M') (hl : Cond.methodLink M.1.cls idx M'.1 ∈ lw_gt) (hi : Cond.static M'.1 ∈ lw_gt)
    (hsp : SP l D base M' As h Q') (hn : As.length = n) (hst : st = As.reverse ++ rest) (hw : (rest.map fun v => v.category).sum ≤ 8)
    (k : ∀ (h' : Hp) (r : Option Value), Q' h' r → WH l D base M (pc + 3) ls (r.toList ++ rest) h' Q) : WH l D base M pc ls st h Q :=
  wx_callSG hd hM hR.1 hl hi hsp hn hst hw ⟨by rw [zz_c, hR.2.1]; exact Nat.zero_le _, by rw [zz_s, hR.2.2]; exact Nat.zero_le _⟩ (fun sh' h' r hq1 => by
    obtain ⟨rfl, hq1⟩ := hq1
    refine ⟨⟨by rw [hR.2.1, Nat.add_zero], by rw [hR.2.2, Nat.add_zero]⟩, k h' r hq1⟩)
theorem wh_callN {host : String} {Q' : Hp → Option Value → Prop} (hd : decode M.2.1 pc = .ok (.invokestatic idx, 3)) (hM : okM M' n) (hR : okR0 M M') (hl : ∀ U, KX D U → va_Nw (.methodLinkNest M.1.cls idx M'.1 host) U) (hi : Cond.static M'.1 ∈ lw_gt)
    (hsp : SP l D base M' As h Q') (hn : As.length = n) (hst : st = As.reverse ++ rest) (hw : (rest.map fun v => v.category).sum ≤ 8)
    (k : ∀ (h' : Hp) (r : Option Value), Q' h' r → WH l D base M (pc + 3) ls (r.toList ++ rest) h' Q) : WH l D base M pc ls st h Q :=
  wx_callSN hd hM hR.1 hl hi hsp hn hst hw ⟨by rw [zz_c, hR.2.1]; exact Nat.zero_le _, by rw [zz_s, hR.2.2]; exact Nat.zero_le _⟩ (fun sh' h' r hq1 => by
    obtain ⟨rfl, hq1⟩ := hq1
    refine ⟨⟨by rw [hR.2.1, Nat.add_zero], by rw [hR.2.2, Nat.add_zero]⟩, k h' r hq1⟩)
end SPC
section WHR
variable {l : Launch} {D : va_G} {base : Nat} {M : MI} {pc : Nat} {ls : List (Option Value)} {st : List Value} {h : Hp} {Q : Hp → Option Value → Prop}
theorem wh_iconst {n : Int} {v : Int32} (hd : decode M.2.1 pc = .ok (.iconst n, 1)) (hv : Int32.ofInt n = v) (k : WH l D base M (pc + 1) ls (.int v :: st) h Q) : WH l D base M pc ls (st) h Q := wx_iconst hd hv k
theorem wh_bipush {n : Int} {v : Int32} (hd : decode M.2.1 pc = .ok (.bipush n, 2)) (hv : (Int8.ofInt n).toInt32 = v) (k : WH l D base M (pc + 2) ls (.int v :: st) h Q) : WH l D base M pc ls (st) h Q := wx_bipush hd hv k
theorem wh_sipush {n : Int} {v : Int32} (hd : decode M.2.1 pc = .ok (.sipush n, 3)) (hv : (Int16.ofInt n).toInt32 = v) (k : WH l D base M (pc + 3) ls (.int v :: st) h Q) : WH l D base M pc ls (st) h Q := wx_sipush hd hv k
theorem wh_lconst {n : Fin 2} {v : Int64} (hd : decode M.2.1 pc = .ok (.lconst n, 1)) (hv : Int64.ofNat (n : Nat) = v) (k : WH l D base M (pc + 1) ls (.long v :: st) h Q) : WH l D base M pc ls (st) h Q := wx_lconst hd hv k
theorem wh_iload_n {k : Fin 4} {i : Nat} {x : Int32} (hd : decode M.2.1 pc = .ok (.iload_n k, 1)) (hi : (k : Nat) = i) (hg : lget ls i = some (.int x)) (k2 : WH l D base M (pc + 1) ls (.int x :: st) h Q) : WH l D base M pc ls st h Q := wx_iload_n hd hi hg k2
theorem wh_iload {i : Nat} {x : Int32} (hd : decode M.2.1 pc = .ok (.iload i, 2)) (hg : lget ls i = some (.int x)) (k2 : WH l D base M (pc + 2) ls (.int x :: st) h Q) : WH l D base M pc ls st h Q := wx_iload hd hg k2
theorem wh_lload_n {k : Fin 4} {i : Nat} {x : Int64} (hd : decode M.2.1 pc = .ok (.lload_n k, 1)) (hi : (k : Nat) = i) (hg : lget ls i = some (.long x)) (k2 : WH l D base M (pc + 1) ls (.long x :: st) h Q) : WH l D base M pc ls st h Q := wx_lload_n hd hi hg k2
theorem wh_lload {i : Nat} {x : Int64} (hd : decode M.2.1 pc = .ok (.lload i, 2)) (hg : lget ls i = some (.long x)) (k2 : WH l D base M (pc + 2) ls (.long x :: st) h Q) : WH l D base M pc ls st h Q := wx_lload hd hg k2
theorem wh_aload_n {k : Fin 4} {i : Nat} {x : Nat} (hd : decode M.2.1 pc = .ok (.aload_n k, 1)) (hi : (k : Nat) = i) (hg : lget ls i = some (.ref x)) (k2 : WH l D base M (pc + 1) ls (.ref x :: st) h Q) : WH l D base M pc ls st h Q := wx_aload_n hd hi hg k2
theorem wh_istore_n {k : Fin 4} {i : Nat} {x : Int32} {ls2 : List (Option Value)} (hd : decode M.2.1 pc = .ok (.istore_n k, 1)) (hi : (k : Nat) = i) (hn : i < M.2.2.1) (ho : okst ls i = true) (he : lset ls i (some (.int x)) = ls2) (k2 : WH l D base M (pc + 1) ls2 st h Q) : WH l D base M pc ls (.int x :: st) h Q := wx_istore_n hd hi hn ho he k2
theorem wh_istore {i : Nat} {x : Int32} {ls2 : List (Option Value)} (hd : decode M.2.1 pc = .ok (.istore i, 2)) (hn : i < M.2.2.1) (ho : okst ls i = true) (he : lset ls i (some (.int x)) = ls2) (k2 : WH l D base M (pc + 2) ls2 st h Q) : WH l D base M pc ls (.int x :: st) h Q := wx_istore hd hn ho he k2
theorem wh_astore_n {k : Fin 4} {i : Nat} {x : Nat} {ls2 : List (Option Value)} (hd : decode M.2.1 pc = .ok (.astore_n k, 1)) (hi : (k : Nat) = i) (hn : i < M.2.2.1) (ho : okst ls i = true) (he : lset ls i (some (.ref x)) = ls2) (k2 : WH l D base M (pc + 1) ls2 st h Q) : WH l D base M pc ls (.ref x :: st) h Q := wx_astore_n hd hi hn ho he k2
theorem wh_lstore_n {k : Fin 4} {i : Nat} {x : Int64} {ls2 : List (Option Value)} (hd : decode M.2.1 pc = .ok (.lstore_n k, 1)) (hi : (k : Nat) = i) (hn : i + 1 < M.2.2.1) (ho : okst ls i = true) (he : lset (lset ls i (some (.long x))) (i + 1) none = ls2) (k2 : WH l D base M (pc + 1) ls2 st h Q) : WH l D base M pc ls (.long x :: st) h Q := wx_lstore_n hd hi hn ho he k2
theorem wh_iinc {i : Nat} {n : Int} {x v : Int32} {ls2 : List (Option Value)} (hd : decode M.2.1 pc = .ok (.iinc i n, 3)) (hg : lget ls i = some (.int x)) (hv : x + Int32.ofInt n = v) (hn : i < M.2.2.1) (ho : okst ls i = true) (he : lset ls i (some (.int v)) = ls2) (k2 : WH l D base M (pc + 3) ls2 st h Q) : WH l D base M pc ls st h Q := wx_iinc hd hg hv hn ho he k2
theorem wh_iadd {x y : Int32} (hd : decode M.2.1 pc = .ok (.iadd, 1))  (k : WH l D base M (pc + 1) ls (.int (x + y) :: st) h Q) : WH l D base M pc ls (.int y :: .int x :: st) h Q := wx_iadd hd k
theorem wh_isub {x y : Int32} (hd : decode M.2.1 pc = .ok (.isub, 1))  (k : WH l D base M (pc + 1) ls (.int (x - y) :: st) h Q) : WH l D base M pc ls (.int y :: .int x :: st) h Q := wx_isub hd k
theorem wh_imul {x y : Int32} (hd : decode M.2.1 pc = .ok (.imul, 1))  (k : WH l D base M (pc + 1) ls (.int (x * y) :: st) h Q) : WH l D base M pc ls (.int y :: .int x :: st) h Q := wx_imul hd k
theorem wh_iand {x y : Int32} (hd : decode M.2.1 pc = .ok (.iand, 1))  (k : WH l D base M (pc + 1) ls (.int (x &&& y) :: st) h Q) : WH l D base M pc ls (.int y :: .int x :: st) h Q := wx_iand hd k
theorem wh_ior {x y : Int32} (hd : decode M.2.1 pc = .ok (.ior, 1))  (k : WH l D base M (pc + 1) ls (.int (x ||| y) :: st) h Q) : WH l D base M pc ls (.int y :: .int x :: st) h Q := wx_ior hd k
theorem wh_ixor {x y : Int32} (hd : decode M.2.1 pc = .ok (.ixor, 1))  (k : WH l D base M (pc + 1) ls (.int (x ^^^ y) :: st) h Q) : WH l D base M pc ls (.int y :: .int x :: st) h Q := wx_ixor hd k
theorem wh_ishl {x y : Int32} (hd : decode M.2.1 pc = .ok (.ishl, 1))  (k : WH l D base M (pc + 1) ls (.int (x <<< (y &&& 31)) :: st) h Q) : WH l D base M pc ls (.int y :: .int x :: st) h Q := wx_ishl hd k
theorem wh_ishr {x y : Int32} (hd : decode M.2.1 pc = .ok (.ishr, 1))  (k : WH l D base M (pc + 1) ls (.int (x >>> (y &&& 31)) :: st) h Q) : WH l D base M pc ls (.int y :: .int x :: st) h Q := wx_ishr hd k
theorem wh_iushr {x y : Int32} (hd : decode M.2.1 pc = .ok (.iushr, 1))  (k : WH l D base M (pc + 1) ls (.int (x.toUInt32 >>> (y.toUInt32 &&& Int32.toUInt32 31)).toInt32 :: st) h Q) : WH l D base M pc ls (.int y :: .int x :: st) h Q := wx_iushr hd k
theorem wh_idiv {x y : Int32} (hd : decode M.2.1 pc = .ok (.idiv, 1)) (hne : ¬ y = 0) (k : WH l D base M (pc + 1) ls (.int (x / y) :: st) h Q) : WH l D base M pc ls (.int y :: .int x :: st) h Q := wx_idiv hd hne k
theorem wh_irem {x y : Int32} (hd : decode M.2.1 pc = .ok (.irem, 1)) (hne : ¬ y = 0) (k : WH l D base M (pc + 1) ls (.int (x - x / y * y) :: st) h Q) : WH l D base M pc ls (.int y :: .int x :: st) h Q := wx_irem hd hne k
theorem wh_ineg {x : Int32} (hd : decode M.2.1 pc = .ok (.ineg, 1))  (k : WH l D base M (pc + 1) ls (.int (-x) :: st) h Q) : WH l D base M pc ls (.int x :: st) h Q := wx_ineg hd k
theorem wh_ladd {x y : Int64} (hd : decode M.2.1 pc = .ok (.ladd, 1))  (k : WH l D base M (pc + 1) ls (.long (x + y) :: st) h Q) : WH l D base M pc ls (.long y :: .long x :: st) h Q := wx_ladd hd k
theorem wh_lmul {x y : Int64} (hd : decode M.2.1 pc = .ok (.lmul, 1))  (k : WH l D base M (pc + 1) ls (.long (x * y) :: st) h Q) : WH l D base M pc ls (.long y :: .long x :: st) h Q := wx_lmul hd k
theorem wh_land {x y : Int64} (hd : decode M.2.1 pc = .ok (.land, 1))  (k : WH l D base M (pc + 1) ls (.long (x &&& y) :: st) h Q) : WH l D base M pc ls (.long y :: .long x :: st) h Q := wx_land hd k
theorem wh_lor {x y : Int64} (hd : decode M.2.1 pc = .ok (.lor, 1))  (k : WH l D base M (pc + 1) ls (.long (x ||| y) :: st) h Q) : WH l D base M pc ls (.long y :: .long x :: st) h Q := wx_lor hd k
theorem wh_lrem {x y : Int64} (hd : decode M.2.1 pc = .ok (.lrem, 1)) (hne : ¬ y = 0) (k : WH l D base M (pc + 1) ls (.long (x - x / y * y) :: st) h Q) : WH l D base M pc ls (.long y :: .long x :: st) h Q := wx_lrem hd hne k
theorem wh_lushr {x : Int64} {y : Int32} (hd : decode M.2.1 pc = .ok (.lushr, 1))  (k : WH l D base M (pc + 1) ls (.long (x.toUInt64 >>> (y.toInt64.toUInt64 &&& Int64.toUInt64 63)).toInt64 :: st) h Q) : WH l D base M pc ls (.int y :: .long x :: st) h Q := wx_lushr hd k
theorem wh_lshl {x : Int64} {y : Int32} (hd : decode M.2.1 pc = .ok (.lshl, 1))  (k : WH l D base M (pc + 1) ls (.long (x <<< (y.toInt64 &&& 63)) :: st) h Q) : WH l D base M pc ls (.int y :: .long x :: st) h Q := wx_lshl hd k
theorem wh_i2l {x : Int32} (hd : decode M.2.1 pc = .ok (.i2l, 1))  (k : WH l D base M (pc + 1) ls (.long x.toInt64 :: st) h Q) : WH l D base M pc ls (.int x :: st) h Q := wx_i2l hd k
theorem wh_l2i {x : Int64} (hd : decode M.2.1 pc = .ok (.l2i, 1))  (k : WH l D base M (pc + 1) ls (.int x.toInt32 :: st) h Q) : WH l D base M pc ls (.long x :: st) h Q := wx_l2i hd k
theorem wh_lcmp {x y : Int64} (hd : decode M.2.1 pc = .ok (.lcmp, 1))  (k : WH l D base M (pc + 1) ls (.int (lg_cmp x y) :: st) h Q) : WH l D base M pc ls (.long y :: .long x :: st) h Q := wx_lcmp hd k
theorem wh_dup {va : Value} (hd : decode M.2.1 pc = .ok (.dup, 1)) (h1 : va.category = 1) (k : WH l D base M (pc + 1) ls (va :: va :: st) h Q) : WH l D base M pc ls (va :: st) h Q := wx_dup hd h1 k
theorem wh_pop {va : Value} (hd : decode M.2.1 pc = .ok (.pop, 1)) (h1 : va.category = 1) (k : WH l D base M (pc + 1) ls (st) h Q) : WH l D base M pc ls (va :: st) h Q := wx_pop hd h1 k
theorem wh_dup2 {va vb : Value} (hd : decode M.2.1 pc = .ok (.dup2, 1)) (h1 : va.category = 1) (h2 : vb.category = 1) (k : WH l D base M (pc + 1) ls (va :: vb :: va :: vb :: st) h Q) : WH l D base M pc ls (va :: vb :: st) h Q := wx_dup2 hd h1 h2 k
theorem wh_if_eq {x : Int32} {off : Int} {tgt : Nat} (hd : decode M.2.1 pc = .ok (.ifCond .eq off, 3)) (ht : (pc : Int) + off = (tgt : Int)) (kt : x = 0 → WH l D base M tgt ls st h Q) (kf : ¬ x = 0 → WH l D base M (pc + 3) ls st h Q) : WH l D base M pc ls (.int x :: st) h Q := wx_if_eq hd ht kt kf
theorem wh_icmp_eq {x y : Int32} {off : Int} {tgt : Nat} (hd : decode M.2.1 pc = .ok (.if_icmp .eq off, 3)) (ht : (pc : Int) + off = (tgt : Int)) (kt : x = y → WH l D base M tgt ls st h Q) (kf : ¬ x = y → WH l D base M (pc + 3) ls st h Q) : WH l D base M pc ls (.int y :: .int x :: st) h Q := wx_icmp_eq hd ht kt kf
theorem wh_if_ne {x : Int32} {off : Int} {tgt : Nat} (hd : decode M.2.1 pc = .ok (.ifCond .ne off, 3)) (ht : (pc : Int) + off = (tgt : Int)) (kt : ¬ x = 0 → WH l D base M tgt ls st h Q) (kf : x = 0 → WH l D base M (pc + 3) ls st h Q) : WH l D base M pc ls (.int x :: st) h Q := wx_if_ne hd ht kt kf
theorem wh_icmp_ne {x y : Int32} {off : Int} {tgt : Nat} (hd : decode M.2.1 pc = .ok (.if_icmp .ne off, 3)) (ht : (pc : Int) + off = (tgt : Int)) (kt : ¬ x = y → WH l D base M tgt ls st h Q) (kf : x = y → WH l D base M (pc + 3) ls st h Q) : WH l D base M pc ls (.int y :: .int x :: st) h Q := wx_icmp_ne hd ht kt kf
theorem wh_if_lt {x : Int32} {off : Int} {tgt : Nat} (hd : decode M.2.1 pc = .ok (.ifCond .lt off, 3)) (ht : (pc : Int) + off = (tgt : Int)) (kt : x < 0 → WH l D base M tgt ls st h Q) (kf : ¬ x < 0 → WH l D base M (pc + 3) ls st h Q) : WH l D base M pc ls (.int x :: st) h Q := wx_if_lt hd ht kt kf
theorem wh_icmp_lt {x y : Int32} {off : Int} {tgt : Nat} (hd : decode M.2.1 pc = .ok (.if_icmp .lt off, 3)) (ht : (pc : Int) + off = (tgt : Int)) (kt : x < y → WH l D base M tgt ls st h Q) (kf : ¬ x < y → WH l D base M (pc + 3) ls st h Q) : WH l D base M pc ls (.int y :: .int x :: st) h Q := wx_icmp_lt hd ht kt kf
theorem wh_if_ge {x : Int32} {off : Int} {tgt : Nat} (hd : decode M.2.1 pc = .ok (.ifCond .ge off, 3)) (ht : (pc : Int) + off = (tgt : Int)) (kt : 0 ≤ x → WH l D base M tgt ls st h Q) (kf : ¬ 0 ≤ x → WH l D base M (pc + 3) ls st h Q) : WH l D base M pc ls (.int x :: st) h Q := wx_if_ge hd ht kt kf
theorem wh_icmp_ge {x y : Int32} {off : Int} {tgt : Nat} (hd : decode M.2.1 pc = .ok (.if_icmp .ge off, 3)) (ht : (pc : Int) + off = (tgt : Int)) (kt : y ≤ x → WH l D base M tgt ls st h Q) (kf : ¬ y ≤ x → WH l D base M (pc + 3) ls st h Q) : WH l D base M pc ls (.int y :: .int x :: st) h Q := wx_icmp_ge hd ht kt kf
theorem wh_if_gt {x : Int32} {off : Int} {tgt : Nat} (hd : decode M.2.1 pc = .ok (.ifCond .gt off, 3)) (ht : (pc : Int) + off = (tgt : Int)) (kt : 0 < x → WH l D base M tgt ls st h Q) (kf : ¬ 0 < x → WH l D base M (pc + 3) ls st h Q) : WH l D base M pc ls (.int x :: st) h Q := wx_if_gt hd ht kt kf
theorem wh_icmp_gt {x y : Int32} {off : Int} {tgt : Nat} (hd : decode M.2.1 pc = .ok (.if_icmp .gt off, 3)) (ht : (pc : Int) + off = (tgt : Int)) (kt : y < x → WH l D base M tgt ls st h Q) (kf : ¬ y < x → WH l D base M (pc + 3) ls st h Q) : WH l D base M pc ls (.int y :: .int x :: st) h Q := wx_icmp_gt hd ht kt kf
theorem wh_if_le {x : Int32} {off : Int} {tgt : Nat} (hd : decode M.2.1 pc = .ok (.ifCond .le off, 3)) (ht : (pc : Int) + off = (tgt : Int)) (kt : x ≤ 0 → WH l D base M tgt ls st h Q) (kf : ¬ x ≤ 0 → WH l D base M (pc + 3) ls st h Q) : WH l D base M pc ls (.int x :: st) h Q := wx_if_le hd ht kt kf
theorem wh_icmp_le {x y : Int32} {off : Int} {tgt : Nat} (hd : decode M.2.1 pc = .ok (.if_icmp .le off, 3)) (ht : (pc : Int) + off = (tgt : Int)) (kt : x ≤ y → WH l D base M tgt ls st h Q) (kf : ¬ x ≤ y → WH l D base M (pc + 3) ls st h Q) : WH l D base M pc ls (.int y :: .int x :: st) h Q := wx_icmp_le hd ht kt kf
theorem wh_goto {off : Int} {tgt : Nat} (hd : decode M.2.1 pc = .ok (.goto off, 3)) (ht : (pc : Int) + off = (tgt : Int)) (k : WH l D base M tgt ls st h Q) : WH l D base M pc ls st h Q := wx_goto hd ht k
theorem wh_ifnull {x : Nat} {off : Int} (hd : decode M.2.1 pc = .ok (.ifnull off, 3)) (k : WH l D base M (pc + 3) ls st h Q) : WH l D base M pc ls (.ref x :: st) h Q := wx_ifnull hd k
theorem wh_ldcw {idx : Nat} {v : Int32} (hd : decode M.2.1 pc = .ok (.ldc_w idx, 3)) (hw : Cond.constant M.1.cls idx v ∈ lw_gt) (k : WH l D base M (pc + 3) ls (.int v :: st) h Q) : WH l D base M pc ls st h Q := wx_ldcw hd hw k
theorem wh_ldc2 {idx : Nat} {v : Int64} (hd : decode M.2.1 pc = .ok (.ldc2_w idx, 3)) (hw : Cond.constantLong M.1.cls idx v ∈ lw_gt) (k : WH l D base M (pc + 3) ls (.long v :: st) h Q) : WH l D base M pc ls st h Q := wx_ldc2 hd hw k
theorem wh_tabOut {dflt lo hi : Int} {offs : Array Int} {len : Nat} {x : Int32} {tgt : Nat} (hd : decode M.2.1 pc = .ok (.tableswitch dflt lo hi offs, len)) (hx : x.toInt < lo ∨ hi < x.toInt) (ht : (pc : Int) + dflt = (tgt : Int)) (k : WH l D base M tgt ls st h Q) : WH l D base M pc ls (.int x :: st) h Q := wx_tabOut hd hx ht k
theorem wh_tabIn {dflt lo hi : Int} {offs : Array Int} {len : Nat} {x : Int32} {off : Int} {tgt : Nat} (hd : decode M.2.1 pc = .ok (.tableswitch dflt lo hi offs, len)) (h1 : ¬ x.toInt < lo) (h2 : ¬ hi < x.toInt) (ho : offs[(x.toInt - lo).toNat]? = some off) (ht : (pc : Int) + off = (tgt : Int)) (k : WH l D base M tgt ls st h Q) : WH l D base M pc ls (.int x :: st) h Q := wx_tabIn hd h1 h2 ho ht k
theorem wh_iald {a n : Nat} {i : Int32} (hd : decode M.2.1 pc = .ok (.iaload, 1)) (hsh : SH[a]? = some (.inl (0, n))) (hi : vp_in i n) (kk : WH l D base M (pc + 1) ls (.int (gI h a i.toNatClampNeg) :: st) h Q) : WH l D base M pc ls (.int i :: .ref a :: st) h Q := wx_iald hd hsh hi kk
theorem wh_bald {a n : Nat} {i : Int32} (hd : decode M.2.1 pc = .ok (.baload, 1)) (hsh : SH[a]? = some (.inl (1, n))) (hi : vp_in i n) (kk : WH l D base M (pc + 1) ls (.int (gI h a i.toNatClampNeg) :: st) h Q) : WH l D base M pc ls (.int i :: .ref a :: st) h Q := wx_bald hd hsh hi kk
theorem wh_alen {a n : Nat} (hd : decode M.2.1 pc = .ok (.arraylength, 1)) (hsh : SH[a]? = some (.inl (0, n))) (kk : WH l D base M (pc + 1) ls (.int (Int32.ofNat n) :: st) h Q) : WH l D base M pc ls (.ref a :: st) h Q := wx_alen hd hsh kk
theorem wh_iast {a n : Nat} {i v : Int32} (hd : decode M.2.1 pc = .ok (.iastore, 1)) (hsh : SH[a]? = some (.inl (0, n))) (hi : vp_in i n) (kk : WH l D base M (pc + 1) ls st (sI h a i.toNatClampNeg v) Q) : WH l D base M pc ls (.int v :: .int i :: .ref a :: st) h Q := wx_iast hd hsh hi kk
theorem wh_bast {a n : Nat} {i v : Int32} (hd : decode M.2.1 pc = .ok (.bastore, 1)) (hsh : SH[a]? = some (.inl (1, n))) (hi : vp_in i n) (hv : vp_nar .boolean v = v) (kk : WH l D base M (pc + 1) ls st (sI h a i.toNatClampNeg v) Q) : WH l D base M pc ls (.int v :: .int i :: .ref a :: st) h Q := wx_bast hd hsh hi hv kk
theorem wh_aald {a n r : Nat} {i : Int32} (hd : decode M.2.1 pc = .ok (.aaload, 1)) (hsh : SH[a]? = some (.inl (2, n))) (hi : vp_in i n) (hr : gR h a i.toNatClampNeg = some r) (kk : WH l D base M (pc + 1) ls (.ref r :: st) h Q) : WH l D base M pc ls (.int i :: .ref a :: st) h Q := wx_aald hd hsh hi hr kk
theorem wh_aast {a n r k : Nat} {i : Int32} (hd : decode M.2.1 pc = .ok (.aastore, 1)) (hsh : SH[a]? = some (.inl (2, n))) (hr : SH[r]? = some (.inl (0, k))) (hi : vp_in i n) (kk : WH l D base M (pc + 1) ls st (sR h a i.toNatClampNeg (some r)) Q) : WH l D base M pc ls (.ref r :: .int i :: .ref a :: st) h Q := wx_aast hd hsh hr hi kk
end WHR
end
section
def IsLane (b : Nat) : Prop := b = 2 ∨ b = 10
theorem la_spots {b : Nat} (hb : IsLane b) : SH[b + 1]? = some (.inl (0, 5)) := by rcases hb with rfl | rfl <;> rfl
theorem la_burns {b : Nat} (hb : IsLane b) : SH[b + 2]? = some (.inl (0, 5)) := by rcases hb with rfl | rfl <;> rfl
theorem la_kinds {b : Nat} (hb : IsLane b) : SH[b + 3]? = some (.inl (0, 5)) := by rcases hb with rfl | rfl <;> rfl
theorem la_paid {b : Nat} (hb : IsLane b) : SH[b + 4]? = some (.inl (0, 5)) := by rcases hb with rfl | rfl <;> rfl
theorem la_seats {b : Nat} (hb : IsLane b) : SH[b + 5]? = some (.inl (0, 6)) := by rcases hb with rfl | rfl <;> rfl
theorem la_sorts {b : Nat} (hb : IsLane b) : SH[b + 6]? = some (.inl (0, 6)) := by rcases hb with rfl | rfl <;> rfl
theorem la_dues {b : Nat} (hb : IsLane b) : SH[b + 7]? = some (.inl (0, 5)) := by rcases hb with rfl | rfl <;> rfl
section LNK
variable {l : Launch} {D : va_G} {base : Nat} {M : MI} {pc : Nat} {ls : List (Option Value)} {st : List Value} {h : Hp} {Q : Hp → Option Value → Prop}
theorem fl_Ln_9 : Cond.fieldLink "LampMoths$Lane" 9 "LampMoths$Lane" "spots" "[I" ∈ lw_gt := gt_at 70 (by decide +kernel) rfl
theorem gf_Ln_9 {b : Nat} (hb : IsLane b) (ho : M.1.cls = "LampMoths$Lane") (hd : decode M.2.1 pc = .ok (.getfield 9, 3)) (k : WH l D base M (pc + 3) ls (.ref (b + 1) :: st) h Q) : WH l D base M pc ls (.ref b :: st) h Q := by
  rcases hb with rfl | rfl <;> exact wx_get (ci := 0) (k := 0) hd rfl rfl ig_Ln (by decide) (show Cond.fieldLink M.1.cls 9 (T_Ln 0).1 (T_Ln 0).2.1 (T_Ln 0).2.2.1 ∈ lw_gt by rw [ho]; exact fl_Ln_9) rfl (fun _ => rfl) k
theorem fl_Lm_105 : Cond.fieldLink "LampMoths" 105 "LampMoths$Lane" "spots" "[I" ∈ lw_gt := gt_at 71 (by decide +kernel) rfl
theorem gf_Lm_105 {b : Nat} (hb : IsLane b) (ho : M.1.cls = "LampMoths") (hd : decode M.2.1 pc = .ok (.getfield 105, 3)) (k : WH l D base M (pc + 3) ls (.ref (b + 1) :: st) h Q) : WH l D base M pc ls (.ref b :: st) h Q := by
  rcases hb with rfl | rfl <;> exact wx_get (ci := 0) (k := 0) hd rfl rfl ig_Ln (by decide) (show Cond.fieldLink M.1.cls 105 (T_Ln 0).1 (T_Ln 0).2.1 (T_Ln 0).2.2.1 ∈ lw_gt by rw [ho]; exact fl_Lm_105) rfl (fun _ => rfl) k
theorem fl_Ln_15 : Cond.fieldLink "LampMoths$Lane" 15 "LampMoths$Lane" "burns" "[I" ∈ lw_gt := gt_at 72 (by decide +kernel) rfl
theorem gf_Ln_15 {b : Nat} (hb : IsLane b) (ho : M.1.cls = "LampMoths$Lane") (hd : decode M.2.1 pc = .ok (.getfield 15, 3)) (k : WH l D base M (pc + 3) ls (.ref (b + 2) :: st) h Q) : WH l D base M pc ls (.ref b :: st) h Q := by
  rcases hb with rfl | rfl <;> exact wx_get (ci := 0) (k := 1) hd rfl rfl ig_Ln (by decide) (show Cond.fieldLink M.1.cls 15 (T_Ln 1).1 (T_Ln 1).2.1 (T_Ln 1).2.2.1 ∈ lw_gt by rw [ho]; exact fl_Ln_15) rfl (fun _ => rfl) k
theorem fl_Lm_108 : Cond.fieldLink "LampMoths" 108 "LampMoths$Lane" "burns" "[I" ∈ lw_gt := gt_at 73 (by decide +kernel) rfl
theorem gf_Lm_108 {b : Nat} (hb : IsLane b) (ho : M.1.cls = "LampMoths") (hd : decode M.2.1 pc = .ok (.getfield 108, 3)) (k : WH l D base M (pc + 3) ls (.ref (b + 2) :: st) h Q) : WH l D base M pc ls (.ref b :: st) h Q := by
  rcases hb with rfl | rfl <;> exact wx_get (ci := 0) (k := 1) hd rfl rfl ig_Ln (by decide) (show Cond.fieldLink M.1.cls 108 (T_Ln 1).1 (T_Ln 1).2.1 (T_Ln 1).2.2.1 ∈ lw_gt by rw [ho]; exact fl_Lm_108) rfl (fun _ => rfl) k
theorem fl_Ln_18 : Cond.fieldLink "LampMoths$Lane" 18 "LampMoths$Lane" "kinds" "[I" ∈ lw_gt := gt_at 74 (by decide +kernel) rfl
theorem gf_Ln_18 {b : Nat} (hb : IsLane b) (ho : M.1.cls = "LampMoths$Lane") (hd : decode M.2.1 pc = .ok (.getfield 18, 3)) (k : WH l D base M (pc + 3) ls (.ref (b + 3) :: st) h Q) : WH l D base M pc ls (.ref b :: st) h Q := by
  rcases hb with rfl | rfl <;> exact wx_get (ci := 0) (k := 2) hd rfl rfl ig_Ln (by decide) (show Cond.fieldLink M.1.cls 18 (T_Ln 2).1 (T_Ln 2).2.1 (T_Ln 2).2.2.1 ∈ lw_gt by rw [ho]; exact fl_Ln_18) rfl (fun _ => rfl) k
theorem fl_Lm_111 : Cond.fieldLink "LampMoths" 111 "LampMoths$Lane" "kinds" "[I" ∈ lw_gt := gt_at 75 (by decide +kernel) rfl
theorem gf_Lm_111 {b : Nat} (hb : IsLane b) (ho : M.1.cls = "LampMoths") (hd : decode M.2.1 pc = .ok (.getfield 111, 3)) (k : WH l D base M (pc + 3) ls (.ref (b + 3) :: st) h Q) : WH l D base M pc ls (.ref b :: st) h Q := by
  rcases hb with rfl | rfl <;> exact wx_get (ci := 0) (k := 2) hd rfl rfl ig_Ln (by decide) (show Cond.fieldLink M.1.cls 111 (T_Ln 2).1 (T_Ln 2).2.1 (T_Ln 2).2.2.1 ∈ lw_gt by rw [ho]; exact fl_Lm_111) rfl (fun _ => rfl) k
theorem fl_Ln_21 : Cond.fieldLink "LampMoths$Lane" 21 "LampMoths$Lane" "paid" "[I" ∈ lw_gt := gt_at 76 (by decide +kernel) rfl
theorem gf_Ln_21 {b : Nat} (hb : IsLane b) (ho : M.1.cls = "LampMoths$Lane") (hd : decode M.2.1 pc = .ok (.getfield 21, 3)) (k : WH l D base M (pc + 3) ls (.ref (b + 4) :: st) h Q) : WH l D base M pc ls (.ref b :: st) h Q := by
  rcases hb with rfl | rfl <;> exact wx_get (ci := 0) (k := 3) hd rfl rfl ig_Ln (by decide) (show Cond.fieldLink M.1.cls 21 (T_Ln 3).1 (T_Ln 3).2.1 (T_Ln 3).2.2.1 ∈ lw_gt by rw [ho]; exact fl_Ln_21) rfl (fun _ => rfl) k
theorem fl_Lm_118 : Cond.fieldLink "LampMoths" 118 "LampMoths$Lane" "paid" "[I" ∈ lw_gt := gt_at 77 (by decide +kernel) rfl
theorem gf_Lm_118 {b : Nat} (hb : IsLane b) (ho : M.1.cls = "LampMoths") (hd : decode M.2.1 pc = .ok (.getfield 118, 3)) (k : WH l D base M (pc + 3) ls (.ref (b + 4) :: st) h Q) : WH l D base M pc ls (.ref b :: st) h Q := by
  rcases hb with rfl | rfl <;> exact wx_get (ci := 0) (k := 3) hd rfl rfl ig_Ln (by decide) (show Cond.fieldLink M.1.cls 118 (T_Ln 3).1 (T_Ln 3).2.1 (T_Ln 3).2.2.1 ∈ lw_gt by rw [ho]; exact fl_Lm_118) rfl (fun _ => rfl) k
theorem fl_Ln_24 : Cond.fieldLink "LampMoths$Lane" 24 "LampMoths$Lane" "seats" "[I" ∈ lw_gt := gt_at 78 (by decide +kernel) rfl
theorem gf_Ln_24 {b : Nat} (hb : IsLane b) (ho : M.1.cls = "LampMoths$Lane") (hd : decode M.2.1 pc = .ok (.getfield 24, 3)) (k : WH l D base M (pc + 3) ls (.ref (b + 5) :: st) h Q) : WH l D base M pc ls (.ref b :: st) h Q := by
  rcases hb with rfl | rfl <;> exact wx_get (ci := 0) (k := 4) hd rfl rfl ig_Ln (by decide) (show Cond.fieldLink M.1.cls 24 (T_Ln 4).1 (T_Ln 4).2.1 (T_Ln 4).2.2.1 ∈ lw_gt by rw [ho]; exact fl_Ln_24) rfl (fun _ => rfl) k
theorem fl_Lm_130 : Cond.fieldLink "LampMoths" 130 "LampMoths$Lane" "seats" "[I" ∈ lw_gt := gt_at 79 (by decide +kernel) rfl
theorem gf_Lm_130 {b : Nat} (hb : IsLane b) (ho : M.1.cls = "LampMoths") (hd : decode M.2.1 pc = .ok (.getfield 130, 3)) (k : WH l D base M (pc + 3) ls (.ref (b + 5) :: st) h Q) : WH l D base M pc ls (.ref b :: st) h Q := by
  rcases hb with rfl | rfl <;> exact wx_get (ci := 0) (k := 4) hd rfl rfl ig_Ln (by decide) (show Cond.fieldLink M.1.cls 130 (T_Ln 4).1 (T_Ln 4).2.1 (T_Ln 4).2.2.1 ∈ lw_gt by rw [ho]; exact fl_Lm_130) rfl (fun _ => rfl) k
theorem fl_Ln_27 : Cond.fieldLink "LampMoths$Lane" 27 "LampMoths$Lane" "sorts" "[I" ∈ lw_gt := gt_at 80 (by decide +kernel) rfl
theorem gf_Ln_27 {b : Nat} (hb : IsLane b) (ho : M.1.cls = "LampMoths$Lane") (hd : decode M.2.1 pc = .ok (.getfield 27, 3)) (k : WH l D base M (pc + 3) ls (.ref (b + 6) :: st) h Q) : WH l D base M pc ls (.ref b :: st) h Q := by
  rcases hb with rfl | rfl <;> exact wx_get (ci := 0) (k := 5) hd rfl rfl ig_Ln (by decide) (show Cond.fieldLink M.1.cls 27 (T_Ln 5).1 (T_Ln 5).2.1 (T_Ln 5).2.2.1 ∈ lw_gt by rw [ho]; exact fl_Ln_27) rfl (fun _ => rfl) k
theorem fl_Lm_133 : Cond.fieldLink "LampMoths" 133 "LampMoths$Lane" "sorts" "[I" ∈ lw_gt := gt_at 81 (by decide +kernel) rfl
theorem gf_Lm_133 {b : Nat} (hb : IsLane b) (ho : M.1.cls = "LampMoths") (hd : decode M.2.1 pc = .ok (.getfield 133, 3)) (k : WH l D base M (pc + 3) ls (.ref (b + 6) :: st) h Q) : WH l D base M pc ls (.ref b :: st) h Q := by
  rcases hb with rfl | rfl <;> exact wx_get (ci := 0) (k := 5) hd rfl rfl ig_Ln (by decide) (show Cond.fieldLink M.1.cls 133 (T_Ln 5).1 (T_Ln 5).2.1 (T_Ln 5).2.2.1 ∈ lw_gt by rw [ho]; exact fl_Lm_133) rfl (fun _ => rfl) k
theorem fl_Ln_30 : Cond.fieldLink "LampMoths$Lane" 30 "LampMoths$Lane" "windows" "I" ∈ lw_gt := gt_at 82 (by decide +kernel) rfl
theorem gf_Ln_30 {b : Nat} (hb : IsLane b) (ho : M.1.cls = "LampMoths$Lane") (hd : decode M.2.1 pc = .ok (.getfield 30, 3)) (k : WH l D base M (pc + 3) ls (.int (gI h b 6) :: st) h Q) : WH l D base M pc ls (.ref b :: st) h Q := by
  rcases hb with rfl | rfl <;> exact wx_get (ci := 0) (k := 6) hd rfl rfl ig_Ln (by decide) (show Cond.fieldLink M.1.cls 30 (T_Ln 6).1 (T_Ln 6).2.1 (T_Ln 6).2.2.1 ∈ lw_gt by rw [ho]; exact fl_Ln_30) rfl (fun _ => rfl) k
theorem pf_Ln_30 {b : Nat} (hb : IsLane b) {v : Int32} (ho : M.1.cls = "LampMoths$Lane") (hd : decode M.2.1 pc = .ok (.putfield 30, 3)) (k : WH l D base M (pc + 3) ls st (sI h b 6 v) Q) : WH l D base M pc ls (.int v :: .ref b :: st) h Q := by
  rcases hb with rfl | rfl <;> exact wx_putI (ci := 0) (k := 6) hd rfl rfl ig_Ln t_Ln t_Ln_ok n_Ln (by decide) (show Cond.fieldLink M.1.cls 30 (T_Ln 6).1 (T_Ln 6).2.1 (T_Ln 6).2.2.1 ∈ lw_gt by rw [ho]; exact fl_Ln_30) rfl (by decide +kernel) rfl k
theorem fl_Lm_76 : Cond.fieldLink "LampMoths" 76 "LampMoths$Lane" "windows" "I" ∈ lw_gt := gt_at 83 (by decide +kernel) rfl
theorem gf_Lm_76 {b : Nat} (hb : IsLane b) (ho : M.1.cls = "LampMoths") (hd : decode M.2.1 pc = .ok (.getfield 76, 3)) (k : WH l D base M (pc + 3) ls (.int (gI h b 6) :: st) h Q) : WH l D base M pc ls (.ref b :: st) h Q := by
  rcases hb with rfl | rfl <;> exact wx_get (ci := 0) (k := 6) hd rfl rfl ig_Ln (by decide) (show Cond.fieldLink M.1.cls 76 (T_Ln 6).1 (T_Ln 6).2.1 (T_Ln 6).2.2.1 ∈ lw_gt by rw [ho]; exact fl_Lm_76) rfl (fun _ => rfl) k
theorem pf_Lm_76 {b : Nat} (hb : IsLane b) {v : Int32} (ho : M.1.cls = "LampMoths") (hd : decode M.2.1 pc = .ok (.putfield 76, 3)) (k : WH l D base M (pc + 3) ls st (sI h b 6 v) Q) : WH l D base M pc ls (.int v :: .ref b :: st) h Q := by
  rcases hb with rfl | rfl <;> exact wx_putI (ci := 0) (k := 6) hd rfl rfl ig_Ln t_Ln t_Ln_ok n_Ln (by decide) (show Cond.fieldLink M.1.cls 76 (T_Ln 6).1 (T_Ln 6).2.1 (T_Ln 6).2.2.1 ∈ lw_gt by rw [ho]; exact fl_Lm_76) rfl (by decide +kernel) rfl k
theorem fl_Rd_37 : Cond.fieldLink "LampMoths$Reader" 37 "LampMoths$Lane" "windows" "I" ∈ lw_gt := gt_at 84 (by decide +kernel) rfl
theorem gf_Rd_37 {b : Nat} (hb : IsLane b) (ho : M.1.cls = "LampMoths$Reader") (hd : decode M.2.1 pc = .ok (.getfield 37, 3)) (k : WH l D base M (pc + 3) ls (.int (gI h b 6) :: st) h Q) : WH l D base M pc ls (.ref b :: st) h Q := by
  rcases hb with rfl | rfl <;> exact wx_get (ci := 0) (k := 6) hd rfl rfl ig_Ln (by decide) (show Cond.fieldLink M.1.cls 37 (T_Ln 6).1 (T_Ln 6).2.1 (T_Ln 6).2.2.1 ∈ lw_gt by rw [ho]; exact fl_Rd_37) rfl (fun _ => rfl) k
theorem pf_Rd_37 {b : Nat} (hb : IsLane b) {v : Int32} (ho : M.1.cls = "LampMoths$Reader") (hd : decode M.2.1 pc = .ok (.putfield 37, 3)) (k : WH l D base M (pc + 3) ls st (sI h b 6 v) Q) : WH l D base M pc ls (.int v :: .ref b :: st) h Q := by
  rcases hb with rfl | rfl <;> exact wx_putI (ci := 0) (k := 6) hd rfl rfl ig_Ln t_Ln t_Ln_ok n_Ln (by decide) (show Cond.fieldLink M.1.cls 37 (T_Ln 6).1 (T_Ln 6).2.1 (T_Ln 6).2.2.1 ∈ lw_gt by rw [ho]; exact fl_Rd_37) rfl (by decide +kernel) rfl k
theorem fl_Ln_34 : Cond.fieldLink "LampMoths$Lane" 34 "LampMoths$Lane" "moths" "I" ∈ lw_gt := gt_at 85 (by decide +kernel) rfl
theorem gf_Ln_34 {b : Nat} (hb : IsLane b) (ho : M.1.cls = "LampMoths$Lane") (hd : decode M.2.1 pc = .ok (.getfield 34, 3)) (k : WH l D base M (pc + 3) ls (.int (gI h b 7) :: st) h Q) : WH l D base M pc ls (.ref b :: st) h Q := by
  rcases hb with rfl | rfl <;> exact wx_get (ci := 0) (k := 7) hd rfl rfl ig_Ln (by decide) (show Cond.fieldLink M.1.cls 34 (T_Ln 7).1 (T_Ln 7).2.1 (T_Ln 7).2.2.1 ∈ lw_gt by rw [ho]; exact fl_Ln_34) rfl (fun _ => rfl) k
theorem pf_Ln_34 {b : Nat} (hb : IsLane b) {v : Int32} (ho : M.1.cls = "LampMoths$Lane") (hd : decode M.2.1 pc = .ok (.putfield 34, 3)) (k : WH l D base M (pc + 3) ls st (sI h b 7 v) Q) : WH l D base M pc ls (.int v :: .ref b :: st) h Q := by
  rcases hb with rfl | rfl <;> exact wx_putI (ci := 0) (k := 7) hd rfl rfl ig_Ln t_Ln t_Ln_ok n_Ln (by decide) (show Cond.fieldLink M.1.cls 34 (T_Ln 7).1 (T_Ln 7).2.1 (T_Ln 7).2.2.1 ∈ lw_gt by rw [ho]; exact fl_Ln_34) rfl (by decide +kernel) rfl k
theorem fl_Lm_79 : Cond.fieldLink "LampMoths" 79 "LampMoths$Lane" "moths" "I" ∈ lw_gt := gt_at 86 (by decide +kernel) rfl
theorem gf_Lm_79 {b : Nat} (hb : IsLane b) (ho : M.1.cls = "LampMoths") (hd : decode M.2.1 pc = .ok (.getfield 79, 3)) (k : WH l D base M (pc + 3) ls (.int (gI h b 7) :: st) h Q) : WH l D base M pc ls (.ref b :: st) h Q := by
  rcases hb with rfl | rfl <;> exact wx_get (ci := 0) (k := 7) hd rfl rfl ig_Ln (by decide) (show Cond.fieldLink M.1.cls 79 (T_Ln 7).1 (T_Ln 7).2.1 (T_Ln 7).2.2.1 ∈ lw_gt by rw [ho]; exact fl_Lm_79) rfl (fun _ => rfl) k
theorem pf_Lm_79 {b : Nat} (hb : IsLane b) {v : Int32} (ho : M.1.cls = "LampMoths") (hd : decode M.2.1 pc = .ok (.putfield 79, 3)) (k : WH l D base M (pc + 3) ls st (sI h b 7 v) Q) : WH l D base M pc ls (.int v :: .ref b :: st) h Q := by
  rcases hb with rfl | rfl <;> exact wx_putI (ci := 0) (k := 7) hd rfl rfl ig_Ln t_Ln t_Ln_ok n_Ln (by decide) (show Cond.fieldLink M.1.cls 79 (T_Ln 7).1 (T_Ln 7).2.1 (T_Ln 7).2.2.1 ∈ lw_gt by rw [ho]; exact fl_Lm_79) rfl (by decide +kernel) rfl k
theorem fl_Rd_40 : Cond.fieldLink "LampMoths$Reader" 40 "LampMoths$Lane" "moths" "I" ∈ lw_gt := gt_at 87 (by decide +kernel) rfl
theorem gf_Rd_40 {b : Nat} (hb : IsLane b) (ho : M.1.cls = "LampMoths$Reader") (hd : decode M.2.1 pc = .ok (.getfield 40, 3)) (k : WH l D base M (pc + 3) ls (.int (gI h b 7) :: st) h Q) : WH l D base M pc ls (.ref b :: st) h Q := by
  rcases hb with rfl | rfl <;> exact wx_get (ci := 0) (k := 7) hd rfl rfl ig_Ln (by decide) (show Cond.fieldLink M.1.cls 40 (T_Ln 7).1 (T_Ln 7).2.1 (T_Ln 7).2.2.1 ∈ lw_gt by rw [ho]; exact fl_Rd_40) rfl (fun _ => rfl) k
theorem pf_Rd_40 {b : Nat} (hb : IsLane b) {v : Int32} (ho : M.1.cls = "LampMoths$Reader") (hd : decode M.2.1 pc = .ok (.putfield 40, 3)) (k : WH l D base M (pc + 3) ls st (sI h b 7 v) Q) : WH l D base M pc ls (.int v :: .ref b :: st) h Q := by
  rcases hb with rfl | rfl <;> exact wx_putI (ci := 0) (k := 7) hd rfl rfl ig_Ln t_Ln t_Ln_ok n_Ln (by decide) (show Cond.fieldLink M.1.cls 40 (T_Ln 7).1 (T_Ln 7).2.1 (T_Ln 7).2.2.1 ∈ lw_gt by rw [ho]; exact fl_Rd_40) rfl (by decide +kernel) rfl k
theorem fl_Ln_37 : Cond.fieldLink "LampMoths$Lane" 37 "LampMoths$Lane" "wind" "I" ∈ lw_gt := gt_at 88 (by decide +kernel) rfl
theorem gf_Ln_37 {b : Nat} (hb : IsLane b) (ho : M.1.cls = "LampMoths$Lane") (hd : decode M.2.1 pc = .ok (.getfield 37, 3)) (k : WH l D base M (pc + 3) ls (.int (gI h b 8) :: st) h Q) : WH l D base M pc ls (.ref b :: st) h Q := by
  rcases hb with rfl | rfl <;> exact wx_get (ci := 0) (k := 8) hd rfl rfl ig_Ln (by decide) (show Cond.fieldLink M.1.cls 37 (T_Ln 8).1 (T_Ln 8).2.1 (T_Ln 8).2.2.1 ∈ lw_gt by rw [ho]; exact fl_Ln_37) rfl (fun _ => rfl) k
theorem pf_Ln_37 {b : Nat} (hb : IsLane b) {v : Int32} (ho : M.1.cls = "LampMoths$Lane") (hd : decode M.2.1 pc = .ok (.putfield 37, 3)) (k : WH l D base M (pc + 3) ls st (sI h b 8 v) Q) : WH l D base M pc ls (.int v :: .ref b :: st) h Q := by
  rcases hb with rfl | rfl <;> exact wx_putI (ci := 0) (k := 8) hd rfl rfl ig_Ln t_Ln t_Ln_ok n_Ln (by decide) (show Cond.fieldLink M.1.cls 37 (T_Ln 8).1 (T_Ln 8).2.1 (T_Ln 8).2.2.1 ∈ lw_gt by rw [ho]; exact fl_Ln_37) rfl (by decide +kernel) rfl k
theorem fl_Lm_82 : Cond.fieldLink "LampMoths" 82 "LampMoths$Lane" "wind" "I" ∈ lw_gt := gt_at 89 (by decide +kernel) rfl
theorem gf_Lm_82 {b : Nat} (hb : IsLane b) (ho : M.1.cls = "LampMoths") (hd : decode M.2.1 pc = .ok (.getfield 82, 3)) (k : WH l D base M (pc + 3) ls (.int (gI h b 8) :: st) h Q) : WH l D base M pc ls (.ref b :: st) h Q := by
  rcases hb with rfl | rfl <;> exact wx_get (ci := 0) (k := 8) hd rfl rfl ig_Ln (by decide) (show Cond.fieldLink M.1.cls 82 (T_Ln 8).1 (T_Ln 8).2.1 (T_Ln 8).2.2.1 ∈ lw_gt by rw [ho]; exact fl_Lm_82) rfl (fun _ => rfl) k
theorem pf_Lm_82 {b : Nat} (hb : IsLane b) {v : Int32} (ho : M.1.cls = "LampMoths") (hd : decode M.2.1 pc = .ok (.putfield 82, 3)) (k : WH l D base M (pc + 3) ls st (sI h b 8 v) Q) : WH l D base M pc ls (.int v :: .ref b :: st) h Q := by
  rcases hb with rfl | rfl <;> exact wx_putI (ci := 0) (k := 8) hd rfl rfl ig_Ln t_Ln t_Ln_ok n_Ln (by decide) (show Cond.fieldLink M.1.cls 82 (T_Ln 8).1 (T_Ln 8).2.1 (T_Ln 8).2.2.1 ∈ lw_gt by rw [ho]; exact fl_Lm_82) rfl (by decide +kernel) rfl k
theorem fl_Rd_43 : Cond.fieldLink "LampMoths$Reader" 43 "LampMoths$Lane" "wind" "I" ∈ lw_gt := gt_at 90 (by decide +kernel) rfl
theorem gf_Rd_43 {b : Nat} (hb : IsLane b) (ho : M.1.cls = "LampMoths$Reader") (hd : decode M.2.1 pc = .ok (.getfield 43, 3)) (k : WH l D base M (pc + 3) ls (.int (gI h b 8) :: st) h Q) : WH l D base M pc ls (.ref b :: st) h Q := by
  rcases hb with rfl | rfl <;> exact wx_get (ci := 0) (k := 8) hd rfl rfl ig_Ln (by decide) (show Cond.fieldLink M.1.cls 43 (T_Ln 8).1 (T_Ln 8).2.1 (T_Ln 8).2.2.1 ∈ lw_gt by rw [ho]; exact fl_Rd_43) rfl (fun _ => rfl) k
theorem pf_Rd_43 {b : Nat} (hb : IsLane b) {v : Int32} (ho : M.1.cls = "LampMoths$Reader") (hd : decode M.2.1 pc = .ok (.putfield 43, 3)) (k : WH l D base M (pc + 3) ls st (sI h b 8 v) Q) : WH l D base M pc ls (.int v :: .ref b :: st) h Q := by
  rcases hb with rfl | rfl <;> exact wx_putI (ci := 0) (k := 8) hd rfl rfl ig_Ln t_Ln t_Ln_ok n_Ln (by decide) (show Cond.fieldLink M.1.cls 43 (T_Ln 8).1 (T_Ln 8).2.1 (T_Ln 8).2.2.1 ∈ lw_gt by rw [ho]; exact fl_Rd_43) rfl (by decide +kernel) rfl k
theorem fl_Ln_40 : Cond.fieldLink "LampMoths$Lane" 40 "LampMoths$Lane" "honey" "I" ∈ lw_gt := gt_at 91 (by decide +kernel) rfl
theorem gf_Ln_40 {b : Nat} (hb : IsLane b) (ho : M.1.cls = "LampMoths$Lane") (hd : decode M.2.1 pc = .ok (.getfield 40, 3)) (k : WH l D base M (pc + 3) ls (.int (gI h b 9) :: st) h Q) : WH l D base M pc ls (.ref b :: st) h Q := by
  rcases hb with rfl | rfl <;> exact wx_get (ci := 0) (k := 9) hd rfl rfl ig_Ln (by decide) (show Cond.fieldLink M.1.cls 40 (T_Ln 9).1 (T_Ln 9).2.1 (T_Ln 9).2.2.1 ∈ lw_gt by rw [ho]; exact fl_Ln_40) rfl (fun _ => rfl) k
theorem pf_Ln_40 {b : Nat} (hb : IsLane b) {v : Int32} (ho : M.1.cls = "LampMoths$Lane") (hd : decode M.2.1 pc = .ok (.putfield 40, 3)) (k : WH l D base M (pc + 3) ls st (sI h b 9 v) Q) : WH l D base M pc ls (.int v :: .ref b :: st) h Q := by
  rcases hb with rfl | rfl <;> exact wx_putI (ci := 0) (k := 9) hd rfl rfl ig_Ln t_Ln t_Ln_ok n_Ln (by decide) (show Cond.fieldLink M.1.cls 40 (T_Ln 9).1 (T_Ln 9).2.1 (T_Ln 9).2.2.1 ∈ lw_gt by rw [ho]; exact fl_Ln_40) rfl (by decide +kernel) rfl k
theorem fl_Lm_85 : Cond.fieldLink "LampMoths" 85 "LampMoths$Lane" "honey" "I" ∈ lw_gt := gt_at 92 (by decide +kernel) rfl
theorem gf_Lm_85 {b : Nat} (hb : IsLane b) (ho : M.1.cls = "LampMoths") (hd : decode M.2.1 pc = .ok (.getfield 85, 3)) (k : WH l D base M (pc + 3) ls (.int (gI h b 9) :: st) h Q) : WH l D base M pc ls (.ref b :: st) h Q := by
  rcases hb with rfl | rfl <;> exact wx_get (ci := 0) (k := 9) hd rfl rfl ig_Ln (by decide) (show Cond.fieldLink M.1.cls 85 (T_Ln 9).1 (T_Ln 9).2.1 (T_Ln 9).2.2.1 ∈ lw_gt by rw [ho]; exact fl_Lm_85) rfl (fun _ => rfl) k
theorem pf_Lm_85 {b : Nat} (hb : IsLane b) {v : Int32} (ho : M.1.cls = "LampMoths") (hd : decode M.2.1 pc = .ok (.putfield 85, 3)) (k : WH l D base M (pc + 3) ls st (sI h b 9 v) Q) : WH l D base M pc ls (.int v :: .ref b :: st) h Q := by
  rcases hb with rfl | rfl <;> exact wx_putI (ci := 0) (k := 9) hd rfl rfl ig_Ln t_Ln t_Ln_ok n_Ln (by decide) (show Cond.fieldLink M.1.cls 85 (T_Ln 9).1 (T_Ln 9).2.1 (T_Ln 9).2.2.1 ∈ lw_gt by rw [ho]; exact fl_Lm_85) rfl (by decide +kernel) rfl k
theorem fl_Rd_50 : Cond.fieldLink "LampMoths$Reader" 50 "LampMoths$Lane" "honey" "I" ∈ lw_gt := gt_at 93 (by decide +kernel) rfl
theorem gf_Rd_50 {b : Nat} (hb : IsLane b) (ho : M.1.cls = "LampMoths$Reader") (hd : decode M.2.1 pc = .ok (.getfield 50, 3)) (k : WH l D base M (pc + 3) ls (.int (gI h b 9) :: st) h Q) : WH l D base M pc ls (.ref b :: st) h Q := by
  rcases hb with rfl | rfl <;> exact wx_get (ci := 0) (k := 9) hd rfl rfl ig_Ln (by decide) (show Cond.fieldLink M.1.cls 50 (T_Ln 9).1 (T_Ln 9).2.1 (T_Ln 9).2.2.1 ∈ lw_gt by rw [ho]; exact fl_Rd_50) rfl (fun _ => rfl) k
theorem pf_Rd_50 {b : Nat} (hb : IsLane b) {v : Int32} (ho : M.1.cls = "LampMoths$Reader") (hd : decode M.2.1 pc = .ok (.putfield 50, 3)) (k : WH l D base M (pc + 3) ls st (sI h b 9 v) Q) : WH l D base M pc ls (.int v :: .ref b :: st) h Q := by
  rcases hb with rfl | rfl <;> exact wx_putI (ci := 0) (k := 9) hd rfl rfl ig_Ln t_Ln t_Ln_ok n_Ln (by decide) (show Cond.fieldLink M.1.cls 50 (T_Ln 9).1 (T_Ln 9).2.1 (T_Ln 9).2.2.1 ∈ lw_gt by rw [ho]; exact fl_Rd_50) rfl (by decide +kernel) rfl k
theorem fl_Ln_43 : Cond.fieldLink "LampMoths$Lane" 43 "LampMoths$Lane" "nights" "I" ∈ lw_gt := gt_at 94 (by decide +kernel) rfl
theorem gf_Ln_43 {b : Nat} (hb : IsLane b) (ho : M.1.cls = "LampMoths$Lane") (hd : decode M.2.1 pc = .ok (.getfield 43, 3)) (k : WH l D base M (pc + 3) ls (.int (gI h b 10) :: st) h Q) : WH l D base M pc ls (.ref b :: st) h Q := by
  rcases hb with rfl | rfl <;> exact wx_get (ci := 0) (k := 10) hd rfl rfl ig_Ln (by decide) (show Cond.fieldLink M.1.cls 43 (T_Ln 10).1 (T_Ln 10).2.1 (T_Ln 10).2.2.1 ∈ lw_gt by rw [ho]; exact fl_Ln_43) rfl (fun _ => rfl) k
theorem pf_Ln_43 {b : Nat} (hb : IsLane b) {v : Int32} (ho : M.1.cls = "LampMoths$Lane") (hd : decode M.2.1 pc = .ok (.putfield 43, 3)) (k : WH l D base M (pc + 3) ls st (sI h b 10 v) Q) : WH l D base M pc ls (.int v :: .ref b :: st) h Q := by
  rcases hb with rfl | rfl <;> exact wx_putI (ci := 0) (k := 10) hd rfl rfl ig_Ln t_Ln t_Ln_ok n_Ln (by decide) (show Cond.fieldLink M.1.cls 43 (T_Ln 10).1 (T_Ln 10).2.1 (T_Ln 10).2.2.1 ∈ lw_gt by rw [ho]; exact fl_Ln_43) rfl (by decide +kernel) rfl k
theorem fl_Lm_88 : Cond.fieldLink "LampMoths" 88 "LampMoths$Lane" "nights" "I" ∈ lw_gt := gt_at 95 (by decide +kernel) rfl
theorem gf_Lm_88 {b : Nat} (hb : IsLane b) (ho : M.1.cls = "LampMoths") (hd : decode M.2.1 pc = .ok (.getfield 88, 3)) (k : WH l D base M (pc + 3) ls (.int (gI h b 10) :: st) h Q) : WH l D base M pc ls (.ref b :: st) h Q := by
  rcases hb with rfl | rfl <;> exact wx_get (ci := 0) (k := 10) hd rfl rfl ig_Ln (by decide) (show Cond.fieldLink M.1.cls 88 (T_Ln 10).1 (T_Ln 10).2.1 (T_Ln 10).2.2.1 ∈ lw_gt by rw [ho]; exact fl_Lm_88) rfl (fun _ => rfl) k
theorem pf_Lm_88 {b : Nat} (hb : IsLane b) {v : Int32} (ho : M.1.cls = "LampMoths") (hd : decode M.2.1 pc = .ok (.putfield 88, 3)) (k : WH l D base M (pc + 3) ls st (sI h b 10 v) Q) : WH l D base M pc ls (.int v :: .ref b :: st) h Q := by
  rcases hb with rfl | rfl <;> exact wx_putI (ci := 0) (k := 10) hd rfl rfl ig_Ln t_Ln t_Ln_ok n_Ln (by decide) (show Cond.fieldLink M.1.cls 88 (T_Ln 10).1 (T_Ln 10).2.1 (T_Ln 10).2.2.1 ∈ lw_gt by rw [ho]; exact fl_Lm_88) rfl (by decide +kernel) rfl k
theorem fl_Ln_46 : Cond.fieldLink "LampMoths$Lane" 46 "LampMoths$Lane" "dues" "[I" ∈ lw_gt := gt_at 96 (by decide +kernel) rfl
theorem gf_Ln_46 {b : Nat} (hb : IsLane b) (ho : M.1.cls = "LampMoths$Lane") (hd : decode M.2.1 pc = .ok (.getfield 46, 3)) (k : WH l D base M (pc + 3) ls (.ref (b + 7) :: st) h Q) : WH l D base M pc ls (.ref b :: st) h Q := by
  rcases hb with rfl | rfl <;> exact wx_get (ci := 0) (k := 11) hd rfl rfl ig_Ln (by decide) (show Cond.fieldLink M.1.cls 46 (T_Ln 11).1 (T_Ln 11).2.1 (T_Ln 11).2.2.1 ∈ lw_gt by rw [ho]; exact fl_Ln_46) rfl (fun _ => rfl) k
theorem fl_Rd_11 : Cond.fieldLink "LampMoths$Reader" 11 "LampMoths$Reader" "due" "I" ∈ lw_gt := gt_at 129 (by decide +kernel) rfl
theorem gf_Rd_11 (ho : M.1.cls = "LampMoths$Reader") (hd : decode M.2.1 pc = .ok (.getfield 11, 3)) (k : WH l D base M (pc + 3) ls (.int (gI h 18 0) :: st) h Q) : WH l D base M pc ls (.ref 18 :: st) h Q := by
  exact wx_get (ci := 1) (k := 0) hd rfl rfl ig_Rd (by decide) (show Cond.fieldLink M.1.cls 11 (T_Rd 0).1 (T_Rd 0).2.1 (T_Rd 0).2.2.1 ∈ lw_gt by rw [ho]; exact fl_Rd_11) rfl (fun _ => rfl) k
theorem pf_Rd_11 {v : Int32} (ho : M.1.cls = "LampMoths$Reader") (hd : decode M.2.1 pc = .ok (.putfield 11, 3)) (k : WH l D base M (pc + 3) ls st (sI h 18 0 v) Q) : WH l D base M pc ls (.int v :: .ref 18 :: st) h Q := by
  exact wx_putI (ci := 1) (k := 0) hd rfl rfl ig_Rd t_Rd t_Rd_ok n_Rd (by decide) (show Cond.fieldLink M.1.cls 11 (T_Rd 0).1 (T_Rd 0).2.1 (T_Rd 0).2.2.1 ∈ lw_gt by rw [ho]; exact fl_Rd_11) rfl (by decide +kernel) rfl k
theorem fl_Rd_15 : Cond.fieldLink "LampMoths$Reader" 15 "LampMoths$Reader" "place" "I" ∈ lw_gt := gt_at 130 (by decide +kernel) rfl
theorem gf_Rd_15 (ho : M.1.cls = "LampMoths$Reader") (hd : decode M.2.1 pc = .ok (.getfield 15, 3)) (k : WH l D base M (pc + 3) ls (.int (gI h 18 1) :: st) h Q) : WH l D base M pc ls (.ref 18 :: st) h Q := by
  exact wx_get (ci := 1) (k := 1) hd rfl rfl ig_Rd (by decide) (show Cond.fieldLink M.1.cls 15 (T_Rd 1).1 (T_Rd 1).2.1 (T_Rd 1).2.2.1 ∈ lw_gt by rw [ho]; exact fl_Rd_15) rfl (fun _ => rfl) k
theorem pf_Rd_15 {v : Int32} (ho : M.1.cls = "LampMoths$Reader") (hd : decode M.2.1 pc = .ok (.putfield 15, 3)) (k : WH l D base M (pc + 3) ls st (sI h 18 1 v) Q) : WH l D base M pc ls (.int v :: .ref 18 :: st) h Q := by
  exact wx_putI (ci := 1) (k := 1) hd rfl rfl ig_Rd t_Rd t_Rd_ok n_Rd (by decide) (show Cond.fieldLink M.1.cls 15 (T_Rd 1).1 (T_Rd 1).2.1 (T_Rd 1).2.2.1 ∈ lw_gt by rw [ho]; exact fl_Rd_15) rfl (by decide +kernel) rfl k
theorem fl_Rd_18 : Cond.fieldLink "LampMoths$Reader" 18 "LampMoths$Reader" "burns" "I" ∈ lw_gt := gt_at 131 (by decide +kernel) rfl
theorem gf_Rd_18 (ho : M.1.cls = "LampMoths$Reader") (hd : decode M.2.1 pc = .ok (.getfield 18, 3)) (k : WH l D base M (pc + 3) ls (.int (gI h 18 2) :: st) h Q) : WH l D base M pc ls (.ref 18 :: st) h Q := by
  exact wx_get (ci := 1) (k := 2) hd rfl rfl ig_Rd (by decide) (show Cond.fieldLink M.1.cls 18 (T_Rd 2).1 (T_Rd 2).2.1 (T_Rd 2).2.2.1 ∈ lw_gt by rw [ho]; exact fl_Rd_18) rfl (fun _ => rfl) k
theorem pf_Rd_18 {v : Int32} (ho : M.1.cls = "LampMoths$Reader") (hd : decode M.2.1 pc = .ok (.putfield 18, 3)) (k : WH l D base M (pc + 3) ls st (sI h 18 2 v) Q) : WH l D base M pc ls (.int v :: .ref 18 :: st) h Q := by
  exact wx_putI (ci := 1) (k := 2) hd rfl rfl ig_Rd t_Rd t_Rd_ok n_Rd (by decide) (show Cond.fieldLink M.1.cls 18 (T_Rd 2).1 (T_Rd 2).2.1 (T_Rd 2).2.2.1 ∈ lw_gt by rw [ho]; exact fl_Rd_18) rfl (by decide +kernel) rfl k
theorem fl_Lm_9 : Cond.fieldLink "LampMoths" 9 "LampMoths" "text" "[I" ∈ lw_gt := gt_at 141 (by decide +kernel) rfl
theorem gf_Lm_9 (ho : M.1.cls = "LampMoths") (hd : decode M.2.1 pc = .ok (.getfield 9, 3)) (k : WH l D base M (pc + 3) ls (.ref 1 :: st) h Q) : WH l D base M pc ls (.ref 0 :: st) h Q := by
  exact wx_get (ci := 2) (k := 0) hd rfl rfl ig_Lm (by decide) (show Cond.fieldLink M.1.cls 9 (T_Lm 0).1 (T_Lm 0).2.1 (T_Lm 0).2.2.1 ∈ lw_gt by rw [ho]; exact fl_Lm_9) rfl (fun _ => rfl) k
theorem fl_Lm_13 : Cond.fieldLink "LampMoths" 13 "LampMoths" "length" "I" ∈ lw_gt := gt_at 142 (by decide +kernel) rfl
theorem gf_Lm_13 (ho : M.1.cls = "LampMoths") (hd : decode M.2.1 pc = .ok (.getfield 13, 3)) (k : WH l D base M (pc + 3) ls (.int (gI h 0 1) :: st) h Q) : WH l D base M pc ls (.ref 0 :: st) h Q := by
  exact wx_get (ci := 2) (k := 1) hd rfl rfl ig_Lm (by decide) (show Cond.fieldLink M.1.cls 13 (T_Lm 1).1 (T_Lm 1).2.1 (T_Lm 1).2.2.1 ∈ lw_gt by rw [ho]; exact fl_Lm_13) rfl (fun _ => rfl) k
theorem pf_Lm_13 {v : Int32} (ho : M.1.cls = "LampMoths") (hd : decode M.2.1 pc = .ok (.putfield 13, 3)) (k : WH l D base M (pc + 3) ls st (sI h 0 1 v) Q) : WH l D base M pc ls (.int v :: .ref 0 :: st) h Q := by
  exact wx_putI (ci := 2) (k := 1) hd rfl rfl ig_Lm t_Lm t_Lm_ok n_Lm (by decide) (show Cond.fieldLink M.1.cls 13 (T_Lm 1).1 (T_Lm 1).2.1 (T_Lm 1).2.2.1 ∈ lw_gt by rw [ho]; exact fl_Lm_13) rfl (by decide +kernel) rfl k
theorem fl_Lm_20 : Cond.fieldLink "LampMoths" 20 "LampMoths" "now" "LLampMoths$Lane;" ∈ lw_gt := gt_at 143 (by decide +kernel) rfl
theorem gf_Lm_20 (ho : M.1.cls = "LampMoths") (hd : decode M.2.1 pc = .ok (.getfield 20, 3)) (k : WH l D base M (pc + 3) ls (.ref 2 :: st) h Q) : WH l D base M pc ls (.ref 0 :: st) h Q := by
  exact wx_get (ci := 2) (k := 2) hd rfl rfl ig_Lm (by decide) (show Cond.fieldLink M.1.cls 20 (T_Lm 2).1 (T_Lm 2).2.1 (T_Lm 2).2.2.1 ∈ lw_gt by rw [ho]; exact fl_Lm_20) rfl (fun _ => rfl) k
theorem fl_Lm_24 : Cond.fieldLink "LampMoths" 24 "LampMoths" "trial" "LLampMoths$Lane;" ∈ lw_gt := gt_at 144 (by decide +kernel) rfl
theorem gf_Lm_24 (ho : M.1.cls = "LampMoths") (hd : decode M.2.1 pc = .ok (.getfield 24, 3)) (k : WH l D base M (pc + 3) ls (.ref 10 :: st) h Q) : WH l D base M pc ls (.ref 0 :: st) h Q := by
  exact wx_get (ci := 2) (k := 3) hd rfl rfl ig_Lm (by decide) (show Cond.fieldLink M.1.cls 24 (T_Lm 3).1 (T_Lm 3).2.1 (T_Lm 3).2.2.1 ∈ lw_gt by rw [ho]; exact fl_Lm_24) rfl (fun _ => rfl) k
theorem fl_Lm_30 : Cond.fieldLink "LampMoths" 30 "LampMoths" "reader" "LLampMoths$Reader;" ∈ lw_gt := gt_at 145 (by decide +kernel) rfl
theorem gf_Lm_30 (ho : M.1.cls = "LampMoths") (hd : decode M.2.1 pc = .ok (.getfield 30, 3)) (k : WH l D base M (pc + 3) ls (.ref 18 :: st) h Q) : WH l D base M pc ls (.ref 0 :: st) h Q := by
  exact wx_get (ci := 2) (k := 4) hd rfl rfl ig_Lm (by decide) (show Cond.fieldLink M.1.cls 30 (T_Lm 4).1 (T_Lm 4).2.1 (T_Lm 4).2.2.1 ∈ lw_gt by rw [ho]; exact fl_Lm_30) rfl (fun _ => rfl) k
theorem fl_Lm_36 : Cond.fieldLink "LampMoths" 36 "LampMoths" "acts" "[[I" ∈ lw_gt := gt_at 146 (by decide +kernel) rfl
theorem gf_Lm_36 (ho : M.1.cls = "LampMoths") (hd : decode M.2.1 pc = .ok (.getfield 36, 3)) (k : WH l D base M (pc + 3) ls (.ref 19 :: st) h Q) : WH l D base M pc ls (.ref 0 :: st) h Q := by
  exact wx_get (ci := 2) (k := 5) hd rfl rfl ig_Lm (by decide) (show Cond.fieldLink M.1.cls 36 (T_Lm 5).1 (T_Lm 5).2.1 (T_Lm 5).2.2.1 ∈ lw_gt by rw [ho]; exact fl_Lm_36) rfl (fun _ => rfl) k
theorem fl_Lm_39 : Cond.fieldLink "LampMoths" 39 "LampMoths" "actsHeld" "I" ∈ lw_gt := gt_at 147 (by decide +kernel) rfl
theorem gf_Lm_39 (ho : M.1.cls = "LampMoths") (hd : decode M.2.1 pc = .ok (.getfield 39, 3)) (k : WH l D base M (pc + 3) ls (.int (gI h 0 6) :: st) h Q) : WH l D base M pc ls (.ref 0 :: st) h Q := by
  exact wx_get (ci := 2) (k := 6) hd rfl rfl ig_Lm (by decide) (show Cond.fieldLink M.1.cls 39 (T_Lm 6).1 (T_Lm 6).2.1 (T_Lm 6).2.2.1 ∈ lw_gt by rw [ho]; exact fl_Lm_39) rfl (fun _ => rfl) k
theorem pf_Lm_39 {v : Int32} (ho : M.1.cls = "LampMoths") (hd : decode M.2.1 pc = .ok (.putfield 39, 3)) (k : WH l D base M (pc + 3) ls st (sI h 0 6 v) Q) : WH l D base M pc ls (.int v :: .ref 0 :: st) h Q := by
  exact wx_putI (ci := 2) (k := 6) hd rfl rfl ig_Lm t_Lm t_Lm_ok n_Lm (by decide) (show Cond.fieldLink M.1.cls 39 (T_Lm 6).1 (T_Lm 6).2.1 (T_Lm 6).2.2.1 ∈ lw_gt by rw [ho]; exact fl_Lm_39) rfl (by decide +kernel) rfl k
theorem fl_Lm_42 : Cond.fieldLink "LampMoths" 42 "LampMoths" "slots" "[[I" ∈ lw_gt := gt_at 148 (by decide +kernel) rfl
theorem gf_Lm_42 (ho : M.1.cls = "LampMoths") (hd : decode M.2.1 pc = .ok (.getfield 42, 3)) (k : WH l D base M (pc + 3) ls (.ref 34 :: st) h Q) : WH l D base M pc ls (.ref 0 :: st) h Q := by
  exact wx_get (ci := 2) (k := 7) hd rfl rfl ig_Lm (by decide) (show Cond.fieldLink M.1.cls 42 (T_Lm 7).1 (T_Lm 7).2.1 (T_Lm 7).2.2.1 ∈ lw_gt by rw [ho]; exact fl_Lm_42) rfl (fun _ => rfl) k
theorem fl_Lm_45 : Cond.fieldLink "LampMoths" 45 "LampMoths" "slotUsed" "[Z" ∈ lw_gt := gt_at 149 (by decide +kernel) rfl
theorem gf_Lm_45 (ho : M.1.cls = "LampMoths") (hd : decode M.2.1 pc = .ok (.getfield 45, 3)) (k : WH l D base M (pc + 3) ls (.ref 37 :: st) h Q) : WH l D base M pc ls (.ref 0 :: st) h Q := by
  exact wx_get (ci := 2) (k := 8) hd rfl rfl ig_Lm (by decide) (show Cond.fieldLink M.1.cls 45 (T_Lm 8).1 (T_Lm 8).2.1 (T_Lm 8).2.2.1 ∈ lw_gt by rw [ho]; exact fl_Lm_45) rfl (fun _ => rfl) k
theorem fl_Lm_49 : Cond.fieldLink "LampMoths" 49 "LampMoths" "countedWindows" "[I" ∈ lw_gt := gt_at 150 (by decide +kernel) rfl
theorem gf_Lm_49 (ho : M.1.cls = "LampMoths") (hd : decode M.2.1 pc = .ok (.getfield 49, 3)) (k : WH l D base M (pc + 3) ls (.ref 38 :: st) h Q) : WH l D base M pc ls (.ref 0 :: st) h Q := by
  exact wx_get (ci := 2) (k := 9) hd rfl rfl ig_Lm (by decide) (show Cond.fieldLink M.1.cls 49 (T_Lm 9).1 (T_Lm 9).2.1 (T_Lm 9).2.2.1 ∈ lw_gt by rw [ho]; exact fl_Lm_49) rfl (fun _ => rfl) k
theorem fl_Lm_52 : Cond.fieldLink "LampMoths" 52 "LampMoths" "countedWinds" "[I" ∈ lw_gt := gt_at 151 (by decide +kernel) rfl
theorem gf_Lm_52 (ho : M.1.cls = "LampMoths") (hd : decode M.2.1 pc = .ok (.getfield 52, 3)) (k : WH l D base M (pc + 3) ls (.ref 39 :: st) h Q) : WH l D base M pc ls (.ref 0 :: st) h Q := by
  exact wx_get (ci := 2) (k := 10) hd rfl rfl ig_Lm (by decide) (show Cond.fieldLink M.1.cls 52 (T_Lm 10).1 (T_Lm 10).2.1 (T_Lm 10).2.2.1 ∈ lw_gt by rw [ho]; exact fl_Lm_52) rfl (fun _ => rfl) k
theorem fl_Lm_55 : Cond.fieldLink "LampMoths" 55 "LampMoths" "countedSums" "[I" ∈ lw_gt := gt_at 152 (by decide +kernel) rfl
theorem gf_Lm_55 (ho : M.1.cls = "LampMoths") (hd : decode M.2.1 pc = .ok (.getfield 55, 3)) (k : WH l D base M (pc + 3) ls (.ref 40 :: st) h Q) : WH l D base M pc ls (.ref 0 :: st) h Q := by
  exact wx_get (ci := 2) (k := 11) hd rfl rfl ig_Lm (by decide) (show Cond.fieldLink M.1.cls 55 (T_Lm 11).1 (T_Lm 11).2.1 (T_Lm 11).2.2.1 ∈ lw_gt by rw [ho]; exact fl_Lm_55) rfl (fun _ => rfl) k
theorem fl_Lm_58 : Cond.fieldLink "LampMoths" 58 "LampMoths" "countsHeld" "I" ∈ lw_gt := gt_at 153 (by decide +kernel) rfl
theorem gf_Lm_58 (ho : M.1.cls = "LampMoths") (hd : decode M.2.1 pc = .ok (.getfield 58, 3)) (k : WH l D base M (pc + 3) ls (.int (gI h 0 12) :: st) h Q) : WH l D base M pc ls (.ref 0 :: st) h Q := by
  exact wx_get (ci := 2) (k := 12) hd rfl rfl ig_Lm (by decide) (show Cond.fieldLink M.1.cls 58 (T_Lm 12).1 (T_Lm 12).2.1 (T_Lm 12).2.2.1 ∈ lw_gt by rw [ho]; exact fl_Lm_58) rfl (fun _ => rfl) k
theorem pf_Lm_58 {v : Int32} (ho : M.1.cls = "LampMoths") (hd : decode M.2.1 pc = .ok (.putfield 58, 3)) (k : WH l D base M (pc + 3) ls st (sI h 0 12 v) Q) : WH l D base M pc ls (.int v :: .ref 0 :: st) h Q := by
  exact wx_putI (ci := 2) (k := 12) hd rfl rfl ig_Lm t_Lm t_Lm_ok n_Lm (by decide) (show Cond.fieldLink M.1.cls 58 (T_Lm 12).1 (T_Lm 12).2.1 (T_Lm 12).2.2.1 ∈ lw_gt by rw [ho]; exact fl_Lm_58) rfl (by decide +kernel) rfl k
theorem fl_Lm_61 : Cond.fieldLink "LampMoths" 61 "LampMoths" "groupOwes" "[I" ∈ lw_gt := gt_at 154 (by decide +kernel) rfl
theorem gf_Lm_61 (ho : M.1.cls = "LampMoths") (hd : decode M.2.1 pc = .ok (.getfield 61, 3)) (k : WH l D base M (pc + 3) ls (.ref 41 :: st) h Q) : WH l D base M pc ls (.ref 0 :: st) h Q := by
  exact wx_get (ci := 2) (k := 13) hd rfl rfl ig_Lm (by decide) (show Cond.fieldLink M.1.cls 61 (T_Lm 13).1 (T_Lm 13).2.1 (T_Lm 13).2.2.1 ∈ lw_gt by rw [ho]; exact fl_Lm_61) rfl (fun _ => rfl) k
theorem fl_Lm_64 : Cond.fieldLink "LampMoths" 64 "LampMoths" "chance" "J" ∈ lw_gt := gt_at 155 (by decide +kernel) rfl
theorem gf_Lm_64 (ho : M.1.cls = "LampMoths") (hd : decode M.2.1 pc = .ok (.getfield 64, 3)) (k : WH l D base M (pc + 3) ls (.long (gL h 0 14) :: st) h Q) : WH l D base M pc ls (.ref 0 :: st) h Q := by
  exact wx_get (ci := 2) (k := 14) hd rfl rfl ig_Lm (by decide) (show Cond.fieldLink M.1.cls 64 (T_Lm 14).1 (T_Lm 14).2.1 (T_Lm 14).2.2.1 ∈ lw_gt by rw [ho]; exact fl_Lm_64) rfl (fun _ => rfl) k
theorem pf_Lm_64 {v : Int64} (ho : M.1.cls = "LampMoths") (hd : decode M.2.1 pc = .ok (.putfield 64, 3)) (k : WH l D base M (pc + 3) ls st (sL h 0 14 v) Q) : WH l D base M pc ls (.long v :: .ref 0 :: st) h Q := by
  exact wx_putL (ci := 2) (k := 14) hd rfl rfl ig_Lm t_Lm t_Lm_ok n_Lm (by decide) (show Cond.fieldLink M.1.cls 64 (T_Lm 14).1 (T_Lm 14).2.1 (T_Lm 14).2.2.1 ∈ lw_gt by rw [ho]; exact fl_Lm_64) rfl (by decide +kernel) rfl k
theorem fl_Md_62 : Cond.fieldLink "LampMothsModel" 62 "LampMothsModel" "thrown" "I" ∈ lw_gt := gt_at 564 (by decide +kernel) rfl
theorem gf_Md_62 (ho : M.1.cls = "LampMothsModel") (hd : decode M.2.1 pc = .ok (.getfield 62, 3)) (k : WH l D base M (pc + 3) ls (.int (gI h 42 0) :: st) h Q) : WH l D base M pc ls (.ref 42 :: st) h Q := by
  exact wx_get (ci := 3) (k := 0) hd rfl rfl ig_Md (by decide) (show Cond.fieldLink M.1.cls 62 (T_Md 0).1 (T_Md 0).2.1 (T_Md 0).2.2.1 ∈ lw_gt by rw [ho]; exact fl_Md_62) rfl (fun _ => rfl) k
theorem pf_Md_62 {v : Int32} (ho : M.1.cls = "LampMothsModel") (hd : decode M.2.1 pc = .ok (.putfield 62, 3)) (k : WH l D base M (pc + 3) ls st (sI h 42 0 v) Q) : WH l D base M pc ls (.int v :: .ref 42 :: st) h Q := by
  exact wx_putI (ci := 3) (k := 0) hd rfl rfl ig_Md t_Md t_Md_ok n_Md (by decide) (show Cond.fieldLink M.1.cls 62 (T_Md 0).1 (T_Md 0).2.1 (T_Md 0).2.2.1 ∈ lw_gt by rw [ho]; exact fl_Md_62) rfl (by decide +kernel) rfl k
theorem fl_Md_7 : Cond.fieldLink "LampMothsModel" 7 "LampMothsModel" "text" "[I" ∈ lw_gt := gt_at 565 (by decide +kernel) rfl
theorem gf_Md_7 (ho : M.1.cls = "LampMothsModel") (hd : decode M.2.1 pc = .ok (.getfield 7, 3)) (k : WH l D base M (pc + 3) ls (.ref 43 :: st) h Q) : WH l D base M pc ls (.ref 42 :: st) h Q := by
  exact wx_get (ci := 3) (k := 1) hd rfl rfl ig_Md (by decide) (show Cond.fieldLink M.1.cls 7 (T_Md 1).1 (T_Md 1).2.1 (T_Md 1).2.2.1 ∈ lw_gt by rw [ho]; exact fl_Md_7) rfl (fun _ => rfl) k
theorem fl_Md_78 : Cond.fieldLink "LampMothsModel" 78 "LampMothsModel" "textSize" "I" ∈ lw_gt := gt_at 566 (by decide +kernel) rfl
theorem gf_Md_78 (ho : M.1.cls = "LampMothsModel") (hd : decode M.2.1 pc = .ok (.getfield 78, 3)) (k : WH l D base M (pc + 3) ls (.int (gI h 42 2) :: st) h Q) : WH l D base M pc ls (.ref 42 :: st) h Q := by
  exact wx_get (ci := 3) (k := 2) hd rfl rfl ig_Md (by decide) (show Cond.fieldLink M.1.cls 78 (T_Md 2).1 (T_Md 2).2.1 (T_Md 2).2.2.1 ∈ lw_gt by rw [ho]; exact fl_Md_78) rfl (fun _ => rfl) k
theorem pf_Md_78 {v : Int32} (ho : M.1.cls = "LampMothsModel") (hd : decode M.2.1 pc = .ok (.putfield 78, 3)) (k : WH l D base M (pc + 3) ls st (sI h 42 2 v) Q) : WH l D base M pc ls (.int v :: .ref 42 :: st) h Q := by
  exact wx_putI (ci := 3) (k := 2) hd rfl rfl ig_Md t_Md t_Md_ok n_Md (by decide) (show Cond.fieldLink M.1.cls 78 (T_Md 2).1 (T_Md 2).2.1 (T_Md 2).2.2.1 ∈ lw_gt by rw [ho]; exact fl_Md_78) rfl (by decide +kernel) rfl k
theorem fl_Md_81 : Cond.fieldLink "LampMothsModel" 81 "LampMothsModel" "place" "I" ∈ lw_gt := gt_at 567 (by decide +kernel) rfl
theorem gf_Md_81 (ho : M.1.cls = "LampMothsModel") (hd : decode M.2.1 pc = .ok (.getfield 81, 3)) (k : WH l D base M (pc + 3) ls (.int (gI h 42 3) :: st) h Q) : WH l D base M pc ls (.ref 42 :: st) h Q := by
  exact wx_get (ci := 3) (k := 3) hd rfl rfl ig_Md (by decide) (show Cond.fieldLink M.1.cls 81 (T_Md 3).1 (T_Md 3).2.1 (T_Md 3).2.2.1 ∈ lw_gt by rw [ho]; exact fl_Md_81) rfl (fun _ => rfl) k
theorem pf_Md_81 {v : Int32} (ho : M.1.cls = "LampMothsModel") (hd : decode M.2.1 pc = .ok (.putfield 81, 3)) (k : WH l D base M (pc + 3) ls st (sI h 42 3 v) Q) : WH l D base M pc ls (.int v :: .ref 42 :: st) h Q := by
  exact wx_putI (ci := 3) (k := 3) hd rfl rfl ig_Md t_Md t_Md_ok n_Md (by decide) (show Cond.fieldLink M.1.cls 81 (T_Md 3).1 (T_Md 3).2.1 (T_Md 3).2.2.1 ∈ lw_gt by rw [ho]; exact fl_Md_81) rfl (by decide +kernel) rfl k
theorem fl_Md_66 : Cond.fieldLink "LampMothsModel" 66 "LampMothsModel" "windows" "I" ∈ lw_gt := gt_at 568 (by decide +kernel) rfl
theorem gf_Md_66 (ho : M.1.cls = "LampMothsModel") (hd : decode M.2.1 pc = .ok (.getfield 66, 3)) (k : WH l D base M (pc + 3) ls (.int (gI h 42 4) :: st) h Q) : WH l D base M pc ls (.ref 42 :: st) h Q := by
  exact wx_get (ci := 3) (k := 4) hd rfl rfl ig_Md (by decide) (show Cond.fieldLink M.1.cls 66 (T_Md 4).1 (T_Md 4).2.1 (T_Md 4).2.2.1 ∈ lw_gt by rw [ho]; exact fl_Md_66) rfl (fun _ => rfl) k
theorem pf_Md_66 {v : Int32} (ho : M.1.cls = "LampMothsModel") (hd : decode M.2.1 pc = .ok (.putfield 66, 3)) (k : WH l D base M (pc + 3) ls st (sI h 42 4 v) Q) : WH l D base M pc ls (.int v :: .ref 42 :: st) h Q := by
  exact wx_putI (ci := 3) (k := 4) hd rfl rfl ig_Md t_Md t_Md_ok n_Md (by decide) (show Cond.fieldLink M.1.cls 66 (T_Md 4).1 (T_Md 4).2.1 (T_Md 4).2.2.1 ∈ lw_gt by rw [ho]; exact fl_Md_66) rfl (by decide +kernel) rfl k
theorem fl_Md_13 : Cond.fieldLink "LampMothsModel" 13 "LampMothsModel" "windowKind" "[I" ∈ lw_gt := gt_at 569 (by decide +kernel) rfl
theorem gf_Md_13 (ho : M.1.cls = "LampMothsModel") (hd : decode M.2.1 pc = .ok (.getfield 13, 3)) (k : WH l D base M (pc + 3) ls (.ref 44 :: st) h Q) : WH l D base M pc ls (.ref 42 :: st) h Q := by
  exact wx_get (ci := 3) (k := 5) hd rfl rfl ig_Md (by decide) (show Cond.fieldLink M.1.cls 13 (T_Md 5).1 (T_Md 5).2.1 (T_Md 5).2.2.1 ∈ lw_gt by rw [ho]; exact fl_Md_13) rfl (fun _ => rfl) k
theorem fl_Md_73 : Cond.fieldLink "LampMothsModel" 73 "LampMothsModel" "moths" "I" ∈ lw_gt := gt_at 570 (by decide +kernel) rfl
theorem gf_Md_73 (ho : M.1.cls = "LampMothsModel") (hd : decode M.2.1 pc = .ok (.getfield 73, 3)) (k : WH l D base M (pc + 3) ls (.int (gI h 42 6) :: st) h Q) : WH l D base M pc ls (.ref 42 :: st) h Q := by
  exact wx_get (ci := 3) (k := 6) hd rfl rfl ig_Md (by decide) (show Cond.fieldLink M.1.cls 73 (T_Md 6).1 (T_Md 6).2.1 (T_Md 6).2.2.1 ∈ lw_gt by rw [ho]; exact fl_Md_73) rfl (fun _ => rfl) k
theorem pf_Md_73 {v : Int32} (ho : M.1.cls = "LampMothsModel") (hd : decode M.2.1 pc = .ok (.putfield 73, 3)) (k : WH l D base M (pc + 3) ls st (sI h 42 6 v) Q) : WH l D base M pc ls (.int v :: .ref 42 :: st) h Q := by
  exact wx_putI (ci := 3) (k := 6) hd rfl rfl ig_Md t_Md t_Md_ok n_Md (by decide) (show Cond.fieldLink M.1.cls 73 (T_Md 6).1 (T_Md 6).2.1 (T_Md 6).2.2.1 ∈ lw_gt by rw [ho]; exact fl_Md_73) rfl (by decide +kernel) rfl k
theorem fl_Md_16 : Cond.fieldLink "LampMothsModel" 16 "LampMothsModel" "mothKind" "[I" ∈ lw_gt := gt_at 571 (by decide +kernel) rfl
theorem gf_Md_16 (ho : M.1.cls = "LampMothsModel") (hd : decode M.2.1 pc = .ok (.getfield 16, 3)) (k : WH l D base M (pc + 3) ls (.ref 45 :: st) h Q) : WH l D base M pc ls (.ref 42 :: st) h Q := by
  exact wx_get (ci := 3) (k := 7) hd rfl rfl ig_Md (by decide) (show Cond.fieldLink M.1.cls 16 (T_Md 7).1 (T_Md 7).2.1 (T_Md 7).2.2.1 ∈ lw_gt by rw [ho]; exact fl_Md_16) rfl (fun _ => rfl) k
theorem fl_Md_107 : Cond.fieldLink "LampMothsModel" 107 "LampMothsModel" "readWind" "I" ∈ lw_gt := gt_at 572 (by decide +kernel) rfl
theorem gf_Md_107 (ho : M.1.cls = "LampMothsModel") (hd : decode M.2.1 pc = .ok (.getfield 107, 3)) (k : WH l D base M (pc + 3) ls (.int (gI h 42 8) :: st) h Q) : WH l D base M pc ls (.ref 42 :: st) h Q := by
  exact wx_get (ci := 3) (k := 8) hd rfl rfl ig_Md (by decide) (show Cond.fieldLink M.1.cls 107 (T_Md 8).1 (T_Md 8).2.1 (T_Md 8).2.2.1 ∈ lw_gt by rw [ho]; exact fl_Md_107) rfl (fun _ => rfl) k
theorem pf_Md_107 {v : Int32} (ho : M.1.cls = "LampMothsModel") (hd : decode M.2.1 pc = .ok (.putfield 107, 3)) (k : WH l D base M (pc + 3) ls st (sI h 42 8 v) Q) : WH l D base M pc ls (.int v :: .ref 42 :: st) h Q := by
  exact wx_putI (ci := 3) (k := 8) hd rfl rfl ig_Md t_Md t_Md_ok n_Md (by decide) (show Cond.fieldLink M.1.cls 107 (T_Md 8).1 (T_Md 8).2.1 (T_Md 8).2.2.1 ∈ lw_gt by rw [ho]; exact fl_Md_107) rfl (by decide +kernel) rfl k
theorem fl_Md_110 : Cond.fieldLink "LampMothsModel" 110 "LampMothsModel" "readHoney" "I" ∈ lw_gt := gt_at 573 (by decide +kernel) rfl
theorem gf_Md_110 (ho : M.1.cls = "LampMothsModel") (hd : decode M.2.1 pc = .ok (.getfield 110, 3)) (k : WH l D base M (pc + 3) ls (.int (gI h 42 9) :: st) h Q) : WH l D base M pc ls (.ref 42 :: st) h Q := by
  exact wx_get (ci := 3) (k := 9) hd rfl rfl ig_Md (by decide) (show Cond.fieldLink M.1.cls 110 (T_Md 9).1 (T_Md 9).2.1 (T_Md 9).2.2.1 ∈ lw_gt by rw [ho]; exact fl_Md_110) rfl (fun _ => rfl) k
theorem pf_Md_110 {v : Int32} (ho : M.1.cls = "LampMothsModel") (hd : decode M.2.1 pc = .ok (.putfield 110, 3)) (k : WH l D base M (pc + 3) ls st (sI h 42 9 v) Q) : WH l D base M pc ls (.int v :: .ref 42 :: st) h Q := by
  exact wx_putI (ci := 3) (k := 9) hd rfl rfl ig_Md t_Md t_Md_ok n_Md (by decide) (show Cond.fieldLink M.1.cls 110 (T_Md 9).1 (T_Md 9).2.1 (T_Md 9).2.2.1 ∈ lw_gt by rw [ho]; exact fl_Md_110) rfl (by decide +kernel) rfl k
theorem fl_Md_86 : Cond.fieldLink "LampMothsModel" 86 "LampMothsModel" "readWindows" "I" ∈ lw_gt := gt_at 574 (by decide +kernel) rfl
theorem gf_Md_86 (ho : M.1.cls = "LampMothsModel") (hd : decode M.2.1 pc = .ok (.getfield 86, 3)) (k : WH l D base M (pc + 3) ls (.int (gI h 42 10) :: st) h Q) : WH l D base M pc ls (.ref 42 :: st) h Q := by
  exact wx_get (ci := 3) (k := 10) hd rfl rfl ig_Md (by decide) (show Cond.fieldLink M.1.cls 86 (T_Md 10).1 (T_Md 10).2.1 (T_Md 10).2.2.1 ∈ lw_gt by rw [ho]; exact fl_Md_86) rfl (fun _ => rfl) k
theorem pf_Md_86 {v : Int32} (ho : M.1.cls = "LampMothsModel") (hd : decode M.2.1 pc = .ok (.putfield 86, 3)) (k : WH l D base M (pc + 3) ls st (sI h 42 10 v) Q) : WH l D base M pc ls (.int v :: .ref 42 :: st) h Q := by
  exact wx_putI (ci := 3) (k := 10) hd rfl rfl ig_Md t_Md t_Md_ok n_Md (by decide) (show Cond.fieldLink M.1.cls 86 (T_Md 10).1 (T_Md 10).2.1 (T_Md 10).2.2.1 ∈ lw_gt by rw [ho]; exact fl_Md_86) rfl (by decide +kernel) rfl k
theorem fl_Md_19 : Cond.fieldLink "LampMothsModel" 19 "LampMothsModel" "readWindow" "[I" ∈ lw_gt := gt_at 575 (by decide +kernel) rfl
theorem gf_Md_19 (ho : M.1.cls = "LampMothsModel") (hd : decode M.2.1 pc = .ok (.getfield 19, 3)) (k : WH l D base M (pc + 3) ls (.ref 46 :: st) h Q) : WH l D base M pc ls (.ref 42 :: st) h Q := by
  exact wx_get (ci := 3) (k := 11) hd rfl rfl ig_Md (by decide) (show Cond.fieldLink M.1.cls 19 (T_Md 11).1 (T_Md 11).2.1 (T_Md 11).2.2.1 ∈ lw_gt by rw [ho]; exact fl_Md_19) rfl (fun _ => rfl) k
theorem fl_Md_97 : Cond.fieldLink "LampMothsModel" 97 "LampMothsModel" "readMoths" "I" ∈ lw_gt := gt_at 576 (by decide +kernel) rfl
theorem gf_Md_97 (ho : M.1.cls = "LampMothsModel") (hd : decode M.2.1 pc = .ok (.getfield 97, 3)) (k : WH l D base M (pc + 3) ls (.int (gI h 42 12) :: st) h Q) : WH l D base M pc ls (.ref 42 :: st) h Q := by
  exact wx_get (ci := 3) (k := 12) hd rfl rfl ig_Md (by decide) (show Cond.fieldLink M.1.cls 97 (T_Md 12).1 (T_Md 12).2.1 (T_Md 12).2.2.1 ∈ lw_gt by rw [ho]; exact fl_Md_97) rfl (fun _ => rfl) k
theorem pf_Md_97 {v : Int32} (ho : M.1.cls = "LampMothsModel") (hd : decode M.2.1 pc = .ok (.putfield 97, 3)) (k : WH l D base M (pc + 3) ls st (sI h 42 12 v) Q) : WH l D base M pc ls (.int v :: .ref 42 :: st) h Q := by
  exact wx_putI (ci := 3) (k := 12) hd rfl rfl ig_Md t_Md t_Md_ok n_Md (by decide) (show Cond.fieldLink M.1.cls 97 (T_Md 12).1 (T_Md 12).2.1 (T_Md 12).2.2.1 ∈ lw_gt by rw [ho]; exact fl_Md_97) rfl (by decide +kernel) rfl k
theorem fl_Md_22 : Cond.fieldLink "LampMothsModel" 22 "LampMothsModel" "readMoth" "[I" ∈ lw_gt := gt_at 577 (by decide +kernel) rfl
theorem gf_Md_22 (ho : M.1.cls = "LampMothsModel") (hd : decode M.2.1 pc = .ok (.getfield 22, 3)) (k : WH l D base M (pc + 3) ls (.ref 47 :: st) h Q) : WH l D base M pc ls (.ref 42 :: st) h Q := by
  exact wx_get (ci := 3) (k := 13) hd rfl rfl ig_Md (by decide) (show Cond.fieldLink M.1.cls 22 (T_Md 13).1 (T_Md 13).2.1 (T_Md 13).2.2.1 ∈ lw_gt by rw [ho]; exact fl_Md_22) rfl (fun _ => rfl) k
theorem fl_Md_25 : Cond.fieldLink "LampMothsModel" 25 "LampMothsModel" "page" "[I" ∈ lw_gt := gt_at 578 (by decide +kernel) rfl
theorem gf_Md_25 (ho : M.1.cls = "LampMothsModel") (hd : decode M.2.1 pc = .ok (.getfield 25, 3)) (k : WH l D base M (pc + 3) ls (.ref 48 :: st) h Q) : WH l D base M pc ls (.ref 42 :: st) h Q := by
  exact wx_get (ci := 3) (k := 14) hd rfl rfl ig_Md (by decide) (show Cond.fieldLink M.1.cls 25 (T_Md 14).1 (T_Md 14).2.1 (T_Md 14).2.2.1 ∈ lw_gt by rw [ho]; exact fl_Md_25) rfl (fun _ => rfl) k
theorem fl_Md_28 : Cond.fieldLink "LampMothsModel" 28 "LampMothsModel" "trial" "[I" ∈ lw_gt := gt_at 579 (by decide +kernel) rfl
theorem gf_Md_28 (ho : M.1.cls = "LampMothsModel") (hd : decode M.2.1 pc = .ok (.getfield 28, 3)) (k : WH l D base M (pc + 3) ls (.ref 49 :: st) h Q) : WH l D base M pc ls (.ref 42 :: st) h Q := by
  exact wx_get (ci := 3) (k := 15) hd rfl rfl ig_Md (by decide) (show Cond.fieldLink M.1.cls 28 (T_Md 15).1 (T_Md 15).2.1 (T_Md 15).2.2.1 ∈ lw_gt by rw [ho]; exact fl_Md_28) rfl (fun _ => rfl) k
theorem fl_Md_31 : Cond.fieldLink "LampMothsModel" 31 "LampMothsModel" "book" "[I" ∈ lw_gt := gt_at 580 (by decide +kernel) rfl
theorem gf_Md_31 (ho : M.1.cls = "LampMothsModel") (hd : decode M.2.1 pc = .ok (.getfield 31, 3)) (k : WH l D base M (pc + 3) ls (.ref 50 :: st) h Q) : WH l D base M pc ls (.ref 42 :: st) h Q := by
  exact wx_get (ci := 3) (k := 16) hd rfl rfl ig_Md (by decide) (show Cond.fieldLink M.1.cls 31 (T_Md 16).1 (T_Md 16).2.1 (T_Md 16).2.2.1 ∈ lw_gt by rw [ho]; exact fl_Md_31) rfl (fun _ => rfl) k
theorem fl_Md_119 : Cond.fieldLink "LampMothsModel" 119 "LampMothsModel" "acts" "I" ∈ lw_gt := gt_at 581 (by decide +kernel) rfl
theorem gf_Md_119 (ho : M.1.cls = "LampMothsModel") (hd : decode M.2.1 pc = .ok (.getfield 119, 3)) (k : WH l D base M (pc + 3) ls (.int (gI h 42 17) :: st) h Q) : WH l D base M pc ls (.ref 42 :: st) h Q := by
  exact wx_get (ci := 3) (k := 17) hd rfl rfl ig_Md (by decide) (show Cond.fieldLink M.1.cls 119 (T_Md 17).1 (T_Md 17).2.1 (T_Md 17).2.2.1 ∈ lw_gt by rw [ho]; exact fl_Md_119) rfl (fun _ => rfl) k
theorem pf_Md_119 {v : Int32} (ho : M.1.cls = "LampMothsModel") (hd : decode M.2.1 pc = .ok (.putfield 119, 3)) (k : WH l D base M (pc + 3) ls st (sI h 42 17 v) Q) : WH l D base M pc ls (.int v :: .ref 42 :: st) h Q := by
  exact wx_putI (ci := 3) (k := 17) hd rfl rfl ig_Md t_Md t_Md_ok n_Md (by decide) (show Cond.fieldLink M.1.cls 119 (T_Md 17).1 (T_Md 17).2.1 (T_Md 17).2.2.1 ∈ lw_gt by rw [ho]; exact fl_Md_119) rfl (by decide +kernel) rfl k
theorem fl_Md_34 : Cond.fieldLink "LampMothsModel" 34 "LampMothsModel" "kept" "[I" ∈ lw_gt := gt_at 582 (by decide +kernel) rfl
theorem gf_Md_34 (ho : M.1.cls = "LampMothsModel") (hd : decode M.2.1 pc = .ok (.getfield 34, 3)) (k : WH l D base M (pc + 3) ls (.ref 51 :: st) h Q) : WH l D base M pc ls (.ref 42 :: st) h Q := by
  exact wx_get (ci := 3) (k := 18) hd rfl rfl ig_Md (by decide) (show Cond.fieldLink M.1.cls 34 (T_Md 18).1 (T_Md 18).2.1 (T_Md 18).2.2.1 ∈ lw_gt by rw [ho]; exact fl_Md_34) rfl (fun _ => rfl) k
theorem fl_Md_37 : Cond.fieldLink "LampMothsModel" 37 "LampMothsModel" "isKept" "[Z" ∈ lw_gt := gt_at 583 (by decide +kernel) rfl
theorem gf_Md_37 (ho : M.1.cls = "LampMothsModel") (hd : decode M.2.1 pc = .ok (.getfield 37, 3)) (k : WH l D base M (pc + 3) ls (.ref 52 :: st) h Q) : WH l D base M pc ls (.ref 42 :: st) h Q := by
  exact wx_get (ci := 3) (k := 19) hd rfl rfl ig_Md (by decide) (show Cond.fieldLink M.1.cls 37 (T_Md 19).1 (T_Md 19).2.1 (T_Md 19).2.2.1 ∈ lw_gt by rw [ho]; exact fl_Md_37) rfl (fun _ => rfl) k
theorem fl_Md_154 : Cond.fieldLink "LampMothsModel" 154 "LampMothsModel" "counted" "I" ∈ lw_gt := gt_at 584 (by decide +kernel) rfl
theorem gf_Md_154 (ho : M.1.cls = "LampMothsModel") (hd : decode M.2.1 pc = .ok (.getfield 154, 3)) (k : WH l D base M (pc + 3) ls (.int (gI h 42 20) :: st) h Q) : WH l D base M pc ls (.ref 42 :: st) h Q := by
  exact wx_get (ci := 3) (k := 20) hd rfl rfl ig_Md (by decide) (show Cond.fieldLink M.1.cls 154 (T_Md 20).1 (T_Md 20).2.1 (T_Md 20).2.2.1 ∈ lw_gt by rw [ho]; exact fl_Md_154) rfl (fun _ => rfl) k
theorem pf_Md_154 {v : Int32} (ho : M.1.cls = "LampMothsModel") (hd : decode M.2.1 pc = .ok (.putfield 154, 3)) (k : WH l D base M (pc + 3) ls st (sI h 42 20 v) Q) : WH l D base M pc ls (.int v :: .ref 42 :: st) h Q := by
  exact wx_putI (ci := 3) (k := 20) hd rfl rfl ig_Md t_Md t_Md_ok n_Md (by decide) (show Cond.fieldLink M.1.cls 154 (T_Md 20).1 (T_Md 20).2.1 (T_Md 20).2.2.1 ∈ lw_gt by rw [ho]; exact fl_Md_154) rfl (by decide +kernel) rfl k
theorem fl_Md_41 : Cond.fieldLink "LampMothsModel" 41 "LampMothsModel" "countedWindow" "[I" ∈ lw_gt := gt_at 585 (by decide +kernel) rfl
theorem gf_Md_41 (ho : M.1.cls = "LampMothsModel") (hd : decode M.2.1 pc = .ok (.getfield 41, 3)) (k : WH l D base M (pc + 3) ls (.ref 53 :: st) h Q) : WH l D base M pc ls (.ref 42 :: st) h Q := by
  exact wx_get (ci := 3) (k := 21) hd rfl rfl ig_Md (by decide) (show Cond.fieldLink M.1.cls 41 (T_Md 21).1 (T_Md 21).2.1 (T_Md 21).2.2.1 ∈ lw_gt by rw [ho]; exact fl_Md_41) rfl (fun _ => rfl) k
theorem fl_Md_44 : Cond.fieldLink "LampMothsModel" 44 "LampMothsModel" "countedWind" "[I" ∈ lw_gt := gt_at 586 (by decide +kernel) rfl
theorem gf_Md_44 (ho : M.1.cls = "LampMothsModel") (hd : decode M.2.1 pc = .ok (.getfield 44, 3)) (k : WH l D base M (pc + 3) ls (.ref 54 :: st) h Q) : WH l D base M pc ls (.ref 42 :: st) h Q := by
  exact wx_get (ci := 3) (k := 22) hd rfl rfl ig_Md (by decide) (show Cond.fieldLink M.1.cls 44 (T_Md 22).1 (T_Md 22).2.1 (T_Md 22).2.2.1 ∈ lw_gt by rw [ho]; exact fl_Md_44) rfl (fun _ => rfl) k
theorem fl_Md_47 : Cond.fieldLink "LampMothsModel" 47 "LampMothsModel" "countedTax" "[I" ∈ lw_gt := gt_at 587 (by decide +kernel) rfl
theorem gf_Md_47 (ho : M.1.cls = "LampMothsModel") (hd : decode M.2.1 pc = .ok (.getfield 47, 3)) (k : WH l D base M (pc + 3) ls (.ref 55 :: st) h Q) : WH l D base M pc ls (.ref 42 :: st) h Q := by
  exact wx_get (ci := 3) (k := 23) hd rfl rfl ig_Md (by decide) (show Cond.fieldLink M.1.cls 47 (T_Md 23).1 (T_Md 23).2.1 (T_Md 23).2.2.1 ∈ lw_gt by rw [ho]; exact fl_Md_47) rfl (fun _ => rfl) k
theorem fl_Md_243 : Cond.fieldLink "LampMothsModel" 243 "LampMothsModel" "seed" "J" ∈ lw_gt := gt_at 588 (by decide +kernel) rfl
theorem gf_Md_243 (ho : M.1.cls = "LampMothsModel") (hd : decode M.2.1 pc = .ok (.getfield 243, 3)) (k : WH l D base M (pc + 3) ls (.long (gL h 42 24) :: st) h Q) : WH l D base M pc ls (.ref 42 :: st) h Q := by
  exact wx_get (ci := 3) (k := 24) hd rfl rfl ig_Md (by decide) (show Cond.fieldLink M.1.cls 243 (T_Md 24).1 (T_Md 24).2.1 (T_Md 24).2.2.1 ∈ lw_gt by rw [ho]; exact fl_Md_243) rfl (fun _ => rfl) k
theorem pf_Md_243 {v : Int64} (ho : M.1.cls = "LampMothsModel") (hd : decode M.2.1 pc = .ok (.putfield 243, 3)) (k : WH l D base M (pc + 3) ls st (sL h 42 24 v) Q) : WH l D base M pc ls (.long v :: .ref 42 :: st) h Q := by
  exact wx_putL (ci := 3) (k := 24) hd rfl rfl ig_Md t_Md t_Md_ok n_Md (by decide) (show Cond.fieldLink M.1.cls 243 (T_Md 24).1 (T_Md 24).2.1 (T_Md 24).2.2.1 ∈ lw_gt by rw [ho]; exact fl_Md_243) rfl (by decide +kernel) rfl k
theorem fl_Md_50 : Cond.fieldLink "LampMothsModel" 50 "LampMothsModel" "draws" "[I" ∈ lw_gt := gt_at 589 (by decide +kernel) rfl
theorem gf_Md_50 (ho : M.1.cls = "LampMothsModel") (hd : decode M.2.1 pc = .ok (.getfield 50, 3)) (k : WH l D base M (pc + 3) ls (.ref 56 :: st) h Q) : WH l D base M pc ls (.ref 42 :: st) h Q := by
  exact wx_get (ci := 3) (k := 25) hd rfl rfl ig_Md (by decide) (show Cond.fieldLink M.1.cls 50 (T_Md 25).1 (T_Md 25).2.1 (T_Md 25).2.2.1 ∈ lw_gt by rw [ho]; exact fl_Md_50) rfl (fun _ => rfl) k
theorem fl_Md_53 : Cond.fieldLink "LampMothsModel" 53 "LampMothsModel" "owed" "[I" ∈ lw_gt := gt_at 590 (by decide +kernel) rfl
theorem gf_Md_53 (ho : M.1.cls = "LampMothsModel") (hd : decode M.2.1 pc = .ok (.getfield 53, 3)) (k : WH l D base M (pc + 3) ls (.ref 57 :: st) h Q) : WH l D base M pc ls (.ref 42 :: st) h Q := by
  exact wx_get (ci := 3) (k := 26) hd rfl rfl ig_Md (by decide) (show Cond.fieldLink M.1.cls 53 (T_Md 26).1 (T_Md 26).2.1 (T_Md 26).2.2.1 ∈ lw_gt by rw [ho]; exact fl_Md_53) rfl (fun _ => rfl) k
theorem fl_Md_189 : Cond.fieldLink "LampMothsModel" 189 "LampMothsModel" "cheapMuch" "I" ∈ lw_gt := gt_at 591 (by decide +kernel) rfl
theorem gf_Md_189 (ho : M.1.cls = "LampMothsModel") (hd : decode M.2.1 pc = .ok (.getfield 189, 3)) (k : WH l D base M (pc + 3) ls (.int (gI h 42 27) :: st) h Q) : WH l D base M pc ls (.ref 42 :: st) h Q := by
  exact wx_get (ci := 3) (k := 27) hd rfl rfl ig_Md (by decide) (show Cond.fieldLink M.1.cls 189 (T_Md 27).1 (T_Md 27).2.1 (T_Md 27).2.2.1 ∈ lw_gt by rw [ho]; exact fl_Md_189) rfl (fun _ => rfl) k
theorem pf_Md_189 {v : Int32} (ho : M.1.cls = "LampMothsModel") (hd : decode M.2.1 pc = .ok (.putfield 189, 3)) (k : WH l D base M (pc + 3) ls st (sI h 42 27 v) Q) : WH l D base M pc ls (.int v :: .ref 42 :: st) h Q := by
  exact wx_putI (ci := 3) (k := 27) hd rfl rfl ig_Md t_Md t_Md_ok n_Md (by decide) (show Cond.fieldLink M.1.cls 189 (T_Md 27).1 (T_Md 27).2.1 (T_Md 27).2.2.1 ∈ lw_gt by rw [ho]; exact fl_Md_189) rfl (by decide +kernel) rfl k
theorem fl_Md_192 : Cond.fieldLink "LampMothsModel" 192 "LampMothsModel" "cheapRow" "I" ∈ lw_gt := gt_at 592 (by decide +kernel) rfl
theorem gf_Md_192 (ho : M.1.cls = "LampMothsModel") (hd : decode M.2.1 pc = .ok (.getfield 192, 3)) (k : WH l D base M (pc + 3) ls (.int (gI h 42 28) :: st) h Q) : WH l D base M pc ls (.ref 42 :: st) h Q := by
  exact wx_get (ci := 3) (k := 28) hd rfl rfl ig_Md (by decide) (show Cond.fieldLink M.1.cls 192 (T_Md 28).1 (T_Md 28).2.1 (T_Md 28).2.2.1 ∈ lw_gt by rw [ho]; exact fl_Md_192) rfl (fun _ => rfl) k
theorem pf_Md_192 {v : Int32} (ho : M.1.cls = "LampMothsModel") (hd : decode M.2.1 pc = .ok (.putfield 192, 3)) (k : WH l D base M (pc + 3) ls st (sI h 42 28 v) Q) : WH l D base M pc ls (.int v :: .ref 42 :: st) h Q := by
  exact wx_putI (ci := 3) (k := 28) hd rfl rfl ig_Md t_Md t_Md_ok n_Md (by decide) (show Cond.fieldLink M.1.cls 192 (T_Md 28).1 (T_Md 28).2.1 (T_Md 28).2.2.1 ∈ lw_gt by rw [ho]; exact fl_Md_192) rfl (by decide +kernel) rfl k
theorem fl_Md_201 : Cond.fieldLink "LampMothsModel" 201 "LampMothsModel" "movedWhich" "I" ∈ lw_gt := gt_at 593 (by decide +kernel) rfl
theorem gf_Md_201 (ho : M.1.cls = "LampMothsModel") (hd : decode M.2.1 pc = .ok (.getfield 201, 3)) (k : WH l D base M (pc + 3) ls (.int (gI h 42 29) :: st) h Q) : WH l D base M pc ls (.ref 42 :: st) h Q := by
  exact wx_get (ci := 3) (k := 29) hd rfl rfl ig_Md (by decide) (show Cond.fieldLink M.1.cls 201 (T_Md 29).1 (T_Md 29).2.1 (T_Md 29).2.2.1 ∈ lw_gt by rw [ho]; exact fl_Md_201) rfl (fun _ => rfl) k
theorem pf_Md_201 {v : Int32} (ho : M.1.cls = "LampMothsModel") (hd : decode M.2.1 pc = .ok (.putfield 201, 3)) (k : WH l D base M (pc + 3) ls st (sI h 42 29 v) Q) : WH l D base M pc ls (.int v :: .ref 42 :: st) h Q := by
  exact wx_putI (ci := 3) (k := 29) hd rfl rfl ig_Md t_Md t_Md_ok n_Md (by decide) (show Cond.fieldLink M.1.cls 201 (T_Md 29).1 (T_Md 29).2.1 (T_Md 29).2.2.1 ∈ lw_gt by rw [ho]; exact fl_Md_201) rfl (by decide +kernel) rfl k
theorem fl_Md_204 : Cond.fieldLink "LampMothsModel" 204 "LampMothsModel" "movedMuch" "I" ∈ lw_gt := gt_at 594 (by decide +kernel) rfl
theorem gf_Md_204 (ho : M.1.cls = "LampMothsModel") (hd : decode M.2.1 pc = .ok (.getfield 204, 3)) (k : WH l D base M (pc + 3) ls (.int (gI h 42 30) :: st) h Q) : WH l D base M pc ls (.ref 42 :: st) h Q := by
  exact wx_get (ci := 3) (k := 30) hd rfl rfl ig_Md (by decide) (show Cond.fieldLink M.1.cls 204 (T_Md 30).1 (T_Md 30).2.1 (T_Md 30).2.2.1 ∈ lw_gt by rw [ho]; exact fl_Md_204) rfl (fun _ => rfl) k
theorem pf_Md_204 {v : Int32} (ho : M.1.cls = "LampMothsModel") (hd : decode M.2.1 pc = .ok (.putfield 204, 3)) (k : WH l D base M (pc + 3) ls st (sI h 42 30 v) Q) : WH l D base M pc ls (.int v :: .ref 42 :: st) h Q := by
  exact wx_putI (ci := 3) (k := 30) hd rfl rfl ig_Md t_Md t_Md_ok n_Md (by decide) (show Cond.fieldLink M.1.cls 204 (T_Md 30).1 (T_Md 30).2.1 (T_Md 30).2.2.1 ∈ lw_gt by rw [ho]; exact fl_Md_204) rfl (by decide +kernel) rfl k
theorem fl_Md_231 : Cond.fieldLink "LampMothsModel" 231 "LampMothsModel" "restMany" "I" ∈ lw_gt := gt_at 595 (by decide +kernel) rfl
theorem gf_Md_231 (ho : M.1.cls = "LampMothsModel") (hd : decode M.2.1 pc = .ok (.getfield 231, 3)) (k : WH l D base M (pc + 3) ls (.int (gI h 42 31) :: st) h Q) : WH l D base M pc ls (.ref 42 :: st) h Q := by
  exact wx_get (ci := 3) (k := 31) hd rfl rfl ig_Md (by decide) (show Cond.fieldLink M.1.cls 231 (T_Md 31).1 (T_Md 31).2.1 (T_Md 31).2.2.1 ∈ lw_gt by rw [ho]; exact fl_Md_231) rfl (fun _ => rfl) k
theorem pf_Md_231 {v : Int32} (ho : M.1.cls = "LampMothsModel") (hd : decode M.2.1 pc = .ok (.putfield 231, 3)) (k : WH l D base M (pc + 3) ls st (sI h 42 31 v) Q) : WH l D base M pc ls (.int v :: .ref 42 :: st) h Q := by
  exact wx_putI (ci := 3) (k := 31) hd rfl rfl ig_Md t_Md t_Md_ok n_Md (by decide) (show Cond.fieldLink M.1.cls 231 (T_Md 31).1 (T_Md 31).2.1 (T_Md 31).2.2.1 ∈ lw_gt by rw [ho]; exact fl_Md_231) rfl (by decide +kernel) rfl k
theorem fl_Md_234 : Cond.fieldLink "LampMothsModel" 234 "LampMothsModel" "restFirst" "I" ∈ lw_gt := gt_at 596 (by decide +kernel) rfl
theorem gf_Md_234 (ho : M.1.cls = "LampMothsModel") (hd : decode M.2.1 pc = .ok (.getfield 234, 3)) (k : WH l D base M (pc + 3) ls (.int (gI h 42 32) :: st) h Q) : WH l D base M pc ls (.ref 42 :: st) h Q := by
  exact wx_get (ci := 3) (k := 32) hd rfl rfl ig_Md (by decide) (show Cond.fieldLink M.1.cls 234 (T_Md 32).1 (T_Md 32).2.1 (T_Md 32).2.2.1 ∈ lw_gt by rw [ho]; exact fl_Md_234) rfl (fun _ => rfl) k
theorem pf_Md_234 {v : Int32} (ho : M.1.cls = "LampMothsModel") (hd : decode M.2.1 pc = .ok (.putfield 234, 3)) (k : WH l D base M (pc + 3) ls st (sI h 42 32 v) Q) : WH l D base M pc ls (.int v :: .ref 42 :: st) h Q := by
  exact wx_putI (ci := 3) (k := 32) hd rfl rfl ig_Md t_Md t_Md_ok n_Md (by decide) (show Cond.fieldLink M.1.cls 234 (T_Md 32).1 (T_Md 32).2.1 (T_Md 32).2.2.1 ∈ lw_gt by rw [ho]; exact fl_Md_234) rfl (by decide +kernel) rfl k
theorem fl_Md_56 : Cond.fieldLink "LampMothsModel" 56 "LampMothsModel" "gains" "[I" ∈ lw_gt := gt_at 597 (by decide +kernel) rfl
theorem gf_Md_56 (ho : M.1.cls = "LampMothsModel") (hd : decode M.2.1 pc = .ok (.getfield 56, 3)) (k : WH l D base M (pc + 3) ls (.ref 58 :: st) h Q) : WH l D base M pc ls (.ref 42 :: st) h Q := by
  exact wx_get (ci := 3) (k := 33) hd rfl rfl ig_Md (by decide) (show Cond.fieldLink M.1.cls 56 (T_Md 33).1 (T_Md 33).2.1 (T_Md 33).2.2.1 ∈ lw_gt by rw [ho]; exact fl_Md_56) rfl (fun _ => rfl) k
theorem fl_Md_59 : Cond.fieldLink "LampMothsModel" 59 "LampMothsModel" "value" "[I" ∈ lw_gt := gt_at 598 (by decide +kernel) rfl
theorem gf_Md_59 (ho : M.1.cls = "LampMothsModel") (hd : decode M.2.1 pc = .ok (.getfield 59, 3)) (k : WH l D base M (pc + 3) ls (.ref 59 :: st) h Q) : WH l D base M pc ls (.ref 42 :: st) h Q := by
  exact wx_get (ci := 3) (k := 34) hd rfl rfl ig_Md (by decide) (show Cond.fieldLink M.1.cls 59 (T_Md 34).1 (T_Md 34).2.1 (T_Md 34).2.2.1 ∈ lw_gt by rw [ho]; exact fl_Md_59) rfl (fun _ => rfl) k
theorem k_Lm_write : okM M_Lm_write 1 := ⟨(gt_at 191 (by decide +kernel) rfl), (gt_at 50 (by decide +kernel) rfl), by decide +kernel⟩
theorem ki_Lm_write : Cond.instanceMethod M_Lm_write.1 ∈ lw_gt := gt_at 189 (by decide +kernel) rfl
theorem kz_Lm_write : Cond.selects M_Lm_write.1.cls M_Lm_write.1 M_Lm_write.1 ∈ lw_gt := gt_at 190 (by decide +kernel) rfl
theorem k_Lm_wipe : okM M_Lm_wipe 0 := ⟨(gt_at 195 (by decide +kernel) rfl), (gt_at 50 (by decide +kernel) rfl), by decide +kernel⟩
theorem ki_Lm_wipe : Cond.instanceMethod M_Lm_wipe.1 ∈ lw_gt := gt_at 193 (by decide +kernel) rfl
theorem kz_Lm_wipe : Cond.selects M_Lm_wipe.1.cls M_Lm_wipe.1 M_Lm_wipe.1 ∈ lw_gt := gt_at 194 (by decide +kernel) rfl
theorem k_Lm_fault : okM M_Lm_fault 0 := ⟨(gt_at 199 (by decide +kernel) rfl), (gt_at 50 (by decide +kernel) rfl), by decide +kernel⟩
theorem ki_Lm_fault : Cond.instanceMethod M_Lm_fault.1 ∈ lw_gt := gt_at 197 (by decide +kernel) rfl
theorem kz_Lm_fault : Cond.selects M_Lm_fault.1.cls M_Lm_fault.1 M_Lm_fault.1 ∈ lw_gt := gt_at 198 (by decide +kernel) rfl
theorem k_Lm_readInto : okM M_Lm_readInto 1 := ⟨(gt_at 203 (by decide +kernel) rfl), (gt_at 50 (by decide +kernel) rfl), by decide +kernel⟩
theorem ki_Lm_readInto : Cond.instanceMethod M_Lm_readInto.1 ∈ lw_gt := gt_at 202 (by decide +kernel) rfl
theorem kz_Lm_readInto : Cond.selects M_Lm_readInto.1.cls M_Lm_readInto.1 M_Lm_readInto.1 ∈ lw_gt := gt_at 0 (by decide +kernel) rfl
theorem k_Rd_begin : okM M_Rd_begin 1 := ⟨(gt_at 207 (by decide +kernel) rfl), (gt_at 52 (by decide +kernel) rfl), by decide +kernel⟩
theorem ki_Rd_begin : Cond.instanceMethod M_Rd_begin.1 ∈ lw_gt := gt_at 205 (by decide +kernel) rfl
theorem kz_Rd_begin : Cond.selects M_Rd_begin.1.cls M_Rd_begin.1 M_Rd_begin.1 ∈ lw_gt := gt_at 206 (by decide +kernel) rfl
theorem k_Ln_clear : okM M_Ln_clear 0 := ⟨(gt_at 211 (by decide +kernel) rfl), (gt_at 51 (by decide +kernel) rfl), by decide +kernel⟩
theorem ki_Ln_clear : Cond.instanceMethod M_Ln_clear.1 ∈ lw_gt := gt_at 209 (by decide +kernel) rfl
theorem kz_Ln_clear : Cond.selects M_Ln_clear.1.cls M_Ln_clear.1 M_Ln_clear.1 ∈ lw_gt := gt_at 210 (by decide +kernel) rfl
theorem k_Rd_takes : okM M_Rd_takes 2 := ⟨(gt_at 215 (by decide +kernel) rfl), (gt_at 52 (by decide +kernel) rfl), by decide +kernel⟩
theorem ki_Rd_takes : Cond.instanceMethod M_Rd_takes.1 ∈ lw_gt := gt_at 213 (by decide +kernel) rfl
theorem kz_Rd_takes : Cond.selects M_Rd_takes.1.cls M_Rd_takes.1 M_Rd_takes.1 ∈ lw_gt := gt_at 214 (by decide +kernel) rfl
theorem k_Rd_goesOn : okM M_Rd_goesOn 2 := ⟨(gt_at 219 (by decide +kernel) rfl), (gt_at 52 (by decide +kernel) rfl), by decide +kernel⟩
theorem ki_Rd_goesOn : Cond.instanceMethod M_Rd_goesOn.1 ∈ lw_gt := gt_at 218 (by decide +kernel) rfl
theorem kz_Rd_goesOn : Cond.selects M_Rd_goesOn.1.cls M_Rd_goesOn.1 M_Rd_goesOn.1 ∈ lw_gt := gt_at 1 (by decide +kernel) rfl
theorem k_Rd_takesPart : okM M_Rd_takesPart 2 := ⟨(gt_at 223 (by decide +kernel) rfl), (gt_at 52 (by decide +kernel) rfl), by decide +kernel⟩
theorem ki_Rd_takesPart : Cond.instanceMethod M_Rd_takesPart.1 ∈ lw_gt := gt_at 222 (by decide +kernel) rfl
theorem kz_Rd_takesPart : Cond.selects M_Rd_takesPart.1.cls M_Rd_takesPart.1 M_Rd_takesPart.1 ∈ lw_gt := gt_at 2 (by decide +kernel) rfl
theorem k_Rd_takesFigure : okM M_Rd_takesFigure 2 := ⟨(gt_at 227 (by decide +kernel) rfl), (gt_at 52 (by decide +kernel) rfl), by decide +kernel⟩
theorem ki_Rd_takesFigure : Cond.instanceMethod M_Rd_takesFigure.1 ∈ lw_gt := gt_at 226 (by decide +kernel) rfl
theorem kz_Rd_takesFigure : Cond.selects M_Rd_takesFigure.1.cls M_Rd_takesFigure.1 M_Rd_takesFigure.1 ∈ lw_gt := gt_at 3 (by decide +kernel) rfl
theorem k_Lm_isWind : okM M_Lm_isWind 1 := ⟨(gt_at 230 (by decide +kernel) rfl), (gt_at 50 (by decide +kernel) rfl), by decide +kernel⟩
theorem ks_Lm_isWind : Cond.static M_Lm_isWind.1 ∈ lw_gt := gt_at 229 (by decide +kernel) rfl
theorem k_Ln_isFree : okM M_Ln_isFree 1 := ⟨(gt_at 234 (by decide +kernel) rfl), (gt_at 51 (by decide +kernel) rfl), by decide +kernel⟩
theorem ki_Ln_isFree : Cond.instanceMethod M_Ln_isFree.1 ∈ lw_gt := gt_at 232 (by decide +kernel) rfl
theorem kz_Ln_isFree : Cond.selects M_Ln_isFree.1.cls M_Ln_isFree.1 M_Ln_isFree.1 ∈ lw_gt := gt_at 233 (by decide +kernel) rfl
theorem k_Ln_addWindow : okM M_Ln_addWindow 3 := ⟨(gt_at 238 (by decide +kernel) rfl), (gt_at 51 (by decide +kernel) rfl), by decide +kernel⟩
theorem ki_Ln_addWindow : Cond.instanceMethod M_Ln_addWindow.1 ∈ lw_gt := gt_at 236 (by decide +kernel) rfl
theorem kz_Ln_addWindow : Cond.selects M_Ln_addWindow.1.cls M_Ln_addWindow.1 M_Ln_addWindow.1 ∈ lw_gt := gt_at 237 (by decide +kernel) rfl
theorem k_Ln_addMoth : okM M_Ln_addMoth 2 := ⟨(gt_at 242 (by decide +kernel) rfl), (gt_at 51 (by decide +kernel) rfl), by decide +kernel⟩
theorem ki_Ln_addMoth : Cond.instanceMethod M_Ln_addMoth.1 ∈ lw_gt := gt_at 240 (by decide +kernel) rfl
theorem kz_Ln_addMoth : Cond.selects M_Ln_addMoth.1.cls M_Ln_addMoth.1 M_Ln_addMoth.1 ∈ lw_gt := gt_at 241 (by decide +kernel) rfl
theorem k_Rd_mayEnd : okM M_Rd_mayEnd 0 := ⟨(gt_at 246 (by decide +kernel) rfl), (gt_at 52 (by decide +kernel) rfl), by decide +kernel⟩
theorem ki_Rd_mayEnd : Cond.instanceMethod M_Rd_mayEnd.1 ∈ lw_gt := gt_at 244 (by decide +kernel) rfl
theorem kz_Rd_mayEnd : Cond.selects M_Rd_mayEnd.1.cls M_Rd_mayEnd.1 M_Rd_mayEnd.1 ∈ lw_gt := gt_at 245 (by decide +kernel) rfl
theorem k_Lm_street : okM M_Lm_street 0 := ⟨(gt_at 250 (by decide +kernel) rfl), (gt_at 50 (by decide +kernel) rfl), by decide +kernel⟩
theorem ki_Lm_street : Cond.instanceMethod M_Lm_street.1 ∈ lw_gt := gt_at 248 (by decide +kernel) rfl
theorem kz_Lm_street : Cond.selects M_Lm_street.1.cls M_Lm_street.1 M_Lm_street.1 ∈ lw_gt := gt_at 249 (by decide +kernel) rfl
theorem k_Ln_copyFrom : okM M_Ln_copyFrom 1 := ⟨(gt_at 254 (by decide +kernel) rfl), (gt_at 51 (by decide +kernel) rfl), by decide +kernel⟩
theorem ki_Ln_copyFrom : Cond.instanceMethod M_Ln_copyFrom.1 ∈ lw_gt := gt_at 252 (by decide +kernel) rfl
theorem kz_Ln_copyFrom : Cond.selects M_Ln_copyFrom.1.cls M_Ln_copyFrom.1 M_Ln_copyFrom.1 ∈ lw_gt := gt_at 253 (by decide +kernel) rfl
theorem k_Lm_about : okM M_Lm_about 1 := ⟨(gt_at 258 (by decide +kernel) rfl), (gt_at 50 (by decide +kernel) rfl), by decide +kernel⟩
theorem ki_Lm_about : Cond.instanceMethod M_Lm_about.1 ∈ lw_gt := gt_at 256 (by decide +kernel) rfl
theorem kz_Lm_about : Cond.selects M_Lm_about.1.cls M_Lm_about.1 M_Lm_about.1 ∈ lw_gt := gt_at 257 (by decide +kernel) rfl
theorem k_Ln_paidByAll : okM M_Ln_paidByAll 0 := ⟨(gt_at 262 (by decide +kernel) rfl), (gt_at 51 (by decide +kernel) rfl), by decide +kernel⟩
theorem ki_Ln_paidByAll : Cond.instanceMethod M_Ln_paidByAll.1 ∈ lw_gt := gt_at 260 (by decide +kernel) rfl
theorem kz_Ln_paidByAll : Cond.selects M_Ln_paidByAll.1.cls M_Ln_paidByAll.1 M_Ln_paidByAll.1 ∈ lw_gt := gt_at 261 (by decide +kernel) rfl
theorem k_Ln_owedByAll : okM M_Ln_owedByAll 0 := ⟨(gt_at 266 (by decide +kernel) rfl), (gt_at 51 (by decide +kernel) rfl), by decide +kernel⟩
theorem ki_Ln_owedByAll : Cond.instanceMethod M_Ln_owedByAll.1 ∈ lw_gt := gt_at 264 (by decide +kernel) rfl
theorem kz_Ln_owedByAll : Cond.selects M_Ln_owedByAll.1.cls M_Ln_owedByAll.1 M_Ln_owedByAll.1 ∈ lw_gt := gt_at 265 (by decide +kernel) rfl
theorem k_Ln_reckon : okM M_Ln_reckon 0 := ⟨(gt_at 270 (by decide +kernel) rfl), (gt_at 51 (by decide +kernel) rfl), by decide +kernel⟩
theorem ki_Ln_reckon : Cond.instanceMethod M_Ln_reckon.1 ∈ lw_gt := gt_at 269 (by decide +kernel) rfl
theorem kz_Ln_reckon : Cond.selects M_Ln_reckon.1.cls M_Ln_reckon.1 M_Ln_reckon.1 ∈ lw_gt := gt_at 4 (by decide +kernel) rfl
theorem k_Ln_drawersOf : okM M_Ln_drawersOf 1 := ⟨(gt_at 274 (by decide +kernel) rfl), (gt_at 51 (by decide +kernel) rfl), by decide +kernel⟩
theorem ki_Ln_drawersOf : Cond.instanceMethod M_Ln_drawersOf.1 ∈ lw_gt := gt_at 272 (by decide +kernel) rfl
theorem kz_Ln_drawersOf : Cond.selects M_Ln_drawersOf.1.cls M_Ln_drawersOf.1 M_Ln_drawersOf.1 ∈ lw_gt := gt_at 273 (by decide +kernel) rfl
theorem k_Ln_tug : okM M_Ln_tug 2 := ⟨(gt_at 278 (by decide +kernel) rfl), (gt_at 51 (by decide +kernel) rfl), by decide +kernel⟩
theorem ki_Ln_tug : Cond.instanceMethod M_Ln_tug.1 ∈ lw_gt := gt_at 276 (by decide +kernel) rfl
theorem kz_Ln_tug : Cond.selects M_Ln_tug.1.cls M_Ln_tug.1 M_Ln_tug.1 ∈ lw_gt := gt_at 277 (by decide +kernel) rfl
theorem k_Ln_hasWindow : okM M_Ln_hasWindow 1 := ⟨(gt_at 282 (by decide +kernel) rfl), (gt_at 51 (by decide +kernel) rfl), by decide +kernel⟩
theorem ki_Ln_hasWindow : Cond.instanceMethod M_Ln_hasWindow.1 ∈ lw_gt := gt_at 280 (by decide +kernel) rfl
theorem kz_Ln_hasWindow : Cond.selects M_Ln_hasWindow.1.cls M_Ln_hasWindow.1 M_Ln_hasWindow.1 ∈ lw_gt := gt_at 281 (by decide +kernel) rfl
theorem k_Ln_hasMoth : okM M_Ln_hasMoth 1 := ⟨(gt_at 286 (by decide +kernel) rfl), (gt_at 51 (by decide +kernel) rfl), by decide +kernel⟩
theorem ki_Ln_hasMoth : Cond.instanceMethod M_Ln_hasMoth.1 ∈ lw_gt := gt_at 284 (by decide +kernel) rfl
theorem kz_Ln_hasMoth : Cond.selects M_Ln_hasMoth.1.cls M_Ln_hasMoth.1 M_Ln_hasMoth.1 ∈ lw_gt := gt_at 285 (by decide +kernel) rfl
theorem k_Jm_abs : okM M_Jm_abs 1 := ⟨(gt_at 289 (by decide +kernel) rfl), (gt_at 54 (by decide +kernel) rfl), by decide +kernel⟩
theorem ks_Jm_abs : Cond.static M_Jm_abs.1 ∈ lw_gt := gt_at 288 (by decide +kernel) rfl
theorem k_Ln_glow : okM M_Ln_glow 1 := ⟨(gt_at 293 (by decide +kernel) rfl), (gt_at 51 (by decide +kernel) rfl), by decide +kernel⟩
theorem ki_Ln_glow : Cond.instanceMethod M_Ln_glow.1 ∈ lw_gt := gt_at 292 (by decide +kernel) rfl
theorem kz_Ln_glow : Cond.selects M_Ln_glow.1.cls M_Ln_glow.1 M_Ln_glow.1 ∈ lw_gt := gt_at 5 (by decide +kernel) rfl
theorem k_Ln_windHelp : okM M_Ln_windHelp 2 := ⟨(gt_at 297 (by decide +kernel) rfl), (gt_at 51 (by decide +kernel) rfl), by decide +kernel⟩
theorem ki_Ln_windHelp : Cond.instanceMethod M_Ln_windHelp.1 ∈ lw_gt := gt_at 296 (by decide +kernel) rfl
theorem kz_Ln_windHelp : Cond.selects M_Ln_windHelp.1.cls M_Ln_windHelp.1 M_Ln_windHelp.1 ∈ lw_gt := gt_at 6 (by decide +kernel) rfl
theorem k_Ln_sweetness : okM M_Ln_sweetness 2 := ⟨(gt_at 301 (by decide +kernel) rfl), (gt_at 51 (by decide +kernel) rfl), by decide +kernel⟩
theorem ki_Ln_sweetness : Cond.instanceMethod M_Ln_sweetness.1 ∈ lw_gt := gt_at 300 (by decide +kernel) rfl
theorem kz_Ln_sweetness : Cond.selects M_Ln_sweetness.1.cls M_Ln_sweetness.1 M_Ln_sweetness.1 ∈ lw_gt := gt_at 7 (by decide +kernel) rfl
theorem k_Jm_max : okM M_Jm_max 2 := ⟨(gt_at 304 (by decide +kernel) rfl), (gt_at 54 (by decide +kernel) rfl), by decide +kernel⟩
theorem ks_Jm_max : Cond.static M_Jm_max.1 ∈ lw_gt := gt_at 303 (by decide +kernel) rfl
theorem k_Ln_taxOf : okM M_Ln_taxOf 1 := ⟨(gt_at 308 (by decide +kernel) rfl), (gt_at 51 (by decide +kernel) rfl), by decide +kernel⟩
theorem ki_Ln_taxOf : Cond.instanceMethod M_Ln_taxOf.1 ∈ lw_gt := gt_at 307 (by decide +kernel) rfl
theorem kz_Ln_taxOf : Cond.selects M_Ln_taxOf.1.cls M_Ln_taxOf.1 M_Ln_taxOf.1 ∈ lw_gt := gt_at 8 (by decide +kernel) rfl
theorem k_Ln_charge : okM M_Ln_charge 2 := ⟨(gt_at 312 (by decide +kernel) rfl), (gt_at 51 (by decide +kernel) rfl), by decide +kernel⟩
theorem ki_Ln_charge : Cond.instanceMethod M_Ln_charge.1 ∈ lw_gt := gt_at 311 (by decide +kernel) rfl
theorem kz_Ln_charge : Cond.selects M_Ln_charge.1.cls M_Ln_charge.1 M_Ln_charge.1 ∈ lw_gt := gt_at 9 (by decide +kernel) rfl
theorem k_Ji_bitCount : okM M_Ji_bitCount 1 := ⟨(gt_at 315 (by decide +kernel) rfl), (gt_at 55 (by decide +kernel) rfl), by decide +kernel⟩
theorem ks_Ji_bitCount : Cond.static M_Ji_bitCount.1 ∈ lw_gt := gt_at 314 (by decide +kernel) rfl
theorem k_Ln_readers : okM M_Ln_readers 0 := ⟨(gt_at 322 (by decide +kernel) rfl), (gt_at 51 (by decide +kernel) rfl), by decide +kernel⟩
theorem ki_Ln_readers : Cond.instanceMethod M_Ln_readers.1 ∈ lw_gt := gt_at 320 (by decide +kernel) rfl
theorem kz_Ln_readers : Cond.selects M_Ln_readers.1.cls M_Ln_readers.1 M_Ln_readers.1 ∈ lw_gt := gt_at 321 (by decide +kernel) rfl
theorem k_Ln_reads : okM M_Ln_reads 1 := ⟨(gt_at 326 (by decide +kernel) rfl), (gt_at 51 (by decide +kernel) rfl), by decide +kernel⟩
theorem ki_Ln_reads : Cond.instanceMethod M_Ln_reads.1 ∈ lw_gt := gt_at 324 (by decide +kernel) rfl
theorem kz_Ln_reads : Cond.selects M_Ln_reads.1.cls M_Ln_reads.1 M_Ln_reads.1 ∈ lw_gt := gt_at 325 (by decide +kernel) rfl
theorem k_Lm_window : okM M_Lm_window 2 := ⟨(gt_at 330 (by decide +kernel) rfl), (gt_at 50 (by decide +kernel) rfl), by decide +kernel⟩
theorem ki_Lm_window : Cond.instanceMethod M_Lm_window.1 ∈ lw_gt := gt_at 328 (by decide +kernel) rfl
theorem kz_Lm_window : Cond.selects M_Lm_window.1.cls M_Lm_window.1 M_Lm_window.1 ∈ lw_gt := gt_at 329 (by decide +kernel) rfl
theorem k_Ln_owedBy : okM M_Ln_owedBy 1 := ⟨(gt_at 335 (by decide +kernel) rfl), (gt_at 51 (by decide +kernel) rfl), by decide +kernel⟩
theorem ki_Ln_owedBy : Cond.instanceMethod M_Ln_owedBy.1 ∈ lw_gt := gt_at 333 (by decide +kernel) rfl
theorem kz_Ln_owedBy : Cond.selects M_Ln_owedBy.1.cls M_Ln_owedBy.1 M_Ln_owedBy.1 ∈ lw_gt := gt_at 334 (by decide +kernel) rfl
theorem k_Ln_mothsDrawnBy : okM M_Ln_mothsDrawnBy 1 := ⟨(gt_at 339 (by decide +kernel) rfl), (gt_at 51 (by decide +kernel) rfl), by decide +kernel⟩
theorem ki_Ln_mothsDrawnBy : Cond.instanceMethod M_Ln_mothsDrawnBy.1 ∈ lw_gt := gt_at 337 (by decide +kernel) rfl
theorem kz_Ln_mothsDrawnBy : Cond.selects M_Ln_mothsDrawnBy.1.cls M_Ln_mothsDrawnBy.1 M_Ln_mothsDrawnBy.1 ∈ lw_gt := gt_at 338 (by decide +kernel) rfl
theorem k_Lm_moth : okM M_Lm_moth 2 := ⟨(gt_at 344 (by decide +kernel) rfl), (gt_at 50 (by decide +kernel) rfl), by decide +kernel⟩
theorem ki_Lm_moth : Cond.instanceMethod M_Lm_moth.1 ∈ lw_gt := gt_at 342 (by decide +kernel) rfl
theorem kz_Lm_moth : Cond.selects M_Lm_moth.1.cls M_Lm_moth.1 M_Lm_moth.1 ∈ lw_gt := gt_at 343 (by decide +kernel) rfl
theorem k_Ln_greatestTugOn : okM M_Ln_greatestTugOn 1 := ⟨(gt_at 350 (by decide +kernel) rfl), (gt_at 51 (by decide +kernel) rfl), by decide +kernel⟩
theorem ki_Ln_greatestTugOn : Cond.instanceMethod M_Ln_greatestTugOn.1 ∈ lw_gt := gt_at 348 (by decide +kernel) rfl
theorem kz_Ln_greatestTugOn : Cond.selects M_Ln_greatestTugOn.1.cls M_Ln_greatestTugOn.1 M_Ln_greatestTugOn.1 ∈ lw_gt := gt_at 349 (by decide +kernel) rfl
theorem k_Lm_pull : okM M_Lm_pull 2 := ⟨(gt_at 354 (by decide +kernel) rfl), (gt_at 50 (by decide +kernel) rfl), by decide +kernel⟩
theorem ki_Lm_pull : Cond.instanceMethod M_Lm_pull.1 ∈ lw_gt := gt_at 352 (by decide +kernel) rfl
theorem kz_Lm_pull : Cond.selects M_Lm_pull.1.cls M_Lm_pull.1 M_Lm_pull.1 ∈ lw_gt := gt_at 353 (by decide +kernel) rfl
theorem k_Lm_up : okM M_Lm_up 1 := ⟨(gt_at 359 (by decide +kernel) rfl), (gt_at 50 (by decide +kernel) rfl), by decide +kernel⟩
theorem ki_Lm_up : Cond.instanceMethod M_Lm_up.1 ∈ lw_gt := gt_at 357 (by decide +kernel) rfl
theorem kz_Lm_up : Cond.selects M_Lm_up.1.cls M_Lm_up.1 M_Lm_up.1 ∈ lw_gt := gt_at 358 (by decide +kernel) rfl
theorem k_Lm_turned : okM M_Lm_turned 2 := ⟨(gt_at 363 (by decide +kernel) rfl), (gt_at 50 (by decide +kernel) rfl), by decide +kernel⟩
theorem ki_Lm_turned : Cond.instanceMethod M_Lm_turned.1 ∈ lw_gt := gt_at 362 (by decide +kernel) rfl
theorem kz_Lm_turned : Cond.selects M_Lm_turned.1.cls M_Lm_turned.1 M_Lm_turned.1 ∈ lw_gt := gt_at 10 (by decide +kernel) rfl
theorem k_Ln_canTurn : okM M_Ln_canTurn 2 := ⟨(gt_at 367 (by decide +kernel) rfl), (gt_at 51 (by decide +kernel) rfl), by decide +kernel⟩
theorem ki_Ln_canTurn : Cond.instanceMethod M_Ln_canTurn.1 ∈ lw_gt := gt_at 365 (by decide +kernel) rfl
theorem kz_Ln_canTurn : Cond.selects M_Ln_canTurn.1.cls M_Ln_canTurn.1 M_Ln_canTurn.1 ∈ lw_gt := gt_at 366 (by decide +kernel) rfl
theorem k_Lm_remember : okM M_Lm_remember 0 := ⟨(gt_at 371 (by decide +kernel) rfl), (gt_at 50 (by decide +kernel) rfl), by decide +kernel⟩
theorem ki_Lm_remember : Cond.instanceMethod M_Lm_remember.1 ∈ lw_gt := gt_at 370 (by decide +kernel) rfl
theorem kz_Lm_remember : Cond.selects M_Lm_remember.1.cls M_Lm_remember.1 M_Lm_remember.1 ∈ lw_gt := gt_at 11 (by decide +kernel) rfl
theorem k_Lm_forgetFirstAct : okM M_Lm_forgetFirstAct 0 := ⟨(gt_at 375 (by decide +kernel) rfl), (gt_at 50 (by decide +kernel) rfl), by decide +kernel⟩
theorem ki_Lm_forgetFirstAct : Cond.instanceMethod M_Lm_forgetFirstAct.1 ∈ lw_gt := gt_at 374 (by decide +kernel) rfl
theorem kz_Lm_forgetFirstAct : Cond.selects M_Lm_forgetFirstAct.1.cls M_Lm_forgetFirstAct.1 M_Lm_forgetFirstAct.1 ∈ lw_gt := gt_at 12 (by decide +kernel) rfl
theorem k_Ln_save : okM M_Ln_save 1 := ⟨(gt_at 379 (by decide +kernel) rfl), (gt_at 51 (by decide +kernel) rfl), by decide +kernel⟩
theorem ki_Ln_save : Cond.instanceMethod M_Ln_save.1 ∈ lw_gt := gt_at 377 (by decide +kernel) rfl
theorem kz_Ln_save : Cond.selects M_Ln_save.1.cls M_Ln_save.1 M_Ln_save.1 ∈ lw_gt := gt_at 378 (by decide +kernel) rfl
theorem k_Ln_turn : okM M_Ln_turn 2 := ⟨(gt_at 383 (by decide +kernel) rfl), (gt_at 51 (by decide +kernel) rfl), by decide +kernel⟩
theorem ki_Ln_turn : Cond.instanceMethod M_Ln_turn.1 ∈ lw_gt := gt_at 381 (by decide +kernel) rfl
theorem kz_Ln_turn : Cond.selects M_Ln_turn.1.cls M_Ln_turn.1 M_Ln_turn.1 ∈ lw_gt := gt_at 382 (by decide +kernel) rfl
theorem k_Lm_down : okM M_Lm_down 1 := ⟨(gt_at 388 (by decide +kernel) rfl), (gt_at 50 (by decide +kernel) rfl), by decide +kernel⟩
theorem ki_Lm_down : Cond.instanceMethod M_Lm_down.1 ∈ lw_gt := gt_at 386 (by decide +kernel) rfl
theorem kz_Lm_down : Cond.selects M_Lm_down.1.cls M_Lm_down.1 M_Lm_down.1 ∈ lw_gt := gt_at 387 (by decide +kernel) rfl
theorem k_Lm_blow : okM M_Lm_blow 1 := ⟨(gt_at 392 (by decide +kernel) rfl), (gt_at 50 (by decide +kernel) rfl), by decide +kernel⟩
theorem ki_Lm_blow : Cond.instanceMethod M_Lm_blow.1 ∈ lw_gt := gt_at 390 (by decide +kernel) rfl
theorem kz_Lm_blow : Cond.selects M_Lm_blow.1.cls M_Lm_blow.1 M_Lm_blow.1 ∈ lw_gt := gt_at 391 (by decide +kernel) rfl
theorem k_Lm_move : okM M_Lm_move 1 := ⟨(gt_at 397 (by decide +kernel) rfl), (gt_at 50 (by decide +kernel) rfl), by decide +kernel⟩
theorem ki_Lm_move : Cond.instanceMethod M_Lm_move.1 ∈ lw_gt := gt_at 395 (by decide +kernel) rfl
theorem kz_Lm_move : Cond.selects M_Lm_move.1.cls M_Lm_move.1 M_Lm_move.1 ∈ lw_gt := gt_at 396 (by decide +kernel) rfl
theorem k_Lm_isHoneyPlace : okM M_Lm_isHoneyPlace 1 := ⟨(gt_at 400 (by decide +kernel) rfl), (gt_at 50 (by decide +kernel) rfl), by decide +kernel⟩
theorem ks_Lm_isHoneyPlace : Cond.static M_Lm_isHoneyPlace.1 ∈ lw_gt := gt_at 399 (by decide +kernel) rfl
theorem k_Lm_night : okM M_Lm_night 0 := ⟨(gt_at 404 (by decide +kernel) rfl), (gt_at 50 (by decide +kernel) rfl), by decide +kernel⟩
theorem ki_Lm_night : Cond.instanceMethod M_Lm_night.1 ∈ lw_gt := gt_at 402 (by decide +kernel) rfl
theorem kz_Lm_night : Cond.selects M_Lm_night.1.cls M_Lm_night.1 M_Lm_night.1 ∈ lw_gt := gt_at 403 (by decide +kernel) rfl
theorem k_Ln_passNight : okM M_Ln_passNight 0 := ⟨(gt_at 408 (by decide +kernel) rfl), (gt_at 51 (by decide +kernel) rfl), by decide +kernel⟩
theorem ki_Ln_passNight : Cond.instanceMethod M_Ln_passNight.1 ∈ lw_gt := gt_at 406 (by decide +kernel) rfl
theorem kz_Ln_passNight : Cond.selects M_Ln_passNight.1.cls M_Ln_passNight.1 M_Ln_passNight.1 ∈ lw_gt := gt_at 407 (by decide +kernel) rfl
theorem k_Ln_flyNearer : okM M_Ln_flyNearer 2 := ⟨(gt_at 412 (by decide +kernel) rfl), (gt_at 51 (by decide +kernel) rfl), by decide +kernel⟩
theorem ki_Ln_flyNearer : Cond.instanceMethod M_Ln_flyNearer.1 ∈ lw_gt := gt_at 411 (by decide +kernel) rfl
theorem kz_Ln_flyNearer : Cond.selects M_Ln_flyNearer.1.cls M_Ln_flyNearer.1 M_Ln_flyNearer.1 ∈ lw_gt := gt_at 13 (by decide +kernel) rfl
theorem k_Ji_numberOfTrailingZeros : okM M_Ji_numberOfTrailingZeros 1 := ⟨(gt_at 415 (by decide +kernel) rfl), (gt_at 55 (by decide +kernel) rfl), by decide +kernel⟩
theorem ks_Ji_numberOfTrailingZeros : Cond.static M_Ji_numberOfTrailingZeros.1 ∈ lw_gt := gt_at 414 (by decide +kernel) rfl
theorem k_Ji_compare : okM M_Ji_compare 2 := ⟨(gt_at 419 (by decide +kernel) rfl), (gt_at 55 (by decide +kernel) rfl), by decide +kernel⟩
theorem ks_Ji_compare : Cond.static M_Ji_compare.1 ∈ lw_gt := gt_at 418 (by decide +kernel) rfl
theorem k_Lm_undo : okM M_Lm_undo 0 := ⟨(gt_at 423 (by decide +kernel) rfl), (gt_at 50 (by decide +kernel) rfl), by decide +kernel⟩
theorem ki_Lm_undo : Cond.instanceMethod M_Lm_undo.1 ∈ lw_gt := gt_at 421 (by decide +kernel) rfl
theorem kz_Lm_undo : Cond.selects M_Lm_undo.1.cls M_Lm_undo.1 M_Lm_undo.1 ∈ lw_gt := gt_at 422 (by decide +kernel) rfl
theorem k_Ln_load : okM M_Ln_load 1 := ⟨(gt_at 427 (by decide +kernel) rfl), (gt_at 51 (by decide +kernel) rfl), by decide +kernel⟩
theorem ki_Ln_load : Cond.instanceMethod M_Ln_load.1 ∈ lw_gt := gt_at 425 (by decide +kernel) rfl
theorem kz_Ln_load : Cond.selects M_Ln_load.1.cls M_Ln_load.1 M_Ln_load.1 ∈ lw_gt := gt_at 426 (by decide +kernel) rfl
theorem k_Lm_dim : okM M_Lm_dim 2 := ⟨(gt_at 431 (by decide +kernel) rfl), (gt_at 50 (by decide +kernel) rfl), by decide +kernel⟩
theorem ki_Lm_dim : Cond.instanceMethod M_Lm_dim.1 ∈ lw_gt := gt_at 429 (by decide +kernel) rfl
theorem kz_Lm_dim : Cond.selects M_Lm_dim.1.cls M_Lm_dim.1 M_Lm_dim.1 ∈ lw_gt := gt_at 430 (by decide +kernel) rfl
theorem k_Lm_isSum : okM M_Lm_isSum 1 := ⟨(gt_at 434 (by decide +kernel) rfl), (gt_at 50 (by decide +kernel) rfl), by decide +kernel⟩
theorem ks_Lm_isSum : Cond.static M_Lm_isSum.1 ∈ lw_gt := gt_at 433 (by decide +kernel) rfl
theorem k_Lm_owesAtMost : okM M_Lm_owesAtMost 3 := ⟨(gt_at 438 (by decide +kernel) rfl), (gt_at 50 (by decide +kernel) rfl), by decide +kernel⟩
theorem ki_Lm_owesAtMost : Cond.instanceMethod M_Lm_owesAtMost.1 ∈ lw_gt := gt_at 437 (by decide +kernel) rfl
theorem kz_Lm_owesAtMost : Cond.selects M_Lm_owesAtMost.1.cls M_Lm_owesAtMost.1 M_Lm_owesAtMost.1 ∈ lw_gt := gt_at 14 (by decide +kernel) rfl
theorem k_Lm_cheap : okM M_Lm_cheap 1 := ⟨(gt_at 442 (by decide +kernel) rfl), (gt_at 50 (by decide +kernel) rfl), by decide +kernel⟩
theorem ki_Lm_cheap : Cond.instanceMethod M_Lm_cheap.1 ∈ lw_gt := gt_at 440 (by decide +kernel) rfl
theorem kz_Lm_cheap : Cond.selects M_Lm_cheap.1.cls M_Lm_cheap.1 M_Lm_cheap.1 ∈ lw_gt := gt_at 441 (by decide +kernel) rfl
theorem k_Lm_power : okM M_Lm_power 2 := ⟨(gt_at 445 (by decide +kernel) rfl), (gt_at 50 (by decide +kernel) rfl), by decide +kernel⟩
theorem ks_Lm_power : Cond.static M_Lm_power.1 ∈ lw_gt := gt_at 444 (by decide +kernel) rfl
theorem k_Ln_burnByThrees : okM M_Ln_burnByThrees 1 := ⟨(gt_at 449 (by decide +kernel) rfl), (gt_at 51 (by decide +kernel) rfl), by decide +kernel⟩
theorem ki_Ln_burnByThrees : Cond.instanceMethod M_Ln_burnByThrees.1 ∈ lw_gt := gt_at 447 (by decide +kernel) rfl
theorem kz_Ln_burnByThrees : Cond.selects M_Ln_burnByThrees.1.cls M_Ln_burnByThrees.1 M_Ln_burnByThrees.1 ∈ lw_gt := gt_at 448 (by decide +kernel) rfl
theorem k_Ln_allRead : okM M_Ln_allRead 0 := ⟨(gt_at 453 (by decide +kernel) rfl), (gt_at 51 (by decide +kernel) rfl), by decide +kernel⟩
theorem ki_Ln_allRead : Cond.instanceMethod M_Ln_allRead.1 ∈ lw_gt := gt_at 451 (by decide +kernel) rfl
theorem kz_Ln_allRead : Cond.selects M_Ln_allRead.1.cls M_Ln_allRead.1 M_Ln_allRead.1 ∈ lw_gt := gt_at 452 (by decide +kernel) rfl
theorem k_Ln_burnsAsRow : okM M_Ln_burnsAsRow 0 := ⟨(gt_at 458 (by decide +kernel) rfl), (gt_at 51 (by decide +kernel) rfl), by decide +kernel⟩
theorem ki_Ln_burnsAsRow : Cond.instanceMethod M_Ln_burnsAsRow.1 ∈ lw_gt := gt_at 456 (by decide +kernel) rfl
theorem kz_Ln_burnsAsRow : Cond.selects M_Ln_burnsAsRow.1.cls M_Ln_burnsAsRow.1 M_Ln_burnsAsRow.1 ∈ lw_gt := gt_at 457 (by decide +kernel) rfl
theorem k_Lm_moving : okM M_Lm_moving 1 := ⟨(gt_at 462 (by decide +kernel) rfl), (gt_at 50 (by decide +kernel) rfl), by decide +kernel⟩
theorem ki_Lm_moving : Cond.instanceMethod M_Lm_moving.1 ∈ lw_gt := gt_at 460 (by decide +kernel) rfl
theorem kz_Lm_moving : Cond.selects M_Lm_moving.1.cls M_Lm_moving.1 M_Lm_moving.1 ∈ lw_gt := gt_at 461 (by decide +kernel) rfl
theorem k_Lm_judge : okM M_Lm_judge 2 := ⟨(gt_at 467 (by decide +kernel) rfl), (gt_at 50 (by decide +kernel) rfl), by decide +kernel⟩
theorem ki_Lm_judge : Cond.instanceMethod M_Lm_judge.1 ∈ lw_gt := gt_at 465 (by decide +kernel) rfl
theorem kz_Lm_judge : Cond.selects M_Lm_judge.1.cls M_Lm_judge.1 M_Lm_judge.1 ∈ lw_gt := gt_at 466 (by decide +kernel) rfl
theorem k_Lm_didOnTrial : okM M_Lm_didOnTrial 2 := ⟨(gt_at 471 (by decide +kernel) rfl), (gt_at 50 (by decide +kernel) rfl), by decide +kernel⟩
theorem ki_Lm_didOnTrial : Cond.instanceMethod M_Lm_didOnTrial.1 ∈ lw_gt := gt_at 470 (by decide +kernel) rfl
theorem kz_Lm_didOnTrial : Cond.selects M_Lm_didOnTrial.1.cls M_Lm_didOnTrial.1 M_Lm_didOnTrial.1 ∈ lw_gt := gt_at 15 (by decide +kernel) rfl
theorem k_Lm_blewOnTrial : okM M_Lm_blewOnTrial 1 := ⟨(gt_at 475 (by decide +kernel) rfl), (gt_at 50 (by decide +kernel) rfl), by decide +kernel⟩
theorem ki_Lm_blewOnTrial : Cond.instanceMethod M_Lm_blewOnTrial.1 ∈ lw_gt := gt_at 474 (by decide +kernel) rfl
theorem kz_Lm_blewOnTrial : Cond.selects M_Lm_blewOnTrial.1.cls M_Lm_blewOnTrial.1 M_Lm_blewOnTrial.1 ∈ lw_gt := gt_at 16 (by decide +kernel) rfl
theorem k_Lm_movedOnTrial : okM M_Lm_movedOnTrial 1 := ⟨(gt_at 479 (by decide +kernel) rfl), (gt_at 50 (by decide +kernel) rfl), by decide +kernel⟩
theorem ki_Lm_movedOnTrial : Cond.instanceMethod M_Lm_movedOnTrial.1 ∈ lw_gt := gt_at 478 (by decide +kernel) rfl
theorem kz_Lm_movedOnTrial : Cond.selects M_Lm_movedOnTrial.1.cls M_Lm_movedOnTrial.1 M_Lm_movedOnTrial.1 ∈ lw_gt := gt_at 17 (by decide +kernel) rfl
theorem k_Lm_share : okM M_Lm_share 2 := ⟨(gt_at 483 (by decide +kernel) rfl), (gt_at 50 (by decide +kernel) rfl), by decide +kernel⟩
theorem ki_Lm_share : Cond.instanceMethod M_Lm_share.1 ∈ lw_gt := gt_at 481 (by decide +kernel) rfl
theorem kz_Lm_share : Cond.selects M_Lm_share.1.cls M_Lm_share.1 M_Lm_share.1 ∈ lw_gt := gt_at 482 (by decide +kernel) rfl
theorem k_Lm_reckonGroups : okM M_Lm_reckonGroups 0 := ⟨(gt_at 487 (by decide +kernel) rfl), (gt_at 50 (by decide +kernel) rfl), by decide +kernel⟩
theorem ki_Lm_reckonGroups : Cond.instanceMethod M_Lm_reckonGroups.1 ∈ lw_gt := gt_at 486 (by decide +kernel) rfl
theorem kz_Lm_reckonGroups : Cond.selects M_Lm_reckonGroups.1.cls M_Lm_reckonGroups.1 M_Lm_reckonGroups.1 ∈ lw_gt := gt_at 18 (by decide +kernel) rfl
theorem k_Lm_ordersWith : okM M_Lm_ordersWith 1 := ⟨(gt_at 492 (by decide +kernel) rfl), (gt_at 50 (by decide +kernel) rfl), by decide +kernel⟩
theorem ki_Lm_ordersWith : Cond.instanceMethod M_Lm_ordersWith.1 ∈ lw_gt := gt_at 491 (by decide +kernel) rfl
theorem kz_Lm_ordersWith : Cond.selects M_Lm_ordersWith.1.cls M_Lm_ordersWith.1 M_Lm_ordersWith.1 ∈ lw_gt := gt_at 19 (by decide +kernel) rfl
theorem k_Lm_factorial : okM M_Lm_factorial 1 := ⟨(gt_at 495 (by decide +kernel) rfl), (gt_at 50 (by decide +kernel) rfl), by decide +kernel⟩
theorem ks_Lm_factorial : Cond.static M_Lm_factorial.1 ∈ lw_gt := gt_at 494 (by decide +kernel) rfl
theorem k_Lm_told : okM M_Lm_told 3 := ⟨(gt_at 498 (by decide +kernel) rfl), (gt_at 50 (by decide +kernel) rfl), by decide +kernel⟩
theorem ks_Lm_told : Cond.static M_Lm_told.1 ∈ lw_gt := gt_at 497 (by decide +kernel) rfl
theorem k_Lm_commonDivisor : okM M_Lm_commonDivisor 2 := ⟨(gt_at 502 (by decide +kernel) rfl), (gt_at 50 (by decide +kernel) rfl), by decide +kernel⟩
theorem ks_Lm_commonDivisor : Cond.static M_Lm_commonDivisor.1 ∈ lw_gt := gt_at 501 (by decide +kernel) rfl
theorem k_Lm_count : okM M_Lm_count 3 := ⟨(gt_at 506 (by decide +kernel) rfl), (gt_at 50 (by decide +kernel) rfl), by decide +kernel⟩
theorem ki_Lm_count : Cond.instanceMethod M_Lm_count.1 ∈ lw_gt := gt_at 504 (by decide +kernel) rfl
theorem kz_Lm_count : Cond.selects M_Lm_count.1.cls M_Lm_count.1 M_Lm_count.1 ∈ lw_gt := gt_at 505 (by decide +kernel) rfl
theorem k_Lm_forget : okM M_Lm_forget 0 := ⟨(gt_at 510 (by decide +kernel) rfl), (gt_at 50 (by decide +kernel) rfl), by decide +kernel⟩
theorem ki_Lm_forget : Cond.instanceMethod M_Lm_forget.1 ∈ lw_gt := gt_at 508 (by decide +kernel) rfl
theorem kz_Lm_forget : Cond.selects M_Lm_forget.1.cls M_Lm_forget.1 M_Lm_forget.1 ∈ lw_gt := gt_at 509 (by decide +kernel) rfl
theorem k_Lm_honeys : okM M_Lm_honeys 0 := ⟨(gt_at 514 (by decide +kernel) rfl), (gt_at 50 (by decide +kernel) rfl), by decide +kernel⟩
theorem ki_Lm_honeys : Cond.instanceMethod M_Lm_honeys.1 ∈ lw_gt := gt_at 512 (by decide +kernel) rfl
theorem kz_Lm_honeys : Cond.selects M_Lm_honeys.1.cls M_Lm_honeys.1 M_Lm_honeys.1 ∈ lw_gt := gt_at 513 (by decide +kernel) rfl
theorem k_Lm_trialFitsCounted : okM M_Lm_trialFitsCounted 0 := ⟨(gt_at 518 (by decide +kernel) rfl), (gt_at 50 (by decide +kernel) rfl), by decide +kernel⟩
theorem ki_Lm_trialFitsCounted : Cond.instanceMethod M_Lm_trialFitsCounted.1 ∈ lw_gt := gt_at 517 (by decide +kernel) rfl
theorem kz_Lm_trialFitsCounted : Cond.selects M_Lm_trialFitsCounted.1.cls M_Lm_trialFitsCounted.1 M_Lm_trialFitsCounted.1 ∈ lw_gt := gt_at 20 (by decide +kernel) rfl
theorem k_Lm_rests : okM M_Lm_rests 3 := ⟨(gt_at 522 (by decide +kernel) rfl), (gt_at 50 (by decide +kernel) rfl), by decide +kernel⟩
theorem ki_Lm_rests : Cond.instanceMethod M_Lm_rests.1 ∈ lw_gt := gt_at 520 (by decide +kernel) rfl
theorem kz_Lm_rests : Cond.selects M_Lm_rests.1.cls M_Lm_rests.1 M_Lm_rests.1 ∈ lw_gt := gt_at 521 (by decide +kernel) rfl
theorem k_Lm_gain : okM M_Lm_gain 4 := ⟨(gt_at 526 (by decide +kernel) rfl), (gt_at 50 (by decide +kernel) rfl), by decide +kernel⟩
theorem ki_Lm_gain : Cond.instanceMethod M_Lm_gain.1 ∈ lw_gt := gt_at 525 (by decide +kernel) rfl
theorem kz_Lm_gain : Cond.selects M_Lm_gain.1.cls M_Lm_gain.1 M_Lm_gain.1 ∈ lw_gt := gt_at 21 (by decide +kernel) rfl
theorem k_Lm_clouds : okM M_Lm_clouds 3 := ⟨(gt_at 530 (by decide +kernel) rfl), (gt_at 50 (by decide +kernel) rfl), by decide +kernel⟩
theorem ki_Lm_clouds : Cond.instanceMethod M_Lm_clouds.1 ∈ lw_gt := gt_at 528 (by decide +kernel) rfl
theorem kz_Lm_clouds : Cond.selects M_Lm_clouds.1.cls M_Lm_clouds.1 M_Lm_clouds.1 ∈ lw_gt := gt_at 529 (by decide +kernel) rfl
theorem k_Ln_cloud : okM M_Ln_cloud 1 := ⟨(gt_at 534 (by decide +kernel) rfl), (gt_at 51 (by decide +kernel) rfl), by decide +kernel⟩
theorem ki_Ln_cloud : Cond.instanceMethod M_Ln_cloud.1 ∈ lw_gt := gt_at 532 (by decide +kernel) rfl
theorem kz_Ln_cloud : Cond.selects M_Ln_cloud.1.cls M_Ln_cloud.1 M_Ln_cloud.1 ∈ lw_gt := gt_at 533 (by decide +kernel) rfl
theorem k_Lm_seed : okM M_Lm_seed 1 := ⟨(gt_at 538 (by decide +kernel) rfl), (gt_at 50 (by decide +kernel) rfl), by decide +kernel⟩
theorem ki_Lm_seed : Cond.instanceMethod M_Lm_seed.1 ∈ lw_gt := gt_at 536 (by decide +kernel) rfl
theorem kz_Lm_seed : Cond.selects M_Lm_seed.1.cls M_Lm_seed.1 M_Lm_seed.1 ∈ lw_gt := gt_at 537 (by decide +kernel) rfl
theorem k_Lm_weeks : okM M_Lm_weeks 1 := ⟨(gt_at 542 (by decide +kernel) rfl), (gt_at 50 (by decide +kernel) rfl), by decide +kernel⟩
theorem ki_Lm_weeks : Cond.instanceMethod M_Lm_weeks.1 ∈ lw_gt := gt_at 540 (by decide +kernel) rfl
theorem kz_Lm_weeks : Cond.selects M_Lm_weeks.1.cls M_Lm_weeks.1 M_Lm_weeks.1 ∈ lw_gt := gt_at 541 (by decide +kernel) rfl
theorem k_Lm_passWeekOnTrial : okM M_Lm_passWeekOnTrial 1 := ⟨(gt_at 549 (by decide +kernel) rfl), (gt_at 50 (by decide +kernel) rfl), by decide +kernel⟩
theorem ki_Lm_passWeekOnTrial : Cond.instanceMethod M_Lm_passWeekOnTrial.1 ∈ lw_gt := gt_at 548 (by decide +kernel) rfl
theorem kz_Lm_passWeekOnTrial : Cond.selects M_Lm_passWeekOnTrial.1.cls M_Lm_passWeekOnTrial.1 M_Lm_passWeekOnTrial.1 ∈ lw_gt := gt_at 22 (by decide +kernel) rfl
theorem k_Lm_keep : okM M_Lm_keep 1 := ⟨(gt_at 553 (by decide +kernel) rfl), (gt_at 50 (by decide +kernel) rfl), by decide +kernel⟩
theorem ki_Lm_keep : Cond.instanceMethod M_Lm_keep.1 ∈ lw_gt := gt_at 551 (by decide +kernel) rfl
theorem kz_Lm_keep : Cond.selects M_Lm_keep.1.cls M_Lm_keep.1 M_Lm_keep.1 ∈ lw_gt := gt_at 552 (by decide +kernel) rfl
theorem k_Lm_again : okM M_Lm_again 1 := ⟨(gt_at 557 (by decide +kernel) rfl), (gt_at 50 (by decide +kernel) rfl), by decide +kernel⟩
theorem ki_Lm_again : Cond.instanceMethod M_Lm_again.1 ∈ lw_gt := gt_at 555 (by decide +kernel) rfl
theorem kz_Lm_again : Cond.selects M_Lm_again.1.cls M_Lm_again.1 M_Lm_again.1 ∈ lw_gt := gt_at 556 (by decide +kernel) rfl
theorem k_Md_write : okM M_Md_write 1 := ⟨(gt_at 673 (by decide +kernel) rfl), (gt_at 53 (by decide +kernel) rfl), by decide +kernel⟩
theorem ki_Md_write : Cond.instanceMethod M_Md_write.1 ∈ lw_gt := gt_at 671 (by decide +kernel) rfl
theorem kz_Md_write : Cond.selects M_Md_write.1.cls M_Md_write.1 M_Md_write.1 ∈ lw_gt := gt_at 672 (by decide +kernel) rfl
theorem k_Md_in : okM M_Md_in 3 := ⟨(gt_at 677 (by decide +kernel) rfl), (gt_at 53 (by decide +kernel) rfl), by decide +kernel⟩
theorem ks_Md_in : Cond.static M_Md_in.1 ∈ lw_gt := gt_at 676 (by decide +kernel) rfl
theorem k_Md_wipe : okM M_Md_wipe 0 := ⟨(gt_at 681 (by decide +kernel) rfl), (gt_at 53 (by decide +kernel) rfl), by decide +kernel⟩
theorem ki_Md_wipe : Cond.instanceMethod M_Md_wipe.1 ∈ lw_gt := gt_at 679 (by decide +kernel) rfl
theorem kz_Md_wipe : Cond.selects M_Md_wipe.1.cls M_Md_wipe.1 M_Md_wipe.1 ∈ lw_gt := gt_at 680 (by decide +kernel) rfl
theorem k_Md_fault : okM M_Md_fault 0 := ⟨(gt_at 685 (by decide +kernel) rfl), (gt_at 53 (by decide +kernel) rfl), by decide +kernel⟩
theorem ki_Md_fault : Cond.instanceMethod M_Md_fault.1 ∈ lw_gt := gt_at 683 (by decide +kernel) rfl
theorem kz_Md_fault : Cond.selects M_Md_fault.1.cls M_Md_fault.1 M_Md_fault.1 ∈ lw_gt := gt_at 684 (by decide +kernel) rfl
theorem k_Md_readStreet : okM M_Md_readStreet 0 := ⟨(gt_at 689 (by decide +kernel) rfl), (gt_at 53 (by decide +kernel) rfl), by decide +kernel⟩
theorem ki_Md_readStreet : Cond.instanceMethod M_Md_readStreet.1 ∈ lw_gt := gt_at 688 (by decide +kernel) rfl
theorem kz_Md_readStreet : Cond.selects M_Md_readStreet.1.cls M_Md_readStreet.1 M_Md_readStreet.1 ∈ lw_gt := gt_at 23 (by decide +kernel) rfl
theorem k_Md_figure : okM M_Md_figure 2 := ⟨(gt_at 693 (by decide +kernel) rfl), (gt_at 53 (by decide +kernel) rfl), by decide +kernel⟩
theorem ki_Md_figure : Cond.instanceMethod M_Md_figure.1 ∈ lw_gt := gt_at 692 (by decide +kernel) rfl
theorem kz_Md_figure : Cond.selects M_Md_figure.1.cls M_Md_figure.1 M_Md_figure.1 ∈ lw_gt := gt_at 24 (by decide +kernel) rfl
theorem k_Md_readPart : okM M_Md_readPart 0 := ⟨(gt_at 697 (by decide +kernel) rfl), (gt_at 53 (by decide +kernel) rfl), by decide +kernel⟩
theorem ki_Md_readPart : Cond.instanceMethod M_Md_readPart.1 ∈ lw_gt := gt_at 696 (by decide +kernel) rfl
theorem kz_Md_readPart : Cond.selects M_Md_readPart.1.cls M_Md_readPart.1 M_Md_readPart.1 ∈ lw_gt := gt_at 25 (by decide +kernel) rfl
theorem k_Md_readOneWindow : okM M_Md_readOneWindow 0 := ⟨(gt_at 701 (by decide +kernel) rfl), (gt_at 53 (by decide +kernel) rfl), by decide +kernel⟩
theorem ki_Md_readOneWindow : Cond.instanceMethod M_Md_readOneWindow.1 ∈ lw_gt := gt_at 700 (by decide +kernel) rfl
theorem kz_Md_readOneWindow : Cond.selects M_Md_readOneWindow.1.cls M_Md_readOneWindow.1 M_Md_readOneWindow.1 ∈ lw_gt := gt_at 26 (by decide +kernel) rfl
theorem k_Md_readPlace : okM M_Md_readPlace 0 := ⟨(gt_at 705 (by decide +kernel) rfl), (gt_at 53 (by decide +kernel) rfl), by decide +kernel⟩
theorem ki_Md_readPlace : Cond.instanceMethod M_Md_readPlace.1 ∈ lw_gt := gt_at 704 (by decide +kernel) rfl
theorem kz_Md_readPlace : Cond.selects M_Md_readPlace.1.cls M_Md_readPlace.1 M_Md_readPlace.1 ∈ lw_gt := gt_at 27 (by decide +kernel) rfl
theorem k_Md_readOneMoth : okM M_Md_readOneMoth 0 := ⟨(gt_at 710 (by decide +kernel) rfl), (gt_at 53 (by decide +kernel) rfl), by decide +kernel⟩
theorem ki_Md_readOneMoth : Cond.instanceMethod M_Md_readOneMoth.1 ∈ lw_gt := gt_at 709 (by decide +kernel) rfl
theorem kz_Md_readOneMoth : Cond.selects M_Md_readOneMoth.1.cls M_Md_readOneMoth.1 M_Md_readOneMoth.1 ∈ lw_gt := gt_at 28 (by decide +kernel) rfl
theorem k_Md_street : okM M_Md_street 0 := ⟨(gt_at 714 (by decide +kernel) rfl), (gt_at 53 (by decide +kernel) rfl), by decide +kernel⟩
theorem ki_Md_street : Cond.instanceMethod M_Md_street.1 ∈ lw_gt := gt_at 712 (by decide +kernel) rfl
theorem kz_Md_street : Cond.selects M_Md_street.1.cls M_Md_street.1 M_Md_street.1 ∈ lw_gt := gt_at 713 (by decide +kernel) rfl
theorem k_Md_about : okM M_Md_about 1 := ⟨(gt_at 718 (by decide +kernel) rfl), (gt_at 53 (by decide +kernel) rfl), by decide +kernel⟩
theorem ki_Md_about : Cond.instanceMethod M_Md_about.1 ∈ lw_gt := gt_at 716 (by decide +kernel) rfl
theorem kz_Md_about : Cond.selects M_Md_about.1.cls M_Md_about.1 M_Md_about.1 ∈ lw_gt := gt_at 717 (by decide +kernel) rfl
theorem k_Md_paid : okM M_Md_paid 1 := ⟨(gt_at 722 (by decide +kernel) rfl), (gt_at 53 (by decide +kernel) rfl), by decide +kernel⟩
theorem ki_Md_paid : Cond.instanceMethod M_Md_paid.1 ∈ lw_gt := gt_at 721 (by decide +kernel) rfl
theorem kz_Md_paid : Cond.selects M_Md_paid.1.cls M_Md_paid.1 M_Md_paid.1 ∈ lw_gt := gt_at 29 (by decide +kernel) rfl
theorem k_Md_layOwed : okM M_Md_layOwed 1 := ⟨(gt_at 726 (by decide +kernel) rfl), (gt_at 53 (by decide +kernel) rfl), by decide +kernel⟩
theorem ki_Md_layOwed : Cond.instanceMethod M_Md_layOwed.1 ∈ lw_gt := gt_at 725 (by decide +kernel) rfl
theorem kz_Md_layOwed : Cond.selects M_Md_layOwed.1.cls M_Md_layOwed.1 M_Md_layOwed.1 ∈ lw_gt := gt_at 30 (by decide +kernel) rfl
theorem k_Md_strongest : okM M_Md_strongest 2 := ⟨(gt_at 730 (by decide +kernel) rfl), (gt_at 53 (by decide +kernel) rfl), by decide +kernel⟩
theorem ki_Md_strongest : Cond.instanceMethod M_Md_strongest.1 ∈ lw_gt := gt_at 729 (by decide +kernel) rfl
theorem kz_Md_strongest : Cond.selects M_Md_strongest.1.cls M_Md_strongest.1 M_Md_strongest.1 ∈ lw_gt := gt_at 31 (by decide +kernel) rfl
theorem k_Md_pullOf : okM M_Md_pullOf 3 := ⟨(gt_at 734 (by decide +kernel) rfl), (gt_at 53 (by decide +kernel) rfl), by decide +kernel⟩
theorem ki_Md_pullOf : Cond.instanceMethod M_Md_pullOf.1 ∈ lw_gt := gt_at 733 (by decide +kernel) rfl
theorem kz_Md_pullOf : Cond.selects M_Md_pullOf.1.cls M_Md_pullOf.1 M_Md_pullOf.1 ∈ lw_gt := gt_at 32 (by decide +kernel) rfl
theorem k_Md_has : okM M_Md_has 2 := ⟨(gt_at 737 (by decide +kernel) rfl), (gt_at 53 (by decide +kernel) rfl), by decide +kernel⟩
theorem ks_Md_has : Cond.static M_Md_has.1 ∈ lw_gt := gt_at 736 (by decide +kernel) rfl
theorem k_Md_many : okM M_Md_many 1 := ⟨(gt_at 740 (by decide +kernel) rfl), (gt_at 53 (by decide +kernel) rfl), by decide +kernel⟩
theorem ks_Md_many : Cond.static M_Md_many.1 ∈ lw_gt := gt_at 739 (by decide +kernel) rfl
theorem k_Md_readers : okM M_Md_readers 1 := ⟨(gt_at 744 (by decide +kernel) rfl), (gt_at 53 (by decide +kernel) rfl), by decide +kernel⟩
theorem ki_Md_readers : Cond.instanceMethod M_Md_readers.1 ∈ lw_gt := gt_at 743 (by decide +kernel) rfl
theorem kz_Md_readers : Cond.selects M_Md_readers.1.cls M_Md_readers.1 M_Md_readers.1 ∈ lw_gt := gt_at 33 (by decide +kernel) rfl
theorem k_Md_reads : okM M_Md_reads 2 := ⟨(gt_at 748 (by decide +kernel) rfl), (gt_at 53 (by decide +kernel) rfl), by decide +kernel⟩
theorem ki_Md_reads : Cond.instanceMethod M_Md_reads.1 ∈ lw_gt := gt_at 747 (by decide +kernel) rfl
theorem kz_Md_reads : Cond.selects M_Md_reads.1.cls M_Md_reads.1 M_Md_reads.1 ∈ lw_gt := gt_at 34 (by decide +kernel) rfl
theorem k_Md_window : okM M_Md_window 2 := ⟨(gt_at 753 (by decide +kernel) rfl), (gt_at 53 (by decide +kernel) rfl), by decide +kernel⟩
theorem ki_Md_window : Cond.instanceMethod M_Md_window.1 ∈ lw_gt := gt_at 751 (by decide +kernel) rfl
theorem kz_Md_window : Cond.selects M_Md_window.1.cls M_Md_window.1 M_Md_window.1 ∈ lw_gt := gt_at 752 (by decide +kernel) rfl
theorem k_Md_noWindow : okM M_Md_noWindow 1 := ⟨(gt_at 757 (by decide +kernel) rfl), (gt_at 53 (by decide +kernel) rfl), by decide +kernel⟩
theorem ki_Md_noWindow : Cond.instanceMethod M_Md_noWindow.1 ∈ lw_gt := gt_at 756 (by decide +kernel) rfl
theorem kz_Md_noWindow : Cond.selects M_Md_noWindow.1.cls M_Md_noWindow.1 M_Md_noWindow.1 ∈ lw_gt := gt_at 35 (by decide +kernel) rfl
theorem k_Md_moth : okM M_Md_moth 2 := ⟨(gt_at 761 (by decide +kernel) rfl), (gt_at 53 (by decide +kernel) rfl), by decide +kernel⟩
theorem ki_Md_moth : Cond.instanceMethod M_Md_moth.1 ∈ lw_gt := gt_at 759 (by decide +kernel) rfl
theorem kz_Md_moth : Cond.selects M_Md_moth.1.cls M_Md_moth.1 M_Md_moth.1 ∈ lw_gt := gt_at 760 (by decide +kernel) rfl
theorem k_Md_noMoth : okM M_Md_noMoth 1 := ⟨(gt_at 765 (by decide +kernel) rfl), (gt_at 53 (by decide +kernel) rfl), by decide +kernel⟩
theorem ki_Md_noMoth : Cond.instanceMethod M_Md_noMoth.1 ∈ lw_gt := gt_at 764 (by decide +kernel) rfl
theorem kz_Md_noMoth : Cond.selects M_Md_noMoth.1.cls M_Md_noMoth.1 M_Md_noMoth.1 ∈ lw_gt := gt_at 36 (by decide +kernel) rfl
theorem k_Md_pull : okM M_Md_pull 2 := ⟨(gt_at 769 (by decide +kernel) rfl), (gt_at 53 (by decide +kernel) rfl), by decide +kernel⟩
theorem ki_Md_pull : Cond.instanceMethod M_Md_pull.1 ∈ lw_gt := gt_at 767 (by decide +kernel) rfl
theorem kz_Md_pull : Cond.selects M_Md_pull.1.cls M_Md_pull.1 M_Md_pull.1 ∈ lw_gt := gt_at 768 (by decide +kernel) rfl
theorem k_Md_up : okM M_Md_up 1 := ⟨(gt_at 773 (by decide +kernel) rfl), (gt_at 53 (by decide +kernel) rfl), by decide +kernel⟩
theorem ki_Md_up : Cond.instanceMethod M_Md_up.1 ∈ lw_gt := gt_at 771 (by decide +kernel) rfl
theorem kz_Md_up : Cond.selects M_Md_up.1.cls M_Md_up.1 M_Md_up.1 ∈ lw_gt := gt_at 772 (by decide +kernel) rfl
theorem k_Md_turned : okM M_Md_turned 2 := ⟨(gt_at 777 (by decide +kernel) rfl), (gt_at 53 (by decide +kernel) rfl), by decide +kernel⟩
theorem ki_Md_turned : Cond.instanceMethod M_Md_turned.1 ∈ lw_gt := gt_at 776 (by decide +kernel) rfl
theorem kz_Md_turned : Cond.selects M_Md_turned.1.cls M_Md_turned.1 M_Md_turned.1 ∈ lw_gt := gt_at 37 (by decide +kernel) rfl
theorem k_Md_note : okM M_Md_note 0 := ⟨(gt_at 782 (by decide +kernel) rfl), (gt_at 53 (by decide +kernel) rfl), by decide +kernel⟩
theorem ki_Md_note : Cond.instanceMethod M_Md_note.1 ∈ lw_gt := gt_at 781 (by decide +kernel) rfl
theorem kz_Md_note : Cond.selects M_Md_note.1.cls M_Md_note.1 M_Md_note.1 ∈ lw_gt := gt_at 38 (by decide +kernel) rfl
theorem k_Md_down : okM M_Md_down 1 := ⟨(gt_at 786 (by decide +kernel) rfl), (gt_at 53 (by decide +kernel) rfl), by decide +kernel⟩
theorem ki_Md_down : Cond.instanceMethod M_Md_down.1 ∈ lw_gt := gt_at 784 (by decide +kernel) rfl
theorem kz_Md_down : Cond.selects M_Md_down.1.cls M_Md_down.1 M_Md_down.1 ∈ lw_gt := gt_at 785 (by decide +kernel) rfl
theorem k_Md_blow : okM M_Md_blow 1 := ⟨(gt_at 790 (by decide +kernel) rfl), (gt_at 53 (by decide +kernel) rfl), by decide +kernel⟩
theorem ki_Md_blow : Cond.instanceMethod M_Md_blow.1 ∈ lw_gt := gt_at 788 (by decide +kernel) rfl
theorem kz_Md_blow : Cond.selects M_Md_blow.1.cls M_Md_blow.1 M_Md_blow.1 ∈ lw_gt := gt_at 789 (by decide +kernel) rfl
theorem k_Md_move : okM M_Md_move 1 := ⟨(gt_at 795 (by decide +kernel) rfl), (gt_at 53 (by decide +kernel) rfl), by decide +kernel⟩
theorem ki_Md_move : Cond.instanceMethod M_Md_move.1 ∈ lw_gt := gt_at 793 (by decide +kernel) rfl
theorem kz_Md_move : Cond.selects M_Md_move.1.cls M_Md_move.1 M_Md_move.1 ∈ lw_gt := gt_at 794 (by decide +kernel) rfl
theorem k_Md_night : okM M_Md_night 0 := ⟨(gt_at 799 (by decide +kernel) rfl), (gt_at 53 (by decide +kernel) rfl), by decide +kernel⟩
theorem ki_Md_night : Cond.instanceMethod M_Md_night.1 ∈ lw_gt := gt_at 797 (by decide +kernel) rfl
theorem kz_Md_night : Cond.selects M_Md_night.1.cls M_Md_night.1 M_Md_night.1 ∈ lw_gt := gt_at 798 (by decide +kernel) rfl
theorem k_Md_goNight : okM M_Md_goNight 1 := ⟨(gt_at 803 (by decide +kernel) rfl), (gt_at 53 (by decide +kernel) rfl), by decide +kernel⟩
theorem ki_Md_goNight : Cond.instanceMethod M_Md_goNight.1 ∈ lw_gt := gt_at 802 (by decide +kernel) rfl
theorem kz_Md_goNight : Cond.selects M_Md_goNight.1.cls M_Md_goNight.1 M_Md_goNight.1 ∈ lw_gt := gt_at 39 (by decide +kernel) rfl
theorem k_Md_leastOf : okM M_Md_leastOf 1 := ⟨(gt_at 807 (by decide +kernel) rfl), (gt_at 53 (by decide +kernel) rfl), by decide +kernel⟩
theorem ki_Md_leastOf : Cond.instanceMethod M_Md_leastOf.1 ∈ lw_gt := gt_at 806 (by decide +kernel) rfl
theorem kz_Md_leastOf : Cond.selects M_Md_leastOf.1.cls M_Md_leastOf.1 M_Md_leastOf.1 ∈ lw_gt := gt_at 40 (by decide +kernel) rfl
theorem k_Md_undo : okM M_Md_undo 0 := ⟨(gt_at 811 (by decide +kernel) rfl), (gt_at 53 (by decide +kernel) rfl), by decide +kernel⟩
theorem ki_Md_undo : Cond.instanceMethod M_Md_undo.1 ∈ lw_gt := gt_at 809 (by decide +kernel) rfl
theorem kz_Md_undo : Cond.selects M_Md_undo.1.cls M_Md_undo.1 M_Md_undo.1 ∈ lw_gt := gt_at 810 (by decide +kernel) rfl
theorem k_Md_dim : okM M_Md_dim 2 := ⟨(gt_at 815 (by decide +kernel) rfl), (gt_at 53 (by decide +kernel) rfl), by decide +kernel⟩
theorem ki_Md_dim : Cond.instanceMethod M_Md_dim.1 ∈ lw_gt := gt_at 813 (by decide +kernel) rfl
theorem kz_Md_dim : Cond.selects M_Md_dim.1.cls M_Md_dim.1 M_Md_dim.1 ∈ lw_gt := gt_at 814 (by decide +kernel) rfl
theorem k_Md_owesBy : okM M_Md_owesBy 3 := ⟨(gt_at 820 (by decide +kernel) rfl), (gt_at 53 (by decide +kernel) rfl), by decide +kernel⟩
theorem ki_Md_owesBy : Cond.instanceMethod M_Md_owesBy.1 ∈ lw_gt := gt_at 819 (by decide +kernel) rfl
theorem kz_Md_owesBy : Cond.selects M_Md_owesBy.1.cls M_Md_owesBy.1 M_Md_owesBy.1 ∈ lw_gt := gt_at 41 (by decide +kernel) rfl
theorem k_Md_begin : okM M_Md_begin 0 := ⟨(gt_at 824 (by decide +kernel) rfl), (gt_at 53 (by decide +kernel) rfl), by decide +kernel⟩
theorem ki_Md_begin : Cond.instanceMethod M_Md_begin.1 ∈ lw_gt := gt_at 823 (by decide +kernel) rfl
theorem kz_Md_begin : Cond.selects M_Md_begin.1.cls M_Md_begin.1 M_Md_begin.1 ∈ lw_gt := gt_at 42 (by decide +kernel) rfl
theorem k_Md_cheap : okM M_Md_cheap 1 := ⟨(gt_at 828 (by decide +kernel) rfl), (gt_at 53 (by decide +kernel) rfl), by decide +kernel⟩
theorem ki_Md_cheap : Cond.instanceMethod M_Md_cheap.1 ∈ lw_gt := gt_at 826 (by decide +kernel) rfl
theorem kz_Md_cheap : Cond.selects M_Md_cheap.1.cls M_Md_cheap.1 M_Md_cheap.1 ∈ lw_gt := gt_at 827 (by decide +kernel) rfl
theorem k_Md_findCheap : okM M_Md_findCheap 0 := ⟨(gt_at 832 (by decide +kernel) rfl), (gt_at 53 (by decide +kernel) rfl), by decide +kernel⟩
theorem ki_Md_findCheap : Cond.instanceMethod M_Md_findCheap.1 ∈ lw_gt := gt_at 831 (by decide +kernel) rfl
theorem kz_Md_findCheap : Cond.selects M_Md_findCheap.1.cls M_Md_findCheap.1 M_Md_findCheap.1 ∈ lw_gt := gt_at 43 (by decide +kernel) rfl
theorem k_Md_power : okM M_Md_power 2 := ⟨(gt_at 835 (by decide +kernel) rfl), (gt_at 53 (by decide +kernel) rfl), by decide +kernel⟩
theorem ks_Md_power : Cond.static M_Md_power.1 ∈ lw_gt := gt_at 834 (by decide +kernel) rfl
theorem k_Md_moving : okM M_Md_moving 1 := ⟨(gt_at 839 (by decide +kernel) rfl), (gt_at 53 (by decide +kernel) rfl), by decide +kernel⟩
theorem ki_Md_moving : Cond.instanceMethod M_Md_moving.1 ∈ lw_gt := gt_at 837 (by decide +kernel) rfl
theorem kz_Md_moving : Cond.selects M_Md_moving.1.cls M_Md_moving.1 M_Md_moving.1 ∈ lw_gt := gt_at 838 (by decide +kernel) rfl
theorem k_Md_findMoving : okM M_Md_findMoving 0 := ⟨(gt_at 843 (by decide +kernel) rfl), (gt_at 53 (by decide +kernel) rfl), by decide +kernel⟩
theorem ki_Md_findMoving : Cond.instanceMethod M_Md_findMoving.1 ∈ lw_gt := gt_at 842 (by decide +kernel) rfl
theorem kz_Md_findMoving : Cond.selects M_Md_findMoving.1.cls M_Md_findMoving.1 M_Md_findMoving.1 ∈ lw_gt := gt_at 44 (by decide +kernel) rfl
theorem k_Md_isFree : okM M_Md_isFree 1 := ⟨(gt_at 847 (by decide +kernel) rfl), (gt_at 53 (by decide +kernel) rfl), by decide +kernel⟩
theorem ki_Md_isFree : Cond.instanceMethod M_Md_isFree.1 ∈ lw_gt := gt_at 846 (by decide +kernel) rfl
theorem kz_Md_isFree : Cond.selects M_Md_isFree.1.cls M_Md_isFree.1 M_Md_isFree.1 ∈ lw_gt := gt_at 45 (by decide +kernel) rfl
theorem k_Md_judge : okM M_Md_judge 2 := ⟨(gt_at 851 (by decide +kernel) rfl), (gt_at 53 (by decide +kernel) rfl), by decide +kernel⟩
theorem ki_Md_judge : Cond.instanceMethod M_Md_judge.1 ∈ lw_gt := gt_at 849 (by decide +kernel) rfl
theorem kz_Md_judge : Cond.selects M_Md_judge.1.cls M_Md_judge.1 M_Md_judge.1 ∈ lw_gt := gt_at 850 (by decide +kernel) rfl
theorem k_Md_does : okM M_Md_does 1 := ⟨(gt_at 856 (by decide +kernel) rfl), (gt_at 53 (by decide +kernel) rfl), by decide +kernel⟩
theorem ki_Md_does : Cond.instanceMethod M_Md_does.1 ∈ lw_gt := gt_at 855 (by decide +kernel) rfl
theorem kz_Md_does : Cond.selects M_Md_does.1.cls M_Md_does.1 M_Md_does.1 ∈ lw_gt := gt_at 46 (by decide +kernel) rfl
theorem k_Md_share : okM M_Md_share 2 := ⟨(gt_at 860 (by decide +kernel) rfl), (gt_at 53 (by decide +kernel) rfl), by decide +kernel⟩
theorem ki_Md_share : Cond.instanceMethod M_Md_share.1 ∈ lw_gt := gt_at 858 (by decide +kernel) rfl
theorem kz_Md_share : Cond.selects M_Md_share.1.cls M_Md_share.1 M_Md_share.1 ∈ lw_gt := gt_at 859 (by decide +kernel) rfl
theorem k_Md_ways : okM M_Md_ways 1 := ⟨(gt_at 863 (by decide +kernel) rfl), (gt_at 53 (by decide +kernel) rfl), by decide +kernel⟩
theorem ks_Md_ways : Cond.static M_Md_ways.1 ∈ lw_gt := gt_at 862 (by decide +kernel) rfl
theorem k_Md_fraction : okM M_Md_fraction 3 := ⟨(gt_at 866 (by decide +kernel) rfl), (gt_at 53 (by decide +kernel) rfl), by decide +kernel⟩
theorem ks_Md_fraction : Cond.static M_Md_fraction.1 ∈ lw_gt := gt_at 865 (by decide +kernel) rfl
theorem k_Md_divisor : okM M_Md_divisor 2 := ⟨(gt_at 869 (by decide +kernel) rfl), (gt_at 53 (by decide +kernel) rfl), by decide +kernel⟩
theorem ks_Md_divisor : Cond.static M_Md_divisor.1 ∈ lw_gt := gt_at 868 (by decide +kernel) rfl
theorem k_Md_count : okM M_Md_count 3 := ⟨(gt_at 873 (by decide +kernel) rfl), (gt_at 53 (by decide +kernel) rfl), by decide +kernel⟩
theorem ki_Md_count : Cond.instanceMethod M_Md_count.1 ∈ lw_gt := gt_at 871 (by decide +kernel) rfl
theorem kz_Md_count : Cond.selects M_Md_count.1.cls M_Md_count.1 M_Md_count.1 ∈ lw_gt := gt_at 872 (by decide +kernel) rfl
theorem k_Md_forget : okM M_Md_forget 0 := ⟨(gt_at 877 (by decide +kernel) rfl), (gt_at 53 (by decide +kernel) rfl), by decide +kernel⟩
theorem ki_Md_forget : Cond.instanceMethod M_Md_forget.1 ∈ lw_gt := gt_at 875 (by decide +kernel) rfl
theorem kz_Md_forget : Cond.selects M_Md_forget.1.cls M_Md_forget.1 M_Md_forget.1 ∈ lw_gt := gt_at 876 (by decide +kernel) rfl
theorem k_Md_honeys : okM M_Md_honeys 0 := ⟨(gt_at 881 (by decide +kernel) rfl), (gt_at 53 (by decide +kernel) rfl), by decide +kernel⟩
theorem ki_Md_honeys : Cond.instanceMethod M_Md_honeys.1 ∈ lw_gt := gt_at 879 (by decide +kernel) rfl
theorem kz_Md_honeys : Cond.selects M_Md_honeys.1.cls M_Md_honeys.1 M_Md_honeys.1 ∈ lw_gt := gt_at 880 (by decide +kernel) rfl
theorem k_Md_rests : okM M_Md_rests 3 := ⟨(gt_at 885 (by decide +kernel) rfl), (gt_at 53 (by decide +kernel) rfl), by decide +kernel⟩
theorem ki_Md_rests : Cond.instanceMethod M_Md_rests.1 ∈ lw_gt := gt_at 883 (by decide +kernel) rfl
theorem kz_Md_rests : Cond.selects M_Md_rests.1.cls M_Md_rests.1 M_Md_rests.1 ∈ lw_gt := gt_at 884 (by decide +kernel) rfl
theorem k_Md_findRests : okM M_Md_findRests 2 := ⟨(gt_at 889 (by decide +kernel) rfl), (gt_at 53 (by decide +kernel) rfl), by decide +kernel⟩
theorem ki_Md_findRests : Cond.instanceMethod M_Md_findRests.1 ∈ lw_gt := gt_at 888 (by decide +kernel) rfl
theorem kz_Md_findRests : Cond.selects M_Md_findRests.1.cls M_Md_findRests.1 M_Md_findRests.1 ∈ lw_gt := gt_at 47 (by decide +kernel) rfl
theorem k_Md_gainOf : okM M_Md_gainOf 2 := ⟨(gt_at 893 (by decide +kernel) rfl), (gt_at 53 (by decide +kernel) rfl), by decide +kernel⟩
theorem ki_Md_gainOf : Cond.instanceMethod M_Md_gainOf.1 ∈ lw_gt := gt_at 892 (by decide +kernel) rfl
theorem kz_Md_gainOf : Cond.selects M_Md_gainOf.1.cls M_Md_gainOf.1 M_Md_gainOf.1 ∈ lw_gt := gt_at 48 (by decide +kernel) rfl
theorem k_Md_clouds : okM M_Md_clouds 3 := ⟨(gt_at 897 (by decide +kernel) rfl), (gt_at 53 (by decide +kernel) rfl), by decide +kernel⟩
theorem ki_Md_clouds : Cond.instanceMethod M_Md_clouds.1 ∈ lw_gt := gt_at 895 (by decide +kernel) rfl
theorem kz_Md_clouds : Cond.selects M_Md_clouds.1.cls M_Md_clouds.1 M_Md_clouds.1 ∈ lw_gt := gt_at 896 (by decide +kernel) rfl
theorem k_Md_seed : okM M_Md_seed 1 := ⟨(gt_at 902 (by decide +kernel) rfl), (gt_at 53 (by decide +kernel) rfl), by decide +kernel⟩
theorem ki_Md_seed : Cond.instanceMethod M_Md_seed.1 ∈ lw_gt := gt_at 900 (by decide +kernel) rfl
theorem kz_Md_seed : Cond.selects M_Md_seed.1.cls M_Md_seed.1 M_Md_seed.1 ∈ lw_gt := gt_at 901 (by decide +kernel) rfl
theorem k_Md_weeks : okM M_Md_weeks 1 := ⟨(gt_at 906 (by decide +kernel) rfl), (gt_at 53 (by decide +kernel) rfl), by decide +kernel⟩
theorem ki_Md_weeks : Cond.instanceMethod M_Md_weeks.1 ∈ lw_gt := gt_at 904 (by decide +kernel) rfl
theorem kz_Md_weeks : Cond.selects M_Md_weeks.1.cls M_Md_weeks.1 M_Md_weeks.1 ∈ lw_gt := gt_at 905 (by decide +kernel) rfl
theorem k_Md_keep : okM M_Md_keep 1 := ⟨(gt_at 914 (by decide +kernel) rfl), (gt_at 53 (by decide +kernel) rfl), by decide +kernel⟩
theorem ki_Md_keep : Cond.instanceMethod M_Md_keep.1 ∈ lw_gt := gt_at 912 (by decide +kernel) rfl
theorem kz_Md_keep : Cond.selects M_Md_keep.1.cls M_Md_keep.1 M_Md_keep.1 ∈ lw_gt := gt_at 913 (by decide +kernel) rfl
theorem k_Md_again : okM M_Md_again 1 := ⟨(gt_at 918 (by decide +kernel) rfl), (gt_at 53 (by decide +kernel) rfl), by decide +kernel⟩
theorem ki_Md_again : Cond.instanceMethod M_Md_again.1 ∈ lw_gt := gt_at 916 (by decide +kernel) rfl
theorem kz_Md_again : Cond.selects M_Md_again.1.cls M_Md_again.1 M_Md_again.1 ∈ lw_gt := gt_at 917 (by decide +kernel) rfl
theorem ml_Lm_68 : Cond.methodLink "LampMoths" 68 M_Lm_readInto.1 ∈ lw_gt := gt_at 200 (by decide +kernel) rfl
theorem cv_Lm_68 {v1 : Value} {rest : List Value} (ho : M.1.cls = "LampMoths") (hd : decode M.2.1 pc = .ok (.invokevirtual 68, 3)) (hR : okR0 M M_Lm_readInto) {Q' : Hp → Option Value → Prop} (hsp : SP l D base M_Lm_readInto (.ref 0 :: [v1]) h Q') (hw : (rest.map fun v => v.category).sum ≤ 8) (k : ∀ (h' : Hp) (r : Option Value), Q' h' r → WH l D base M (pc + 3) ls (r.toList ++ rest) h' Q) : WH l D base M pc ls (v1 :: .ref 0 :: rest) h Q :=
  wh_callV (b := 0) (ci := 2) (As := [v1]) (rest := rest) hd k_Lm_readInto hR (show Cond.methodLink M.1.cls 68 M_Lm_readInto.1 ∈ lw_gt by rw [ho]; exact ml_Lm_68) ki_Lm_readInto kz_Lm_readInto rfl rfl rfl hsp rfl rfl hw k
theorem cv_Lm_68_d {v1 : Value} {rest : List Value} (ho : M.1.cls = "LampMoths") (hd : decode M.2.1 pc = .ok (.invokevirtual 68, 3)) (hR : okR0 M M_Lm_readInto) {h2 : Hp} {w : Value} (hsp : SD l D base M_Lm_readInto (.ref 0 :: [v1]) h (some w) h2) (hw : (rest.map fun v => v.category).sum ≤ 8) (k : WH l D base M (pc + 3) ls (w :: rest) h2 Q) : WH l D base M pc ls (v1 :: .ref 0 :: rest) h Q :=
  cv_Lm_68 ho hd hR hsp hw (fun h' r e => by obtain ⟨rfl, rfl⟩ := e; exact k)
theorem cv_Lm_68_i {v1 : Value} {rest : List Value} (ho : M.1.cls = "LampMoths") (hd : decode M.2.1 pc = .ok (.invokevirtual 68, 3)) (hR : okR0 M M_Lm_readInto) {P : Hp → Int32 → Prop} (hsp : SI l D base M_Lm_readInto (.ref 0 :: [v1]) h P) (hw : (rest.map fun v => v.category).sum ≤ 8) (k : ∀ (h' : Hp) (x : Int32), P h' x → WH l D base M (pc + 3) ls (.int x :: rest) h' Q) : WH l D base M pc ls (v1 :: .ref 0 :: rest) h Q :=
  cv_Lm_68 ho hd hR hsp hw (fun h' r e => by obtain ⟨x, rfl, hp⟩ := e; exact k h' x hp)
theorem ml_Lm_233 : Cond.methodLink "LampMoths" 233 M_Rd_begin.1 ∈ lw_gt := gt_at 204 (by decide +kernel) rfl
theorem cv_Lm_233 {v1 : Value} {rest : List Value} (ho : M.1.cls = "LampMoths") (hd : decode M.2.1 pc = .ok (.invokevirtual 233, 3)) (hR : okR0 M M_Rd_begin) {Q' : Hp → Option Value → Prop} (hsp : SP l D base M_Rd_begin (.ref 18 :: [v1]) h Q') (hw : (rest.map fun v => v.category).sum ≤ 8) (k : ∀ (h' : Hp) (r : Option Value), Q' h' r → WH l D base M (pc + 3) ls (r.toList ++ rest) h' Q) : WH l D base M pc ls (v1 :: .ref 18 :: rest) h Q :=
  wh_callV (b := 18) (ci := 1) (As := [v1]) (rest := rest) hd k_Rd_begin hR (show Cond.methodLink M.1.cls 233 M_Rd_begin.1 ∈ lw_gt by rw [ho]; exact ml_Lm_233) ki_Rd_begin kz_Rd_begin rfl rfl rfl hsp rfl rfl hw k
theorem cv_Lm_233_d {v1 : Value} {rest : List Value} (ho : M.1.cls = "LampMoths") (hd : decode M.2.1 pc = .ok (.invokevirtual 233, 3)) (hR : okR0 M M_Rd_begin) {h2 : Hp} (hsp : SD l D base M_Rd_begin (.ref 18 :: [v1]) h none h2) (hw : (rest.map fun v => v.category).sum ≤ 8) (k : WH l D base M (pc + 3) ls rest h2 Q) : WH l D base M pc ls (v1 :: .ref 18 :: rest) h Q :=
  cv_Lm_233 ho hd hR hsp hw (fun h' r e => by obtain ⟨rfl, rfl⟩ := e; exact k)
theorem cv_Lm_233_v {v1 : Value} {rest : List Value} (ho : M.1.cls = "LampMoths") (hd : decode M.2.1 pc = .ok (.invokevirtual 233, 3)) (hR : okR0 M M_Rd_begin) {P : Hp → Prop} (hsp : SV l D base M_Rd_begin (.ref 18 :: [v1]) h P) (hw : (rest.map fun v => v.category).sum ≤ 8) (k : ∀ h' : Hp, P h' → WH l D base M (pc + 3) ls rest h' Q) : WH l D base M pc ls (v1 :: .ref 18 :: rest) h Q :=
  cv_Lm_233 ho hd hR hsp hw (fun h' r e => by obtain ⟨rfl, hp⟩ := e; exact k h' hp)
theorem ml_Rd_21 : Cond.methodLink "LampMoths$Reader" 21 M_Ln_clear.1 ∈ lw_gt := gt_at 208 (by decide +kernel) rfl
theorem cv_Rd_21 {rest : List Value} {b : Nat} (hb : IsLane b) (ho : M.1.cls = "LampMoths$Reader") (hd : decode M.2.1 pc = .ok (.invokevirtual 21, 3)) (hR : okR0 M M_Ln_clear) {Q' : Hp → Option Value → Prop} (hsp : SP l D base M_Ln_clear (.ref b :: []) h Q') (hw : (rest.map fun v => v.category).sum ≤ 8) (k : ∀ (h' : Hp) (r : Option Value), Q' h' r → WH l D base M (pc + 3) ls (r.toList ++ rest) h' Q) : WH l D base M pc ls (.ref b :: rest) h Q :=
  wh_callV (b := b) (ci := 0) (As := []) (rest := rest) hd k_Ln_clear hR (show Cond.methodLink M.1.cls 21 M_Ln_clear.1 ∈ lw_gt by rw [ho]; exact ml_Rd_21) ki_Ln_clear kz_Ln_clear (show SH[b]? = some (.inr (0, [(2, some (b + 1)), (2, some (b + 2)), (2, some (b + 3)), (2, some (b + 4)), (2, some (b + 5)), (2, some (b + 6)), (0, none), (0, none), (0, none), (0, none), (0, none), (2, some (b + 7))])) by rcases hb with rfl | rfl <;> rfl) rfl rfl hsp rfl rfl hw k
theorem cv_Rd_21_d {rest : List Value} {b : Nat} (hb : IsLane b) (ho : M.1.cls = "LampMoths$Reader") (hd : decode M.2.1 pc = .ok (.invokevirtual 21, 3)) (hR : okR0 M M_Ln_clear) {h2 : Hp} (hsp : SD l D base M_Ln_clear (.ref b :: []) h none h2) (hw : (rest.map fun v => v.category).sum ≤ 8) (k : WH l D base M (pc + 3) ls rest h2 Q) : WH l D base M pc ls (.ref b :: rest) h Q :=
  cv_Rd_21 hb ho hd hR hsp hw (fun h' r e => by obtain ⟨rfl, rfl⟩ := e; exact k)
theorem cv_Rd_21_v {rest : List Value} {b : Nat} (hb : IsLane b) (ho : M.1.cls = "LampMoths$Reader") (hd : decode M.2.1 pc = .ok (.invokevirtual 21, 3)) (hR : okR0 M M_Ln_clear) {P : Hp → Prop} (hsp : SV l D base M_Ln_clear (.ref b :: []) h P) (hw : (rest.map fun v => v.category).sum ≤ 8) (k : ∀ h' : Hp, P h' → WH l D base M (pc + 3) ls rest h' Q) : WH l D base M pc ls (.ref b :: rest) h Q :=
  cv_Rd_21 hb ho hd hR hsp hw (fun h' r e => by obtain ⟨rfl, hp⟩ := e; exact k h' hp)
theorem ml_Lm_236 : Cond.methodLink "LampMoths" 236 M_Rd_takes.1 ∈ lw_gt := gt_at 212 (by decide +kernel) rfl
theorem cv_Lm_236 {v1 v2 : Value} {rest : List Value} (ho : M.1.cls = "LampMoths") (hd : decode M.2.1 pc = .ok (.invokevirtual 236, 3)) (hR : okR0 M M_Rd_takes) {Q' : Hp → Option Value → Prop} (hsp : SP l D base M_Rd_takes (.ref 18 :: [v1, v2]) h Q') (hw : (rest.map fun v => v.category).sum ≤ 8) (k : ∀ (h' : Hp) (r : Option Value), Q' h' r → WH l D base M (pc + 3) ls (r.toList ++ rest) h' Q) : WH l D base M pc ls (v2 :: v1 :: .ref 18 :: rest) h Q :=
  wh_callV (b := 18) (ci := 1) (As := [v1, v2]) (rest := rest) hd k_Rd_takes hR (show Cond.methodLink M.1.cls 236 M_Rd_takes.1 ∈ lw_gt by rw [ho]; exact ml_Lm_236) ki_Rd_takes kz_Rd_takes rfl rfl rfl hsp rfl rfl hw k
theorem cv_Lm_236_d {v1 v2 : Value} {rest : List Value} (ho : M.1.cls = "LampMoths") (hd : decode M.2.1 pc = .ok (.invokevirtual 236, 3)) (hR : okR0 M M_Rd_takes) {h2 : Hp} {w : Value} (hsp : SD l D base M_Rd_takes (.ref 18 :: [v1, v2]) h (some w) h2) (hw : (rest.map fun v => v.category).sum ≤ 8) (k : WH l D base M (pc + 3) ls (w :: rest) h2 Q) : WH l D base M pc ls (v2 :: v1 :: .ref 18 :: rest) h Q :=
  cv_Lm_236 ho hd hR hsp hw (fun h' r e => by obtain ⟨rfl, rfl⟩ := e; exact k)
theorem cv_Lm_236_i {v1 v2 : Value} {rest : List Value} (ho : M.1.cls = "LampMoths") (hd : decode M.2.1 pc = .ok (.invokevirtual 236, 3)) (hR : okR0 M M_Rd_takes) {P : Hp → Int32 → Prop} (hsp : SI l D base M_Rd_takes (.ref 18 :: [v1, v2]) h P) (hw : (rest.map fun v => v.category).sum ≤ 8) (k : ∀ (h' : Hp) (x : Int32), P h' x → WH l D base M (pc + 3) ls (.int x :: rest) h' Q) : WH l D base M pc ls (v2 :: v1 :: .ref 18 :: rest) h Q :=
  cv_Lm_236 ho hd hR hsp hw (fun h' r e => by obtain ⟨x, rfl, hp⟩ := e; exact k h' x hp)
theorem ml_Rd_26 : Cond.methodLink "LampMoths$Reader" 26 M_Rd_goesOn.1 ∈ lw_gt := gt_at 216 (by decide +kernel) rfl
theorem cv_Rd_26 {v1 v2 : Value} {rest : List Value} (ho : M.1.cls = "LampMoths$Reader") (hd : decode M.2.1 pc = .ok (.invokevirtual 26, 3)) (hR : okR0 M M_Rd_goesOn) {Q' : Hp → Option Value → Prop} (hsp : SP l D base M_Rd_goesOn (.ref 18 :: [v1, v2]) h Q') (hw : (rest.map fun v => v.category).sum ≤ 8) (k : ∀ (h' : Hp) (r : Option Value), Q' h' r → WH l D base M (pc + 3) ls (r.toList ++ rest) h' Q) : WH l D base M pc ls (v2 :: v1 :: .ref 18 :: rest) h Q :=
  wh_callV (b := 18) (ci := 1) (As := [v1, v2]) (rest := rest) hd k_Rd_goesOn hR (show Cond.methodLink M.1.cls 26 M_Rd_goesOn.1 ∈ lw_gt by rw [ho]; exact ml_Rd_26) ki_Rd_goesOn kz_Rd_goesOn rfl rfl rfl hsp rfl rfl hw k
theorem cv_Rd_26_d {v1 v2 : Value} {rest : List Value} (ho : M.1.cls = "LampMoths$Reader") (hd : decode M.2.1 pc = .ok (.invokevirtual 26, 3)) (hR : okR0 M M_Rd_goesOn) {h2 : Hp} {w : Value} (hsp : SD l D base M_Rd_goesOn (.ref 18 :: [v1, v2]) h (some w) h2) (hw : (rest.map fun v => v.category).sum ≤ 8) (k : WH l D base M (pc + 3) ls (w :: rest) h2 Q) : WH l D base M pc ls (v2 :: v1 :: .ref 18 :: rest) h Q :=
  cv_Rd_26 ho hd hR hsp hw (fun h' r e => by obtain ⟨rfl, rfl⟩ := e; exact k)
theorem cv_Rd_26_i {v1 v2 : Value} {rest : List Value} (ho : M.1.cls = "LampMoths$Reader") (hd : decode M.2.1 pc = .ok (.invokevirtual 26, 3)) (hR : okR0 M M_Rd_goesOn) {P : Hp → Int32 → Prop} (hsp : SI l D base M_Rd_goesOn (.ref 18 :: [v1, v2]) h P) (hw : (rest.map fun v => v.category).sum ≤ 8) (k : ∀ (h' : Hp) (x : Int32), P h' x → WH l D base M (pc + 3) ls (.int x :: rest) h' Q) : WH l D base M pc ls (v2 :: v1 :: .ref 18 :: rest) h Q :=
  cv_Rd_26 ho hd hR hsp hw (fun h' r e => by obtain ⟨x, rfl, hp⟩ := e; exact k h' x hp)
theorem ml_Rd_30 : Cond.methodLink "LampMoths$Reader" 30 M_Rd_takesPart.1 ∈ lw_gt := gt_at 220 (by decide +kernel) rfl
theorem cv_Rd_30 {v1 v2 : Value} {rest : List Value} (ho : M.1.cls = "LampMoths$Reader") (hd : decode M.2.1 pc = .ok (.invokevirtual 30, 3)) (hR : okR0 M M_Rd_takesPart) {Q' : Hp → Option Value → Prop} (hsp : SP l D base M_Rd_takesPart (.ref 18 :: [v1, v2]) h Q') (hw : (rest.map fun v => v.category).sum ≤ 8) (k : ∀ (h' : Hp) (r : Option Value), Q' h' r → WH l D base M (pc + 3) ls (r.toList ++ rest) h' Q) : WH l D base M pc ls (v2 :: v1 :: .ref 18 :: rest) h Q :=
  wh_callV (b := 18) (ci := 1) (As := [v1, v2]) (rest := rest) hd k_Rd_takesPart hR (show Cond.methodLink M.1.cls 30 M_Rd_takesPart.1 ∈ lw_gt by rw [ho]; exact ml_Rd_30) ki_Rd_takesPart kz_Rd_takesPart rfl rfl rfl hsp rfl rfl hw k
theorem cv_Rd_30_d {v1 v2 : Value} {rest : List Value} (ho : M.1.cls = "LampMoths$Reader") (hd : decode M.2.1 pc = .ok (.invokevirtual 30, 3)) (hR : okR0 M M_Rd_takesPart) {h2 : Hp} {w : Value} (hsp : SD l D base M_Rd_takesPart (.ref 18 :: [v1, v2]) h (some w) h2) (hw : (rest.map fun v => v.category).sum ≤ 8) (k : WH l D base M (pc + 3) ls (w :: rest) h2 Q) : WH l D base M pc ls (v2 :: v1 :: .ref 18 :: rest) h Q :=
  cv_Rd_30 ho hd hR hsp hw (fun h' r e => by obtain ⟨rfl, rfl⟩ := e; exact k)
theorem cv_Rd_30_i {v1 v2 : Value} {rest : List Value} (ho : M.1.cls = "LampMoths$Reader") (hd : decode M.2.1 pc = .ok (.invokevirtual 30, 3)) (hR : okR0 M M_Rd_takesPart) {P : Hp → Int32 → Prop} (hsp : SI l D base M_Rd_takesPart (.ref 18 :: [v1, v2]) h P) (hw : (rest.map fun v => v.category).sum ≤ 8) (k : ∀ (h' : Hp) (x : Int32), P h' x → WH l D base M (pc + 3) ls (.int x :: rest) h' Q) : WH l D base M pc ls (v2 :: v1 :: .ref 18 :: rest) h Q :=
  cv_Rd_30 ho hd hR hsp hw (fun h' r e => by obtain ⟨x, rfl, hp⟩ := e; exact k h' x hp)
theorem ml_Rd_34 : Cond.methodLink "LampMoths$Reader" 34 M_Rd_takesFigure.1 ∈ lw_gt := gt_at 224 (by decide +kernel) rfl
theorem cv_Rd_34 {v1 v2 : Value} {rest : List Value} (ho : M.1.cls = "LampMoths$Reader") (hd : decode M.2.1 pc = .ok (.invokevirtual 34, 3)) (hR : okR0 M M_Rd_takesFigure) {Q' : Hp → Option Value → Prop} (hsp : SP l D base M_Rd_takesFigure (.ref 18 :: [v1, v2]) h Q') (hw : (rest.map fun v => v.category).sum ≤ 8) (k : ∀ (h' : Hp) (r : Option Value), Q' h' r → WH l D base M (pc + 3) ls (r.toList ++ rest) h' Q) : WH l D base M pc ls (v2 :: v1 :: .ref 18 :: rest) h Q :=
  wh_callV (b := 18) (ci := 1) (As := [v1, v2]) (rest := rest) hd k_Rd_takesFigure hR (show Cond.methodLink M.1.cls 34 M_Rd_takesFigure.1 ∈ lw_gt by rw [ho]; exact ml_Rd_34) ki_Rd_takesFigure kz_Rd_takesFigure rfl rfl rfl hsp rfl rfl hw k
theorem cv_Rd_34_d {v1 v2 : Value} {rest : List Value} (ho : M.1.cls = "LampMoths$Reader") (hd : decode M.2.1 pc = .ok (.invokevirtual 34, 3)) (hR : okR0 M M_Rd_takesFigure) {h2 : Hp} {w : Value} (hsp : SD l D base M_Rd_takesFigure (.ref 18 :: [v1, v2]) h (some w) h2) (hw : (rest.map fun v => v.category).sum ≤ 8) (k : WH l D base M (pc + 3) ls (w :: rest) h2 Q) : WH l D base M pc ls (v2 :: v1 :: .ref 18 :: rest) h Q :=
  cv_Rd_34 ho hd hR hsp hw (fun h' r e => by obtain ⟨rfl, rfl⟩ := e; exact k)
theorem cv_Rd_34_i {v1 v2 : Value} {rest : List Value} (ho : M.1.cls = "LampMoths$Reader") (hd : decode M.2.1 pc = .ok (.invokevirtual 34, 3)) (hR : okR0 M M_Rd_takesFigure) {P : Hp → Int32 → Prop} (hsp : SI l D base M_Rd_takesFigure (.ref 18 :: [v1, v2]) h P) (hw : (rest.map fun v => v.category).sum ≤ 8) (k : ∀ (h' : Hp) (x : Int32), P h' x → WH l D base M (pc + 3) ls (.int x :: rest) h' Q) : WH l D base M pc ls (v2 :: v1 :: .ref 18 :: rest) h Q :=
  cv_Rd_34 ho hd hR hsp hw (fun h' r e => by obtain ⟨x, rfl, hp⟩ := e; exact k h' x hp)
theorem cs_Rd_46 {v1 : Value} {rest : List Value} (ho : M.1.cls = "LampMoths$Reader") (hd : decode M.2.1 pc = .ok (.invokestatic 46, 3)) (hR : okR0 M M_Lm_isWind) {Q' : Hp → Option Value → Prop} (hsp : SP l D base M_Lm_isWind [v1] h Q') (hw : (rest.map fun v => v.category).sum ≤ 8) (k : ∀ (h' : Hp) (r : Option Value), Q' h' r → WH l D base M (pc + 3) ls (r.toList ++ rest) h' Q) : WH l D base M pc ls (v1 :: rest) h Q :=
  wh_callN (As := [v1]) (rest := rest) (n := 1) (host := "LampMoths") hd k_Lm_isWind hR (by rw [ho]; exact fun U hU => hU.2.2.2.1) ks_Lm_isWind hsp rfl rfl hw k
theorem cs_Rd_46_d {v1 : Value} {rest : List Value} (ho : M.1.cls = "LampMoths$Reader") (hd : decode M.2.1 pc = .ok (.invokestatic 46, 3)) (hR : okR0 M M_Lm_isWind) {h2 : Hp} {w : Value} (hsp : SD l D base M_Lm_isWind [v1] h (some w) h2) (hw : (rest.map fun v => v.category).sum ≤ 8) (k : WH l D base M (pc + 3) ls (w :: rest) h2 Q) : WH l D base M pc ls (v1 :: rest) h Q :=
  cs_Rd_46 ho hd hR hsp hw (fun h' r e => by obtain ⟨rfl, rfl⟩ := e; exact k)
theorem cs_Rd_46_i {v1 : Value} {rest : List Value} (ho : M.1.cls = "LampMoths$Reader") (hd : decode M.2.1 pc = .ok (.invokestatic 46, 3)) (hR : okR0 M M_Lm_isWind) {P : Hp → Int32 → Prop} (hsp : SI l D base M_Lm_isWind [v1] h P) (hw : (rest.map fun v => v.category).sum ≤ 8) (k : ∀ (h' : Hp) (x : Int32), P h' x → WH l D base M (pc + 3) ls (.int x :: rest) h' Q) : WH l D base M pc ls (v1 :: rest) h Q :=
  cs_Rd_46 ho hd hR hsp hw (fun h' r e => by obtain ⟨x, rfl, hp⟩ := e; exact k h' x hp)
theorem ml_Rd_53 : Cond.methodLink "LampMoths$Reader" 53 M_Ln_isFree.1 ∈ lw_gt := gt_at 231 (by decide +kernel) rfl
theorem cv_Rd_53 {v1 : Value} {rest : List Value} {b : Nat} (hb : IsLane b) (ho : M.1.cls = "LampMoths$Reader") (hd : decode M.2.1 pc = .ok (.invokevirtual 53, 3)) (hR : okR0 M M_Ln_isFree) {Q' : Hp → Option Value → Prop} (hsp : SP l D base M_Ln_isFree (.ref b :: [v1]) h Q') (hw : (rest.map fun v => v.category).sum ≤ 8) (k : ∀ (h' : Hp) (r : Option Value), Q' h' r → WH l D base M (pc + 3) ls (r.toList ++ rest) h' Q) : WH l D base M pc ls (v1 :: .ref b :: rest) h Q :=
  wh_callV (b := b) (ci := 0) (As := [v1]) (rest := rest) hd k_Ln_isFree hR (show Cond.methodLink M.1.cls 53 M_Ln_isFree.1 ∈ lw_gt by rw [ho]; exact ml_Rd_53) ki_Ln_isFree kz_Ln_isFree (show SH[b]? = some (.inr (0, [(2, some (b + 1)), (2, some (b + 2)), (2, some (b + 3)), (2, some (b + 4)), (2, some (b + 5)), (2, some (b + 6)), (0, none), (0, none), (0, none), (0, none), (0, none), (2, some (b + 7))])) by rcases hb with rfl | rfl <;> rfl) rfl rfl hsp rfl rfl hw k
theorem cv_Rd_53_d {v1 : Value} {rest : List Value} {b : Nat} (hb : IsLane b) (ho : M.1.cls = "LampMoths$Reader") (hd : decode M.2.1 pc = .ok (.invokevirtual 53, 3)) (hR : okR0 M M_Ln_isFree) {h2 : Hp} {w : Value} (hsp : SD l D base M_Ln_isFree (.ref b :: [v1]) h (some w) h2) (hw : (rest.map fun v => v.category).sum ≤ 8) (k : WH l D base M (pc + 3) ls (w :: rest) h2 Q) : WH l D base M pc ls (v1 :: .ref b :: rest) h Q :=
  cv_Rd_53 hb ho hd hR hsp hw (fun h' r e => by obtain ⟨rfl, rfl⟩ := e; exact k)
theorem cv_Rd_53_i {v1 : Value} {rest : List Value} {b : Nat} (hb : IsLane b) (ho : M.1.cls = "LampMoths$Reader") (hd : decode M.2.1 pc = .ok (.invokevirtual 53, 3)) (hR : okR0 M M_Ln_isFree) {P : Hp → Int32 → Prop} (hsp : SI l D base M_Ln_isFree (.ref b :: [v1]) h P) (hw : (rest.map fun v => v.category).sum ≤ 8) (k : ∀ (h' : Hp) (x : Int32), P h' x → WH l D base M (pc + 3) ls (.int x :: rest) h' Q) : WH l D base M pc ls (v1 :: .ref b :: rest) h Q :=
  cv_Rd_53 hb ho hd hR hsp hw (fun h' r e => by obtain ⟨x, rfl, hp⟩ := e; exact k h' x hp)
theorem ml_Rd_56 : Cond.methodLink "LampMoths$Reader" 56 M_Ln_addWindow.1 ∈ lw_gt := gt_at 235 (by decide +kernel) rfl
theorem cv_Rd_56 {v1 v2 v3 : Value} {rest : List Value} {b : Nat} (hb : IsLane b) (ho : M.1.cls = "LampMoths$Reader") (hd : decode M.2.1 pc = .ok (.invokevirtual 56, 3)) (hR : okR0 M M_Ln_addWindow) {Q' : Hp → Option Value → Prop} (hsp : SP l D base M_Ln_addWindow (.ref b :: [v1, v2, v3]) h Q') (hw : (rest.map fun v => v.category).sum ≤ 8) (k : ∀ (h' : Hp) (r : Option Value), Q' h' r → WH l D base M (pc + 3) ls (r.toList ++ rest) h' Q) : WH l D base M pc ls (v3 :: v2 :: v1 :: .ref b :: rest) h Q :=
  wh_callV (b := b) (ci := 0) (As := [v1, v2, v3]) (rest := rest) hd k_Ln_addWindow hR (show Cond.methodLink M.1.cls 56 M_Ln_addWindow.1 ∈ lw_gt by rw [ho]; exact ml_Rd_56) ki_Ln_addWindow kz_Ln_addWindow (show SH[b]? = some (.inr (0, [(2, some (b + 1)), (2, some (b + 2)), (2, some (b + 3)), (2, some (b + 4)), (2, some (b + 5)), (2, some (b + 6)), (0, none), (0, none), (0, none), (0, none), (0, none), (2, some (b + 7))])) by rcases hb with rfl | rfl <;> rfl) rfl rfl hsp rfl rfl hw k
theorem cv_Rd_56_d {v1 v2 v3 : Value} {rest : List Value} {b : Nat} (hb : IsLane b) (ho : M.1.cls = "LampMoths$Reader") (hd : decode M.2.1 pc = .ok (.invokevirtual 56, 3)) (hR : okR0 M M_Ln_addWindow) {h2 : Hp} {w : Value} (hsp : SD l D base M_Ln_addWindow (.ref b :: [v1, v2, v3]) h (some w) h2) (hw : (rest.map fun v => v.category).sum ≤ 8) (k : WH l D base M (pc + 3) ls (w :: rest) h2 Q) : WH l D base M pc ls (v3 :: v2 :: v1 :: .ref b :: rest) h Q :=
  cv_Rd_56 hb ho hd hR hsp hw (fun h' r e => by obtain ⟨rfl, rfl⟩ := e; exact k)
theorem cv_Rd_56_i {v1 v2 v3 : Value} {rest : List Value} {b : Nat} (hb : IsLane b) (ho : M.1.cls = "LampMoths$Reader") (hd : decode M.2.1 pc = .ok (.invokevirtual 56, 3)) (hR : okR0 M M_Ln_addWindow) {P : Hp → Int32 → Prop} (hsp : SI l D base M_Ln_addWindow (.ref b :: [v1, v2, v3]) h P) (hw : (rest.map fun v => v.category).sum ≤ 8) (k : ∀ (h' : Hp) (x : Int32), P h' x → WH l D base M (pc + 3) ls (.int x :: rest) h' Q) : WH l D base M pc ls (v3 :: v2 :: v1 :: .ref b :: rest) h Q :=
  cv_Rd_56 hb ho hd hR hsp hw (fun h' r e => by obtain ⟨x, rfl, hp⟩ := e; exact k h' x hp)
theorem ml_Rd_60 : Cond.methodLink "LampMoths$Reader" 60 M_Ln_addMoth.1 ∈ lw_gt := gt_at 239 (by decide +kernel) rfl
theorem cv_Rd_60 {v1 v2 : Value} {rest : List Value} {b : Nat} (hb : IsLane b) (ho : M.1.cls = "LampMoths$Reader") (hd : decode M.2.1 pc = .ok (.invokevirtual 60, 3)) (hR : okR0 M M_Ln_addMoth) {Q' : Hp → Option Value → Prop} (hsp : SP l D base M_Ln_addMoth (.ref b :: [v1, v2]) h Q') (hw : (rest.map fun v => v.category).sum ≤ 8) (k : ∀ (h' : Hp) (r : Option Value), Q' h' r → WH l D base M (pc + 3) ls (r.toList ++ rest) h' Q) : WH l D base M pc ls (v2 :: v1 :: .ref b :: rest) h Q :=
  wh_callV (b := b) (ci := 0) (As := [v1, v2]) (rest := rest) hd k_Ln_addMoth hR (show Cond.methodLink M.1.cls 60 M_Ln_addMoth.1 ∈ lw_gt by rw [ho]; exact ml_Rd_60) ki_Ln_addMoth kz_Ln_addMoth (show SH[b]? = some (.inr (0, [(2, some (b + 1)), (2, some (b + 2)), (2, some (b + 3)), (2, some (b + 4)), (2, some (b + 5)), (2, some (b + 6)), (0, none), (0, none), (0, none), (0, none), (0, none), (2, some (b + 7))])) by rcases hb with rfl | rfl <;> rfl) rfl rfl hsp rfl rfl hw k
theorem cv_Rd_60_d {v1 v2 : Value} {rest : List Value} {b : Nat} (hb : IsLane b) (ho : M.1.cls = "LampMoths$Reader") (hd : decode M.2.1 pc = .ok (.invokevirtual 60, 3)) (hR : okR0 M M_Ln_addMoth) {h2 : Hp} {w : Value} (hsp : SD l D base M_Ln_addMoth (.ref b :: [v1, v2]) h (some w) h2) (hw : (rest.map fun v => v.category).sum ≤ 8) (k : WH l D base M (pc + 3) ls (w :: rest) h2 Q) : WH l D base M pc ls (v2 :: v1 :: .ref b :: rest) h Q :=
  cv_Rd_60 hb ho hd hR hsp hw (fun h' r e => by obtain ⟨rfl, rfl⟩ := e; exact k)
theorem cv_Rd_60_i {v1 v2 : Value} {rest : List Value} {b : Nat} (hb : IsLane b) (ho : M.1.cls = "LampMoths$Reader") (hd : decode M.2.1 pc = .ok (.invokevirtual 60, 3)) (hR : okR0 M M_Ln_addMoth) {P : Hp → Int32 → Prop} (hsp : SI l D base M_Ln_addMoth (.ref b :: [v1, v2]) h P) (hw : (rest.map fun v => v.category).sum ≤ 8) (k : ∀ (h' : Hp) (x : Int32), P h' x → WH l D base M (pc + 3) ls (.int x :: rest) h' Q) : WH l D base M pc ls (v2 :: v1 :: .ref b :: rest) h Q :=
  cv_Rd_60 hb ho hd hR hsp hw (fun h' r e => by obtain ⟨x, rfl, hp⟩ := e; exact k h' x hp)
theorem ml_Lm_240 : Cond.methodLink "LampMoths" 240 M_Rd_mayEnd.1 ∈ lw_gt := gt_at 243 (by decide +kernel) rfl
theorem cv_Lm_240 {rest : List Value} (ho : M.1.cls = "LampMoths") (hd : decode M.2.1 pc = .ok (.invokevirtual 240, 3)) (hR : okR0 M M_Rd_mayEnd) {Q' : Hp → Option Value → Prop} (hsp : SP l D base M_Rd_mayEnd (.ref 18 :: []) h Q') (hw : (rest.map fun v => v.category).sum ≤ 8) (k : ∀ (h' : Hp) (r : Option Value), Q' h' r → WH l D base M (pc + 3) ls (r.toList ++ rest) h' Q) : WH l D base M pc ls (.ref 18 :: rest) h Q :=
  wh_callV (b := 18) (ci := 1) (As := []) (rest := rest) hd k_Rd_mayEnd hR (show Cond.methodLink M.1.cls 240 M_Rd_mayEnd.1 ∈ lw_gt by rw [ho]; exact ml_Lm_240) ki_Rd_mayEnd kz_Rd_mayEnd rfl rfl rfl hsp rfl rfl hw k
theorem cv_Lm_240_d {rest : List Value} (ho : M.1.cls = "LampMoths") (hd : decode M.2.1 pc = .ok (.invokevirtual 240, 3)) (hR : okR0 M M_Rd_mayEnd) {h2 : Hp} {w : Value} (hsp : SD l D base M_Rd_mayEnd (.ref 18 :: []) h (some w) h2) (hw : (rest.map fun v => v.category).sum ≤ 8) (k : WH l D base M (pc + 3) ls (w :: rest) h2 Q) : WH l D base M pc ls (.ref 18 :: rest) h Q :=
  cv_Lm_240 ho hd hR hsp hw (fun h' r e => by obtain ⟨rfl, rfl⟩ := e; exact k)
theorem cv_Lm_240_i {rest : List Value} (ho : M.1.cls = "LampMoths") (hd : decode M.2.1 pc = .ok (.invokevirtual 240, 3)) (hR : okR0 M M_Rd_mayEnd) {P : Hp → Int32 → Prop} (hsp : SI l D base M_Rd_mayEnd (.ref 18 :: []) h P) (hw : (rest.map fun v => v.category).sum ≤ 8) (k : ∀ (h' : Hp) (x : Int32), P h' x → WH l D base M (pc + 3) ls (.int x :: rest) h' Q) : WH l D base M pc ls (.ref 18 :: rest) h Q :=
  cv_Lm_240 ho hd hR hsp hw (fun h' r e => by obtain ⟨x, rfl, hp⟩ := e; exact k h' x hp)
theorem ml_Lm_72 : Cond.methodLink "LampMoths" 72 M_Ln_copyFrom.1 ∈ lw_gt := gt_at 251 (by decide +kernel) rfl
theorem cv_Lm_72 {v1 : Value} {rest : List Value} {b : Nat} (hb : IsLane b) (ho : M.1.cls = "LampMoths") (hd : decode M.2.1 pc = .ok (.invokevirtual 72, 3)) (hR : okR0 M M_Ln_copyFrom) {Q' : Hp → Option Value → Prop} (hsp : SP l D base M_Ln_copyFrom (.ref b :: [v1]) h Q') (hw : (rest.map fun v => v.category).sum ≤ 8) (k : ∀ (h' : Hp) (r : Option Value), Q' h' r → WH l D base M (pc + 3) ls (r.toList ++ rest) h' Q) : WH l D base M pc ls (v1 :: .ref b :: rest) h Q :=
  wh_callV (b := b) (ci := 0) (As := [v1]) (rest := rest) hd k_Ln_copyFrom hR (show Cond.methodLink M.1.cls 72 M_Ln_copyFrom.1 ∈ lw_gt by rw [ho]; exact ml_Lm_72) ki_Ln_copyFrom kz_Ln_copyFrom (show SH[b]? = some (.inr (0, [(2, some (b + 1)), (2, some (b + 2)), (2, some (b + 3)), (2, some (b + 4)), (2, some (b + 5)), (2, some (b + 6)), (0, none), (0, none), (0, none), (0, none), (0, none), (2, some (b + 7))])) by rcases hb with rfl | rfl <;> rfl) rfl rfl hsp rfl rfl hw k
theorem cv_Lm_72_d {v1 : Value} {rest : List Value} {b : Nat} (hb : IsLane b) (ho : M.1.cls = "LampMoths") (hd : decode M.2.1 pc = .ok (.invokevirtual 72, 3)) (hR : okR0 M M_Ln_copyFrom) {h2 : Hp} (hsp : SD l D base M_Ln_copyFrom (.ref b :: [v1]) h none h2) (hw : (rest.map fun v => v.category).sum ≤ 8) (k : WH l D base M (pc + 3) ls rest h2 Q) : WH l D base M pc ls (v1 :: .ref b :: rest) h Q :=
  cv_Lm_72 hb ho hd hR hsp hw (fun h' r e => by obtain ⟨rfl, rfl⟩ := e; exact k)
theorem cv_Lm_72_v {v1 : Value} {rest : List Value} {b : Nat} (hb : IsLane b) (ho : M.1.cls = "LampMoths") (hd : decode M.2.1 pc = .ok (.invokevirtual 72, 3)) (hR : okR0 M M_Ln_copyFrom) {P : Hp → Prop} (hsp : SV l D base M_Ln_copyFrom (.ref b :: [v1]) h P) (hw : (rest.map fun v => v.category).sum ≤ 8) (k : ∀ h' : Hp, P h' → WH l D base M (pc + 3) ls rest h' Q) : WH l D base M pc ls (v1 :: .ref b :: rest) h Q :=
  cv_Lm_72 hb ho hd hR hsp hw (fun h' r e => by obtain ⟨rfl, hp⟩ := e; exact k h' hp)
theorem ml_Lm_91 : Cond.methodLink "LampMoths" 91 M_Ln_paidByAll.1 ∈ lw_gt := gt_at 259 (by decide +kernel) rfl
theorem cv_Lm_91 {rest : List Value} {b : Nat} (hb : IsLane b) (ho : M.1.cls = "LampMoths") (hd : decode M.2.1 pc = .ok (.invokevirtual 91, 3)) (hR : okR0 M M_Ln_paidByAll) {Q' : Hp → Option Value → Prop} (hsp : SP l D base M_Ln_paidByAll (.ref b :: []) h Q') (hw : (rest.map fun v => v.category).sum ≤ 8) (k : ∀ (h' : Hp) (r : Option Value), Q' h' r → WH l D base M (pc + 3) ls (r.toList ++ rest) h' Q) : WH l D base M pc ls (.ref b :: rest) h Q :=
  wh_callV (b := b) (ci := 0) (As := []) (rest := rest) hd k_Ln_paidByAll hR (show Cond.methodLink M.1.cls 91 M_Ln_paidByAll.1 ∈ lw_gt by rw [ho]; exact ml_Lm_91) ki_Ln_paidByAll kz_Ln_paidByAll (show SH[b]? = some (.inr (0, [(2, some (b + 1)), (2, some (b + 2)), (2, some (b + 3)), (2, some (b + 4)), (2, some (b + 5)), (2, some (b + 6)), (0, none), (0, none), (0, none), (0, none), (0, none), (2, some (b + 7))])) by rcases hb with rfl | rfl <;> rfl) rfl rfl hsp rfl rfl hw k
theorem cv_Lm_91_d {rest : List Value} {b : Nat} (hb : IsLane b) (ho : M.1.cls = "LampMoths") (hd : decode M.2.1 pc = .ok (.invokevirtual 91, 3)) (hR : okR0 M M_Ln_paidByAll) {h2 : Hp} {w : Value} (hsp : SD l D base M_Ln_paidByAll (.ref b :: []) h (some w) h2) (hw : (rest.map fun v => v.category).sum ≤ 8) (k : WH l D base M (pc + 3) ls (w :: rest) h2 Q) : WH l D base M pc ls (.ref b :: rest) h Q :=
  cv_Lm_91 hb ho hd hR hsp hw (fun h' r e => by obtain ⟨rfl, rfl⟩ := e; exact k)
theorem cv_Lm_91_i {rest : List Value} {b : Nat} (hb : IsLane b) (ho : M.1.cls = "LampMoths") (hd : decode M.2.1 pc = .ok (.invokevirtual 91, 3)) (hR : okR0 M M_Ln_paidByAll) {P : Hp → Int32 → Prop} (hsp : SI l D base M_Ln_paidByAll (.ref b :: []) h P) (hw : (rest.map fun v => v.category).sum ≤ 8) (k : ∀ (h' : Hp) (x : Int32), P h' x → WH l D base M (pc + 3) ls (.int x :: rest) h' Q) : WH l D base M pc ls (.ref b :: rest) h Q :=
  cv_Lm_91 hb ho hd hR hsp hw (fun h' r e => by obtain ⟨x, rfl, hp⟩ := e; exact k h' x hp)
theorem ml_Lm_95 : Cond.methodLink "LampMoths" 95 M_Ln_owedByAll.1 ∈ lw_gt := gt_at 263 (by decide +kernel) rfl
theorem cv_Lm_95 {rest : List Value} {b : Nat} (hb : IsLane b) (ho : M.1.cls = "LampMoths") (hd : decode M.2.1 pc = .ok (.invokevirtual 95, 3)) (hR : okR0 M M_Ln_owedByAll) {Q' : Hp → Option Value → Prop} (hsp : SP l D base M_Ln_owedByAll (.ref b :: []) h Q') (hw : (rest.map fun v => v.category).sum ≤ 8) (k : ∀ (h' : Hp) (r : Option Value), Q' h' r → WH l D base M (pc + 3) ls (r.toList ++ rest) h' Q) : WH l D base M pc ls (.ref b :: rest) h Q :=
  wh_callV (b := b) (ci := 0) (As := []) (rest := rest) hd k_Ln_owedByAll hR (show Cond.methodLink M.1.cls 95 M_Ln_owedByAll.1 ∈ lw_gt by rw [ho]; exact ml_Lm_95) ki_Ln_owedByAll kz_Ln_owedByAll (show SH[b]? = some (.inr (0, [(2, some (b + 1)), (2, some (b + 2)), (2, some (b + 3)), (2, some (b + 4)), (2, some (b + 5)), (2, some (b + 6)), (0, none), (0, none), (0, none), (0, none), (0, none), (2, some (b + 7))])) by rcases hb with rfl | rfl <;> rfl) rfl rfl hsp rfl rfl hw k
theorem cv_Lm_95_d {rest : List Value} {b : Nat} (hb : IsLane b) (ho : M.1.cls = "LampMoths") (hd : decode M.2.1 pc = .ok (.invokevirtual 95, 3)) (hR : okR0 M M_Ln_owedByAll) {h2 : Hp} {w : Value} (hsp : SD l D base M_Ln_owedByAll (.ref b :: []) h (some w) h2) (hw : (rest.map fun v => v.category).sum ≤ 8) (k : WH l D base M (pc + 3) ls (w :: rest) h2 Q) : WH l D base M pc ls (.ref b :: rest) h Q :=
  cv_Lm_95 hb ho hd hR hsp hw (fun h' r e => by obtain ⟨rfl, rfl⟩ := e; exact k)
theorem cv_Lm_95_i {rest : List Value} {b : Nat} (hb : IsLane b) (ho : M.1.cls = "LampMoths") (hd : decode M.2.1 pc = .ok (.invokevirtual 95, 3)) (hR : okR0 M M_Ln_owedByAll) {P : Hp → Int32 → Prop} (hsp : SI l D base M_Ln_owedByAll (.ref b :: []) h P) (hw : (rest.map fun v => v.category).sum ≤ 8) (k : ∀ (h' : Hp) (x : Int32), P h' x → WH l D base M (pc + 3) ls (.int x :: rest) h' Q) : WH l D base M pc ls (.ref b :: rest) h Q :=
  cv_Lm_95 hb ho hd hR hsp hw (fun h' r e => by obtain ⟨x, rfl, hp⟩ := e; exact k h' x hp)
theorem ml_Ln_93 : Cond.methodLink "LampMoths$Lane" 93 M_Ln_reckon.1 ∈ lw_gt := gt_at 267 (by decide +kernel) rfl
theorem cv_Ln_93 {rest : List Value} {b : Nat} (hb : IsLane b) (ho : M.1.cls = "LampMoths$Lane") (hd : decode M.2.1 pc = .ok (.invokevirtual 93, 3)) (hR : okR0 M M_Ln_reckon) {Q' : Hp → Option Value → Prop} (hsp : SP l D base M_Ln_reckon (.ref b :: []) h Q') (hw : (rest.map fun v => v.category).sum ≤ 8) (k : ∀ (h' : Hp) (r : Option Value), Q' h' r → WH l D base M (pc + 3) ls (r.toList ++ rest) h' Q) : WH l D base M pc ls (.ref b :: rest) h Q :=
  wh_callV (b := b) (ci := 0) (As := []) (rest := rest) hd k_Ln_reckon hR (show Cond.methodLink M.1.cls 93 M_Ln_reckon.1 ∈ lw_gt by rw [ho]; exact ml_Ln_93) ki_Ln_reckon kz_Ln_reckon (show SH[b]? = some (.inr (0, [(2, some (b + 1)), (2, some (b + 2)), (2, some (b + 3)), (2, some (b + 4)), (2, some (b + 5)), (2, some (b + 6)), (0, none), (0, none), (0, none), (0, none), (0, none), (2, some (b + 7))])) by rcases hb with rfl | rfl <;> rfl) rfl rfl hsp rfl rfl hw k
theorem cv_Ln_93_d {rest : List Value} {b : Nat} (hb : IsLane b) (ho : M.1.cls = "LampMoths$Lane") (hd : decode M.2.1 pc = .ok (.invokevirtual 93, 3)) (hR : okR0 M M_Ln_reckon) {h2 : Hp} (hsp : SD l D base M_Ln_reckon (.ref b :: []) h none h2) (hw : (rest.map fun v => v.category).sum ≤ 8) (k : WH l D base M (pc + 3) ls rest h2 Q) : WH l D base M pc ls (.ref b :: rest) h Q :=
  cv_Ln_93 hb ho hd hR hsp hw (fun h' r e => by obtain ⟨rfl, rfl⟩ := e; exact k)
theorem cv_Ln_93_v {rest : List Value} {b : Nat} (hb : IsLane b) (ho : M.1.cls = "LampMoths$Lane") (hd : decode M.2.1 pc = .ok (.invokevirtual 93, 3)) (hR : okR0 M M_Ln_reckon) {P : Hp → Prop} (hsp : SV l D base M_Ln_reckon (.ref b :: []) h P) (hw : (rest.map fun v => v.category).sum ≤ 8) (k : ∀ h' : Hp, P h' → WH l D base M (pc + 3) ls rest h' Q) : WH l D base M pc ls (.ref b :: rest) h Q :=
  cv_Ln_93 hb ho hd hR hsp hw (fun h' r e => by obtain ⟨rfl, hp⟩ := e; exact k h' hp)
theorem ml_Ln_78 : Cond.methodLink "LampMoths$Lane" 78 M_Ln_drawersOf.1 ∈ lw_gt := gt_at 271 (by decide +kernel) rfl
theorem cv_Ln_78 {v1 : Value} {rest : List Value} {b : Nat} (hb : IsLane b) (ho : M.1.cls = "LampMoths$Lane") (hd : decode M.2.1 pc = .ok (.invokevirtual 78, 3)) (hR : okR0 M M_Ln_drawersOf) {Q' : Hp → Option Value → Prop} (hsp : SP l D base M_Ln_drawersOf (.ref b :: [v1]) h Q') (hw : (rest.map fun v => v.category).sum ≤ 8) (k : ∀ (h' : Hp) (r : Option Value), Q' h' r → WH l D base M (pc + 3) ls (r.toList ++ rest) h' Q) : WH l D base M pc ls (v1 :: .ref b :: rest) h Q :=
  wh_callV (b := b) (ci := 0) (As := [v1]) (rest := rest) hd k_Ln_drawersOf hR (show Cond.methodLink M.1.cls 78 M_Ln_drawersOf.1 ∈ lw_gt by rw [ho]; exact ml_Ln_78) ki_Ln_drawersOf kz_Ln_drawersOf (show SH[b]? = some (.inr (0, [(2, some (b + 1)), (2, some (b + 2)), (2, some (b + 3)), (2, some (b + 4)), (2, some (b + 5)), (2, some (b + 6)), (0, none), (0, none), (0, none), (0, none), (0, none), (2, some (b + 7))])) by rcases hb with rfl | rfl <;> rfl) rfl rfl hsp rfl rfl hw k
theorem cv_Ln_78_d {v1 : Value} {rest : List Value} {b : Nat} (hb : IsLane b) (ho : M.1.cls = "LampMoths$Lane") (hd : decode M.2.1 pc = .ok (.invokevirtual 78, 3)) (hR : okR0 M M_Ln_drawersOf) {h2 : Hp} {w : Value} (hsp : SD l D base M_Ln_drawersOf (.ref b :: [v1]) h (some w) h2) (hw : (rest.map fun v => v.category).sum ≤ 8) (k : WH l D base M (pc + 3) ls (w :: rest) h2 Q) : WH l D base M pc ls (v1 :: .ref b :: rest) h Q :=
  cv_Ln_78 hb ho hd hR hsp hw (fun h' r e => by obtain ⟨rfl, rfl⟩ := e; exact k)
theorem cv_Ln_78_i {v1 : Value} {rest : List Value} {b : Nat} (hb : IsLane b) (ho : M.1.cls = "LampMoths$Lane") (hd : decode M.2.1 pc = .ok (.invokevirtual 78, 3)) (hR : okR0 M M_Ln_drawersOf) {P : Hp → Int32 → Prop} (hsp : SI l D base M_Ln_drawersOf (.ref b :: [v1]) h P) (hw : (rest.map fun v => v.category).sum ≤ 8) (k : ∀ (h' : Hp) (x : Int32), P h' x → WH l D base M (pc + 3) ls (.int x :: rest) h' Q) : WH l D base M pc ls (v1 :: .ref b :: rest) h Q :=
  cv_Ln_78 hb ho hd hR hsp hw (fun h' r e => by obtain ⟨x, rfl, hp⟩ := e; exact k h' x hp)
theorem ml_Ln_75 : Cond.methodLink "LampMoths$Lane" 75 M_Ln_tug.1 ∈ lw_gt := gt_at 275 (by decide +kernel) rfl
theorem cv_Ln_75 {v1 v2 : Value} {rest : List Value} {b : Nat} (hb : IsLane b) (ho : M.1.cls = "LampMoths$Lane") (hd : decode M.2.1 pc = .ok (.invokevirtual 75, 3)) (hR : okR0 M M_Ln_tug) {Q' : Hp → Option Value → Prop} (hsp : SP l D base M_Ln_tug (.ref b :: [v1, v2]) h Q') (hw : (rest.map fun v => v.category).sum ≤ 8) (k : ∀ (h' : Hp) (r : Option Value), Q' h' r → WH l D base M (pc + 3) ls (r.toList ++ rest) h' Q) : WH l D base M pc ls (v2 :: v1 :: .ref b :: rest) h Q :=
  wh_callV (b := b) (ci := 0) (As := [v1, v2]) (rest := rest) hd k_Ln_tug hR (show Cond.methodLink M.1.cls 75 M_Ln_tug.1 ∈ lw_gt by rw [ho]; exact ml_Ln_75) ki_Ln_tug kz_Ln_tug (show SH[b]? = some (.inr (0, [(2, some (b + 1)), (2, some (b + 2)), (2, some (b + 3)), (2, some (b + 4)), (2, some (b + 5)), (2, some (b + 6)), (0, none), (0, none), (0, none), (0, none), (0, none), (2, some (b + 7))])) by rcases hb with rfl | rfl <;> rfl) rfl rfl hsp rfl rfl hw k
theorem cv_Ln_75_d {v1 v2 : Value} {rest : List Value} {b : Nat} (hb : IsLane b) (ho : M.1.cls = "LampMoths$Lane") (hd : decode M.2.1 pc = .ok (.invokevirtual 75, 3)) (hR : okR0 M M_Ln_tug) {h2 : Hp} {w : Value} (hsp : SD l D base M_Ln_tug (.ref b :: [v1, v2]) h (some w) h2) (hw : (rest.map fun v => v.category).sum ≤ 8) (k : WH l D base M (pc + 3) ls (w :: rest) h2 Q) : WH l D base M pc ls (v2 :: v1 :: .ref b :: rest) h Q :=
  cv_Ln_75 hb ho hd hR hsp hw (fun h' r e => by obtain ⟨rfl, rfl⟩ := e; exact k)
theorem cv_Ln_75_i {v1 v2 : Value} {rest : List Value} {b : Nat} (hb : IsLane b) (ho : M.1.cls = "LampMoths$Lane") (hd : decode M.2.1 pc = .ok (.invokevirtual 75, 3)) (hR : okR0 M M_Ln_tug) {P : Hp → Int32 → Prop} (hsp : SI l D base M_Ln_tug (.ref b :: [v1, v2]) h P) (hw : (rest.map fun v => v.category).sum ≤ 8) (k : ∀ (h' : Hp) (x : Int32), P h' x → WH l D base M (pc + 3) ls (.int x :: rest) h' Q) : WH l D base M pc ls (v2 :: v1 :: .ref b :: rest) h Q :=
  cv_Ln_75 hb ho hd hR hsp hw (fun h' r e => by obtain ⟨x, rfl, hp⟩ := e; exact k h' x hp)
theorem ml_Ln_49 : Cond.methodLink "LampMoths$Lane" 49 M_Ln_hasWindow.1 ∈ lw_gt := gt_at 279 (by decide +kernel) rfl
theorem cv_Ln_49 {v1 : Value} {rest : List Value} {b : Nat} (hb : IsLane b) (ho : M.1.cls = "LampMoths$Lane") (hd : decode M.2.1 pc = .ok (.invokevirtual 49, 3)) (hR : okR0 M M_Ln_hasWindow) {Q' : Hp → Option Value → Prop} (hsp : SP l D base M_Ln_hasWindow (.ref b :: [v1]) h Q') (hw : (rest.map fun v => v.category).sum ≤ 8) (k : ∀ (h' : Hp) (r : Option Value), Q' h' r → WH l D base M (pc + 3) ls (r.toList ++ rest) h' Q) : WH l D base M pc ls (v1 :: .ref b :: rest) h Q :=
  wh_callV (b := b) (ci := 0) (As := [v1]) (rest := rest) hd k_Ln_hasWindow hR (show Cond.methodLink M.1.cls 49 M_Ln_hasWindow.1 ∈ lw_gt by rw [ho]; exact ml_Ln_49) ki_Ln_hasWindow kz_Ln_hasWindow (show SH[b]? = some (.inr (0, [(2, some (b + 1)), (2, some (b + 2)), (2, some (b + 3)), (2, some (b + 4)), (2, some (b + 5)), (2, some (b + 6)), (0, none), (0, none), (0, none), (0, none), (0, none), (2, some (b + 7))])) by rcases hb with rfl | rfl <;> rfl) rfl rfl hsp rfl rfl hw k
theorem cv_Ln_49_d {v1 : Value} {rest : List Value} {b : Nat} (hb : IsLane b) (ho : M.1.cls = "LampMoths$Lane") (hd : decode M.2.1 pc = .ok (.invokevirtual 49, 3)) (hR : okR0 M M_Ln_hasWindow) {h2 : Hp} {w : Value} (hsp : SD l D base M_Ln_hasWindow (.ref b :: [v1]) h (some w) h2) (hw : (rest.map fun v => v.category).sum ≤ 8) (k : WH l D base M (pc + 3) ls (w :: rest) h2 Q) : WH l D base M pc ls (v1 :: .ref b :: rest) h Q :=
  cv_Ln_49 hb ho hd hR hsp hw (fun h' r e => by obtain ⟨rfl, rfl⟩ := e; exact k)
theorem cv_Ln_49_i {v1 : Value} {rest : List Value} {b : Nat} (hb : IsLane b) (ho : M.1.cls = "LampMoths$Lane") (hd : decode M.2.1 pc = .ok (.invokevirtual 49, 3)) (hR : okR0 M M_Ln_hasWindow) {P : Hp → Int32 → Prop} (hsp : SI l D base M_Ln_hasWindow (.ref b :: [v1]) h P) (hw : (rest.map fun v => v.category).sum ≤ 8) (k : ∀ (h' : Hp) (x : Int32), P h' x → WH l D base M (pc + 3) ls (.int x :: rest) h' Q) : WH l D base M pc ls (v1 :: .ref b :: rest) h Q :=
  cv_Ln_49 hb ho hd hR hsp hw (fun h' r e => by obtain ⟨x, rfl, hp⟩ := e; exact k h' x hp)
theorem ml_Ln_53 : Cond.methodLink "LampMoths$Lane" 53 M_Ln_hasMoth.1 ∈ lw_gt := gt_at 283 (by decide +kernel) rfl
theorem cv_Ln_53 {v1 : Value} {rest : List Value} {b : Nat} (hb : IsLane b) (ho : M.1.cls = "LampMoths$Lane") (hd : decode M.2.1 pc = .ok (.invokevirtual 53, 3)) (hR : okR0 M M_Ln_hasMoth) {Q' : Hp → Option Value → Prop} (hsp : SP l D base M_Ln_hasMoth (.ref b :: [v1]) h Q') (hw : (rest.map fun v => v.category).sum ≤ 8) (k : ∀ (h' : Hp) (r : Option Value), Q' h' r → WH l D base M (pc + 3) ls (r.toList ++ rest) h' Q) : WH l D base M pc ls (v1 :: .ref b :: rest) h Q :=
  wh_callV (b := b) (ci := 0) (As := [v1]) (rest := rest) hd k_Ln_hasMoth hR (show Cond.methodLink M.1.cls 53 M_Ln_hasMoth.1 ∈ lw_gt by rw [ho]; exact ml_Ln_53) ki_Ln_hasMoth kz_Ln_hasMoth (show SH[b]? = some (.inr (0, [(2, some (b + 1)), (2, some (b + 2)), (2, some (b + 3)), (2, some (b + 4)), (2, some (b + 5)), (2, some (b + 6)), (0, none), (0, none), (0, none), (0, none), (0, none), (2, some (b + 7))])) by rcases hb with rfl | rfl <;> rfl) rfl rfl hsp rfl rfl hw k
theorem cv_Ln_53_d {v1 : Value} {rest : List Value} {b : Nat} (hb : IsLane b) (ho : M.1.cls = "LampMoths$Lane") (hd : decode M.2.1 pc = .ok (.invokevirtual 53, 3)) (hR : okR0 M M_Ln_hasMoth) {h2 : Hp} {w : Value} (hsp : SD l D base M_Ln_hasMoth (.ref b :: [v1]) h (some w) h2) (hw : (rest.map fun v => v.category).sum ≤ 8) (k : WH l D base M (pc + 3) ls (w :: rest) h2 Q) : WH l D base M pc ls (v1 :: .ref b :: rest) h Q :=
  cv_Ln_53 hb ho hd hR hsp hw (fun h' r e => by obtain ⟨rfl, rfl⟩ := e; exact k)
theorem cv_Ln_53_i {v1 : Value} {rest : List Value} {b : Nat} (hb : IsLane b) (ho : M.1.cls = "LampMoths$Lane") (hd : decode M.2.1 pc = .ok (.invokevirtual 53, 3)) (hR : okR0 M M_Ln_hasMoth) {P : Hp → Int32 → Prop} (hsp : SI l D base M_Ln_hasMoth (.ref b :: [v1]) h P) (hw : (rest.map fun v => v.category).sum ≤ 8) (k : ∀ (h' : Hp) (x : Int32), P h' x → WH l D base M (pc + 3) ls (.int x :: rest) h' Q) : WH l D base M pc ls (v1 :: .ref b :: rest) h Q :=
  cv_Ln_53 hb ho hd hR hsp hw (fun h' r e => by obtain ⟨x, rfl, hp⟩ := e; exact k h' x hp)
theorem ml_Ln_56 : Cond.methodLink "LampMoths$Lane" 56 M_Jm_abs.1 ∈ lw_gt := gt_at 287 (by decide +kernel) rfl
theorem cs_Ln_56 {v1 : Value} {rest : List Value} (ho : M.1.cls = "LampMoths$Lane") (hd : decode M.2.1 pc = .ok (.invokestatic 56, 3)) (hR : okR0 M M_Jm_abs) {Q' : Hp → Option Value → Prop} (hsp : SP l D base M_Jm_abs [v1] h Q') (hw : (rest.map fun v => v.category).sum ≤ 8) (k : ∀ (h' : Hp) (r : Option Value), Q' h' r → WH l D base M (pc + 3) ls (r.toList ++ rest) h' Q) : WH l D base M pc ls (v1 :: rest) h Q :=
  wh_callS (As := [v1]) (rest := rest) hd k_Jm_abs hR (show Cond.methodLink M.1.cls 56 M_Jm_abs.1 ∈ lw_gt by rw [ho]; exact ml_Ln_56) ks_Jm_abs hsp rfl rfl hw k
theorem cs_Ln_56_d {v1 : Value} {rest : List Value} (ho : M.1.cls = "LampMoths$Lane") (hd : decode M.2.1 pc = .ok (.invokestatic 56, 3)) (hR : okR0 M M_Jm_abs) {h2 : Hp} {w : Value} (hsp : SD l D base M_Jm_abs [v1] h (some w) h2) (hw : (rest.map fun v => v.category).sum ≤ 8) (k : WH l D base M (pc + 3) ls (w :: rest) h2 Q) : WH l D base M pc ls (v1 :: rest) h Q :=
  cs_Ln_56 ho hd hR hsp hw (fun h' r e => by obtain ⟨rfl, rfl⟩ := e; exact k)
theorem cs_Ln_56_i {v1 : Value} {rest : List Value} (ho : M.1.cls = "LampMoths$Lane") (hd : decode M.2.1 pc = .ok (.invokestatic 56, 3)) (hR : okR0 M M_Jm_abs) {P : Hp → Int32 → Prop} (hsp : SI l D base M_Jm_abs [v1] h P) (hw : (rest.map fun v => v.category).sum ≤ 8) (k : ∀ (h' : Hp) (x : Int32), P h' x → WH l D base M (pc + 3) ls (.int x :: rest) h' Q) : WH l D base M pc ls (v1 :: rest) h Q :=
  cs_Ln_56 ho hd hR hsp hw (fun h' r e => by obtain ⟨x, rfl, hp⟩ := e; exact k h' x hp)
theorem ml_Ln_62 : Cond.methodLink "LampMoths$Lane" 62 M_Ln_glow.1 ∈ lw_gt := gt_at 290 (by decide +kernel) rfl
theorem cv_Ln_62 {v1 : Value} {rest : List Value} {b : Nat} (hb : IsLane b) (ho : M.1.cls = "LampMoths$Lane") (hd : decode M.2.1 pc = .ok (.invokevirtual 62, 3)) (hR : okR0 M M_Ln_glow) {Q' : Hp → Option Value → Prop} (hsp : SP l D base M_Ln_glow (.ref b :: [v1]) h Q') (hw : (rest.map fun v => v.category).sum ≤ 8) (k : ∀ (h' : Hp) (r : Option Value), Q' h' r → WH l D base M (pc + 3) ls (r.toList ++ rest) h' Q) : WH l D base M pc ls (v1 :: .ref b :: rest) h Q :=
  wh_callV (b := b) (ci := 0) (As := [v1]) (rest := rest) hd k_Ln_glow hR (show Cond.methodLink M.1.cls 62 M_Ln_glow.1 ∈ lw_gt by rw [ho]; exact ml_Ln_62) ki_Ln_glow kz_Ln_glow (show SH[b]? = some (.inr (0, [(2, some (b + 1)), (2, some (b + 2)), (2, some (b + 3)), (2, some (b + 4)), (2, some (b + 5)), (2, some (b + 6)), (0, none), (0, none), (0, none), (0, none), (0, none), (2, some (b + 7))])) by rcases hb with rfl | rfl <;> rfl) rfl rfl hsp rfl rfl hw k
theorem cv_Ln_62_d {v1 : Value} {rest : List Value} {b : Nat} (hb : IsLane b) (ho : M.1.cls = "LampMoths$Lane") (hd : decode M.2.1 pc = .ok (.invokevirtual 62, 3)) (hR : okR0 M M_Ln_glow) {h2 : Hp} {w : Value} (hsp : SD l D base M_Ln_glow (.ref b :: [v1]) h (some w) h2) (hw : (rest.map fun v => v.category).sum ≤ 8) (k : WH l D base M (pc + 3) ls (w :: rest) h2 Q) : WH l D base M pc ls (v1 :: .ref b :: rest) h Q :=
  cv_Ln_62 hb ho hd hR hsp hw (fun h' r e => by obtain ⟨rfl, rfl⟩ := e; exact k)
theorem cv_Ln_62_i {v1 : Value} {rest : List Value} {b : Nat} (hb : IsLane b) (ho : M.1.cls = "LampMoths$Lane") (hd : decode M.2.1 pc = .ok (.invokevirtual 62, 3)) (hR : okR0 M M_Ln_glow) {P : Hp → Int32 → Prop} (hsp : SI l D base M_Ln_glow (.ref b :: [v1]) h P) (hw : (rest.map fun v => v.category).sum ≤ 8) (k : ∀ (h' : Hp) (x : Int32), P h' x → WH l D base M (pc + 3) ls (.int x :: rest) h' Q) : WH l D base M pc ls (v1 :: .ref b :: rest) h Q :=
  cv_Ln_62 hb ho hd hR hsp hw (fun h' r e => by obtain ⟨x, rfl, hp⟩ := e; exact k h' x hp)
theorem ml_Ln_65 : Cond.methodLink "LampMoths$Lane" 65 M_Ln_windHelp.1 ∈ lw_gt := gt_at 294 (by decide +kernel) rfl
theorem cv_Ln_65 {v1 v2 : Value} {rest : List Value} {b : Nat} (hb : IsLane b) (ho : M.1.cls = "LampMoths$Lane") (hd : decode M.2.1 pc = .ok (.invokevirtual 65, 3)) (hR : okR0 M M_Ln_windHelp) {Q' : Hp → Option Value → Prop} (hsp : SP l D base M_Ln_windHelp (.ref b :: [v1, v2]) h Q') (hw : (rest.map fun v => v.category).sum ≤ 8) (k : ∀ (h' : Hp) (r : Option Value), Q' h' r → WH l D base M (pc + 3) ls (r.toList ++ rest) h' Q) : WH l D base M pc ls (v2 :: v1 :: .ref b :: rest) h Q :=
  wh_callV (b := b) (ci := 0) (As := [v1, v2]) (rest := rest) hd k_Ln_windHelp hR (show Cond.methodLink M.1.cls 65 M_Ln_windHelp.1 ∈ lw_gt by rw [ho]; exact ml_Ln_65) ki_Ln_windHelp kz_Ln_windHelp (show SH[b]? = some (.inr (0, [(2, some (b + 1)), (2, some (b + 2)), (2, some (b + 3)), (2, some (b + 4)), (2, some (b + 5)), (2, some (b + 6)), (0, none), (0, none), (0, none), (0, none), (0, none), (2, some (b + 7))])) by rcases hb with rfl | rfl <;> rfl) rfl rfl hsp rfl rfl hw k
theorem cv_Ln_65_d {v1 v2 : Value} {rest : List Value} {b : Nat} (hb : IsLane b) (ho : M.1.cls = "LampMoths$Lane") (hd : decode M.2.1 pc = .ok (.invokevirtual 65, 3)) (hR : okR0 M M_Ln_windHelp) {h2 : Hp} {w : Value} (hsp : SD l D base M_Ln_windHelp (.ref b :: [v1, v2]) h (some w) h2) (hw : (rest.map fun v => v.category).sum ≤ 8) (k : WH l D base M (pc + 3) ls (w :: rest) h2 Q) : WH l D base M pc ls (v2 :: v1 :: .ref b :: rest) h Q :=
  cv_Ln_65 hb ho hd hR hsp hw (fun h' r e => by obtain ⟨rfl, rfl⟩ := e; exact k)
theorem cv_Ln_65_i {v1 v2 : Value} {rest : List Value} {b : Nat} (hb : IsLane b) (ho : M.1.cls = "LampMoths$Lane") (hd : decode M.2.1 pc = .ok (.invokevirtual 65, 3)) (hR : okR0 M M_Ln_windHelp) {P : Hp → Int32 → Prop} (hsp : SI l D base M_Ln_windHelp (.ref b :: [v1, v2]) h P) (hw : (rest.map fun v => v.category).sum ≤ 8) (k : ∀ (h' : Hp) (x : Int32), P h' x → WH l D base M (pc + 3) ls (.int x :: rest) h' Q) : WH l D base M pc ls (v2 :: v1 :: .ref b :: rest) h Q :=
  cv_Ln_65 hb ho hd hR hsp hw (fun h' r e => by obtain ⟨x, rfl, hp⟩ := e; exact k h' x hp)
theorem ml_Ln_69 : Cond.methodLink "LampMoths$Lane" 69 M_Ln_sweetness.1 ∈ lw_gt := gt_at 298 (by decide +kernel) rfl
theorem cv_Ln_69 {v1 v2 : Value} {rest : List Value} {b : Nat} (hb : IsLane b) (ho : M.1.cls = "LampMoths$Lane") (hd : decode M.2.1 pc = .ok (.invokevirtual 69, 3)) (hR : okR0 M M_Ln_sweetness) {Q' : Hp → Option Value → Prop} (hsp : SP l D base M_Ln_sweetness (.ref b :: [v1, v2]) h Q') (hw : (rest.map fun v => v.category).sum ≤ 8) (k : ∀ (h' : Hp) (r : Option Value), Q' h' r → WH l D base M (pc + 3) ls (r.toList ++ rest) h' Q) : WH l D base M pc ls (v2 :: v1 :: .ref b :: rest) h Q :=
  wh_callV (b := b) (ci := 0) (As := [v1, v2]) (rest := rest) hd k_Ln_sweetness hR (show Cond.methodLink M.1.cls 69 M_Ln_sweetness.1 ∈ lw_gt by rw [ho]; exact ml_Ln_69) ki_Ln_sweetness kz_Ln_sweetness (show SH[b]? = some (.inr (0, [(2, some (b + 1)), (2, some (b + 2)), (2, some (b + 3)), (2, some (b + 4)), (2, some (b + 5)), (2, some (b + 6)), (0, none), (0, none), (0, none), (0, none), (0, none), (2, some (b + 7))])) by rcases hb with rfl | rfl <;> rfl) rfl rfl hsp rfl rfl hw k
theorem cv_Ln_69_d {v1 v2 : Value} {rest : List Value} {b : Nat} (hb : IsLane b) (ho : M.1.cls = "LampMoths$Lane") (hd : decode M.2.1 pc = .ok (.invokevirtual 69, 3)) (hR : okR0 M M_Ln_sweetness) {h2 : Hp} {w : Value} (hsp : SD l D base M_Ln_sweetness (.ref b :: [v1, v2]) h (some w) h2) (hw : (rest.map fun v => v.category).sum ≤ 8) (k : WH l D base M (pc + 3) ls (w :: rest) h2 Q) : WH l D base M pc ls (v2 :: v1 :: .ref b :: rest) h Q :=
  cv_Ln_69 hb ho hd hR hsp hw (fun h' r e => by obtain ⟨rfl, rfl⟩ := e; exact k)
theorem cv_Ln_69_i {v1 v2 : Value} {rest : List Value} {b : Nat} (hb : IsLane b) (ho : M.1.cls = "LampMoths$Lane") (hd : decode M.2.1 pc = .ok (.invokevirtual 69, 3)) (hR : okR0 M M_Ln_sweetness) {P : Hp → Int32 → Prop} (hsp : SI l D base M_Ln_sweetness (.ref b :: [v1, v2]) h P) (hw : (rest.map fun v => v.category).sum ≤ 8) (k : ∀ (h' : Hp) (x : Int32), P h' x → WH l D base M (pc + 3) ls (.int x :: rest) h' Q) : WH l D base M pc ls (v2 :: v1 :: .ref b :: rest) h Q :=
  cv_Ln_69 hb ho hd hR hsp hw (fun h' r e => by obtain ⟨x, rfl, hp⟩ := e; exact k h' x hp)
theorem ml_Ln_72 : Cond.methodLink "LampMoths$Lane" 72 M_Jm_max.1 ∈ lw_gt := gt_at 302 (by decide +kernel) rfl
theorem cs_Ln_72 {v1 v2 : Value} {rest : List Value} (ho : M.1.cls = "LampMoths$Lane") (hd : decode M.2.1 pc = .ok (.invokestatic 72, 3)) (hR : okR0 M M_Jm_max) {Q' : Hp → Option Value → Prop} (hsp : SP l D base M_Jm_max [v1, v2] h Q') (hw : (rest.map fun v => v.category).sum ≤ 8) (k : ∀ (h' : Hp) (r : Option Value), Q' h' r → WH l D base M (pc + 3) ls (r.toList ++ rest) h' Q) : WH l D base M pc ls (v2 :: v1 :: rest) h Q :=
  wh_callS (As := [v1, v2]) (rest := rest) hd k_Jm_max hR (show Cond.methodLink M.1.cls 72 M_Jm_max.1 ∈ lw_gt by rw [ho]; exact ml_Ln_72) ks_Jm_max hsp rfl rfl hw k
theorem cs_Ln_72_d {v1 v2 : Value} {rest : List Value} (ho : M.1.cls = "LampMoths$Lane") (hd : decode M.2.1 pc = .ok (.invokestatic 72, 3)) (hR : okR0 M M_Jm_max) {h2 : Hp} {w : Value} (hsp : SD l D base M_Jm_max [v1, v2] h (some w) h2) (hw : (rest.map fun v => v.category).sum ≤ 8) (k : WH l D base M (pc + 3) ls (w :: rest) h2 Q) : WH l D base M pc ls (v2 :: v1 :: rest) h Q :=
  cs_Ln_72 ho hd hR hsp hw (fun h' r e => by obtain ⟨rfl, rfl⟩ := e; exact k)
theorem cs_Ln_72_i {v1 v2 : Value} {rest : List Value} (ho : M.1.cls = "LampMoths$Lane") (hd : decode M.2.1 pc = .ok (.invokestatic 72, 3)) (hR : okR0 M M_Jm_max) {P : Hp → Int32 → Prop} (hsp : SI l D base M_Jm_max [v1, v2] h P) (hw : (rest.map fun v => v.category).sum ≤ 8) (k : ∀ (h' : Hp) (x : Int32), P h' x → WH l D base M (pc + 3) ls (.int x :: rest) h' Q) : WH l D base M pc ls (v2 :: v1 :: rest) h Q :=
  cs_Ln_72 ho hd hR hsp hw (fun h' r e => by obtain ⟨x, rfl, hp⟩ := e; exact k h' x hp)
theorem ml_Ln_81 : Cond.methodLink "LampMoths$Lane" 81 M_Ln_taxOf.1 ∈ lw_gt := gt_at 305 (by decide +kernel) rfl
theorem cv_Ln_81 {v1 : Value} {rest : List Value} {b : Nat} (hb : IsLane b) (ho : M.1.cls = "LampMoths$Lane") (hd : decode M.2.1 pc = .ok (.invokevirtual 81, 3)) (hR : okR0 M M_Ln_taxOf) {Q' : Hp → Option Value → Prop} (hsp : SP l D base M_Ln_taxOf (.ref b :: [v1]) h Q') (hw : (rest.map fun v => v.category).sum ≤ 8) (k : ∀ (h' : Hp) (r : Option Value), Q' h' r → WH l D base M (pc + 3) ls (r.toList ++ rest) h' Q) : WH l D base M pc ls (v1 :: .ref b :: rest) h Q :=
  wh_callV (b := b) (ci := 0) (As := [v1]) (rest := rest) hd k_Ln_taxOf hR (show Cond.methodLink M.1.cls 81 M_Ln_taxOf.1 ∈ lw_gt by rw [ho]; exact ml_Ln_81) ki_Ln_taxOf kz_Ln_taxOf (show SH[b]? = some (.inr (0, [(2, some (b + 1)), (2, some (b + 2)), (2, some (b + 3)), (2, some (b + 4)), (2, some (b + 5)), (2, some (b + 6)), (0, none), (0, none), (0, none), (0, none), (0, none), (2, some (b + 7))])) by rcases hb with rfl | rfl <;> rfl) rfl rfl hsp rfl rfl hw k
theorem cv_Ln_81_d {v1 : Value} {rest : List Value} {b : Nat} (hb : IsLane b) (ho : M.1.cls = "LampMoths$Lane") (hd : decode M.2.1 pc = .ok (.invokevirtual 81, 3)) (hR : okR0 M M_Ln_taxOf) {h2 : Hp} {w : Value} (hsp : SD l D base M_Ln_taxOf (.ref b :: [v1]) h (some w) h2) (hw : (rest.map fun v => v.category).sum ≤ 8) (k : WH l D base M (pc + 3) ls (w :: rest) h2 Q) : WH l D base M pc ls (v1 :: .ref b :: rest) h Q :=
  cv_Ln_81 hb ho hd hR hsp hw (fun h' r e => by obtain ⟨rfl, rfl⟩ := e; exact k)
theorem cv_Ln_81_i {v1 : Value} {rest : List Value} {b : Nat} (hb : IsLane b) (ho : M.1.cls = "LampMoths$Lane") (hd : decode M.2.1 pc = .ok (.invokevirtual 81, 3)) (hR : okR0 M M_Ln_taxOf) {P : Hp → Int32 → Prop} (hsp : SI l D base M_Ln_taxOf (.ref b :: [v1]) h P) (hw : (rest.map fun v => v.category).sum ≤ 8) (k : ∀ (h' : Hp) (x : Int32), P h' x → WH l D base M (pc + 3) ls (.int x :: rest) h' Q) : WH l D base M pc ls (v1 :: .ref b :: rest) h Q :=
  cv_Ln_81 hb ho hd hR hsp hw (fun h' r e => by obtain ⟨x, rfl, hp⟩ := e; exact k h' x hp)
theorem ml_Ln_84 : Cond.methodLink "LampMoths$Lane" 84 M_Ln_charge.1 ∈ lw_gt := gt_at 309 (by decide +kernel) rfl
theorem cv_Ln_84 {v1 v2 : Value} {rest : List Value} {b : Nat} (hb : IsLane b) (ho : M.1.cls = "LampMoths$Lane") (hd : decode M.2.1 pc = .ok (.invokevirtual 84, 3)) (hR : okR0 M M_Ln_charge) {Q' : Hp → Option Value → Prop} (hsp : SP l D base M_Ln_charge (.ref b :: [v1, v2]) h Q') (hw : (rest.map fun v => v.category).sum ≤ 8) (k : ∀ (h' : Hp) (r : Option Value), Q' h' r → WH l D base M (pc + 3) ls (r.toList ++ rest) h' Q) : WH l D base M pc ls (v2 :: v1 :: .ref b :: rest) h Q :=
  wh_callV (b := b) (ci := 0) (As := [v1, v2]) (rest := rest) hd k_Ln_charge hR (show Cond.methodLink M.1.cls 84 M_Ln_charge.1 ∈ lw_gt by rw [ho]; exact ml_Ln_84) ki_Ln_charge kz_Ln_charge (show SH[b]? = some (.inr (0, [(2, some (b + 1)), (2, some (b + 2)), (2, some (b + 3)), (2, some (b + 4)), (2, some (b + 5)), (2, some (b + 6)), (0, none), (0, none), (0, none), (0, none), (0, none), (2, some (b + 7))])) by rcases hb with rfl | rfl <;> rfl) rfl rfl hsp rfl rfl hw k
theorem cv_Ln_84_d {v1 v2 : Value} {rest : List Value} {b : Nat} (hb : IsLane b) (ho : M.1.cls = "LampMoths$Lane") (hd : decode M.2.1 pc = .ok (.invokevirtual 84, 3)) (hR : okR0 M M_Ln_charge) {h2 : Hp} (hsp : SD l D base M_Ln_charge (.ref b :: [v1, v2]) h none h2) (hw : (rest.map fun v => v.category).sum ≤ 8) (k : WH l D base M (pc + 3) ls rest h2 Q) : WH l D base M pc ls (v2 :: v1 :: .ref b :: rest) h Q :=
  cv_Ln_84 hb ho hd hR hsp hw (fun h' r e => by obtain ⟨rfl, rfl⟩ := e; exact k)
theorem cv_Ln_84_v {v1 v2 : Value} {rest : List Value} {b : Nat} (hb : IsLane b) (ho : M.1.cls = "LampMoths$Lane") (hd : decode M.2.1 pc = .ok (.invokevirtual 84, 3)) (hR : okR0 M M_Ln_charge) {P : Hp → Prop} (hsp : SV l D base M_Ln_charge (.ref b :: [v1, v2]) h P) (hw : (rest.map fun v => v.category).sum ≤ 8) (k : ∀ h' : Hp, P h' → WH l D base M (pc + 3) ls rest h' Q) : WH l D base M pc ls (v2 :: v1 :: .ref b :: rest) h Q :=
  cv_Ln_84 hb ho hd hR hsp hw (fun h' r e => by obtain ⟨rfl, hp⟩ := e; exact k h' hp)
theorem ml_Ln_88 : Cond.methodLink "LampMoths$Lane" 88 M_Ji_bitCount.1 ∈ lw_gt := gt_at 313 (by decide +kernel) rfl
theorem cs_Ln_88 {v1 : Value} {rest : List Value} (ho : M.1.cls = "LampMoths$Lane") (hd : decode M.2.1 pc = .ok (.invokestatic 88, 3)) (hR : okR0 M M_Ji_bitCount) {Q' : Hp → Option Value → Prop} (hsp : SP l D base M_Ji_bitCount [v1] h Q') (hw : (rest.map fun v => v.category).sum ≤ 8) (k : ∀ (h' : Hp) (r : Option Value), Q' h' r → WH l D base M (pc + 3) ls (r.toList ++ rest) h' Q) : WH l D base M pc ls (v1 :: rest) h Q :=
  wh_callS (As := [v1]) (rest := rest) hd k_Ji_bitCount hR (show Cond.methodLink M.1.cls 88 M_Ji_bitCount.1 ∈ lw_gt by rw [ho]; exact ml_Ln_88) ks_Ji_bitCount hsp rfl rfl hw k
theorem cs_Ln_88_d {v1 : Value} {rest : List Value} (ho : M.1.cls = "LampMoths$Lane") (hd : decode M.2.1 pc = .ok (.invokestatic 88, 3)) (hR : okR0 M M_Ji_bitCount) {h2 : Hp} {w : Value} (hsp : SD l D base M_Ji_bitCount [v1] h (some w) h2) (hw : (rest.map fun v => v.category).sum ≤ 8) (k : WH l D base M (pc + 3) ls (w :: rest) h2 Q) : WH l D base M pc ls (v1 :: rest) h Q :=
  cs_Ln_88 ho hd hR hsp hw (fun h' r e => by obtain ⟨rfl, rfl⟩ := e; exact k)
theorem cs_Ln_88_i {v1 : Value} {rest : List Value} (ho : M.1.cls = "LampMoths$Lane") (hd : decode M.2.1 pc = .ok (.invokestatic 88, 3)) (hR : okR0 M M_Ji_bitCount) {P : Hp → Int32 → Prop} (hsp : SI l D base M_Ji_bitCount [v1] h P) (hw : (rest.map fun v => v.category).sum ≤ 8) (k : ∀ (h' : Hp) (x : Int32), P h' x → WH l D base M (pc + 3) ls (.int x :: rest) h' Q) : WH l D base M pc ls (v1 :: rest) h Q :=
  cs_Ln_88 ho hd hR hsp hw (fun h' r e => by obtain ⟨x, rfl, hp⟩ := e; exact k h' x hp)
theorem ml_Lm_98 : Cond.methodLink "LampMoths" 98 M_Ln_readers.1 ∈ lw_gt := gt_at 319 (by decide +kernel) rfl
theorem cv_Lm_98 {rest : List Value} {b : Nat} (hb : IsLane b) (ho : M.1.cls = "LampMoths") (hd : decode M.2.1 pc = .ok (.invokevirtual 98, 3)) (hR : okR0 M M_Ln_readers) {Q' : Hp → Option Value → Prop} (hsp : SP l D base M_Ln_readers (.ref b :: []) h Q') (hw : (rest.map fun v => v.category).sum ≤ 8) (k : ∀ (h' : Hp) (r : Option Value), Q' h' r → WH l D base M (pc + 3) ls (r.toList ++ rest) h' Q) : WH l D base M pc ls (.ref b :: rest) h Q :=
  wh_callV (b := b) (ci := 0) (As := []) (rest := rest) hd k_Ln_readers hR (show Cond.methodLink M.1.cls 98 M_Ln_readers.1 ∈ lw_gt by rw [ho]; exact ml_Lm_98) ki_Ln_readers kz_Ln_readers (show SH[b]? = some (.inr (0, [(2, some (b + 1)), (2, some (b + 2)), (2, some (b + 3)), (2, some (b + 4)), (2, some (b + 5)), (2, some (b + 6)), (0, none), (0, none), (0, none), (0, none), (0, none), (2, some (b + 7))])) by rcases hb with rfl | rfl <;> rfl) rfl rfl hsp rfl rfl hw k
theorem cv_Lm_98_d {rest : List Value} {b : Nat} (hb : IsLane b) (ho : M.1.cls = "LampMoths") (hd : decode M.2.1 pc = .ok (.invokevirtual 98, 3)) (hR : okR0 M M_Ln_readers) {h2 : Hp} {w : Value} (hsp : SD l D base M_Ln_readers (.ref b :: []) h (some w) h2) (hw : (rest.map fun v => v.category).sum ≤ 8) (k : WH l D base M (pc + 3) ls (w :: rest) h2 Q) : WH l D base M pc ls (.ref b :: rest) h Q :=
  cv_Lm_98 hb ho hd hR hsp hw (fun h' r e => by obtain ⟨rfl, rfl⟩ := e; exact k)
theorem cv_Lm_98_i {rest : List Value} {b : Nat} (hb : IsLane b) (ho : M.1.cls = "LampMoths") (hd : decode M.2.1 pc = .ok (.invokevirtual 98, 3)) (hR : okR0 M M_Ln_readers) {P : Hp → Int32 → Prop} (hsp : SI l D base M_Ln_readers (.ref b :: []) h P) (hw : (rest.map fun v => v.category).sum ≤ 8) (k : ∀ (h' : Hp) (x : Int32), P h' x → WH l D base M (pc + 3) ls (.int x :: rest) h' Q) : WH l D base M pc ls (.ref b :: rest) h Q :=
  cv_Lm_98 hb ho hd hR hsp hw (fun h' r e => by obtain ⟨x, rfl, hp⟩ := e; exact k h' x hp)
theorem ml_Ln_96 : Cond.methodLink "LampMoths$Lane" 96 M_Ln_reads.1 ∈ lw_gt := gt_at 323 (by decide +kernel) rfl
theorem cv_Ln_96 {v1 : Value} {rest : List Value} {b : Nat} (hb : IsLane b) (ho : M.1.cls = "LampMoths$Lane") (hd : decode M.2.1 pc = .ok (.invokevirtual 96, 3)) (hR : okR0 M M_Ln_reads) {Q' : Hp → Option Value → Prop} (hsp : SP l D base M_Ln_reads (.ref b :: [v1]) h Q') (hw : (rest.map fun v => v.category).sum ≤ 8) (k : ∀ (h' : Hp) (r : Option Value), Q' h' r → WH l D base M (pc + 3) ls (r.toList ++ rest) h' Q) : WH l D base M pc ls (v1 :: .ref b :: rest) h Q :=
  wh_callV (b := b) (ci := 0) (As := [v1]) (rest := rest) hd k_Ln_reads hR (show Cond.methodLink M.1.cls 96 M_Ln_reads.1 ∈ lw_gt by rw [ho]; exact ml_Ln_96) ki_Ln_reads kz_Ln_reads (show SH[b]? = some (.inr (0, [(2, some (b + 1)), (2, some (b + 2)), (2, some (b + 3)), (2, some (b + 4)), (2, some (b + 5)), (2, some (b + 6)), (0, none), (0, none), (0, none), (0, none), (0, none), (2, some (b + 7))])) by rcases hb with rfl | rfl <;> rfl) rfl rfl hsp rfl rfl hw k
theorem cv_Ln_96_d {v1 : Value} {rest : List Value} {b : Nat} (hb : IsLane b) (ho : M.1.cls = "LampMoths$Lane") (hd : decode M.2.1 pc = .ok (.invokevirtual 96, 3)) (hR : okR0 M M_Ln_reads) {h2 : Hp} {w : Value} (hsp : SD l D base M_Ln_reads (.ref b :: [v1]) h (some w) h2) (hw : (rest.map fun v => v.category).sum ≤ 8) (k : WH l D base M (pc + 3) ls (w :: rest) h2 Q) : WH l D base M pc ls (v1 :: .ref b :: rest) h Q :=
  cv_Ln_96 hb ho hd hR hsp hw (fun h' r e => by obtain ⟨rfl, rfl⟩ := e; exact k)
theorem cv_Ln_96_i {v1 : Value} {rest : List Value} {b : Nat} (hb : IsLane b) (ho : M.1.cls = "LampMoths$Lane") (hd : decode M.2.1 pc = .ok (.invokevirtual 96, 3)) (hR : okR0 M M_Ln_reads) {P : Hp → Int32 → Prop} (hsp : SI l D base M_Ln_reads (.ref b :: [v1]) h P) (hw : (rest.map fun v => v.category).sum ≤ 8) (k : ∀ (h' : Hp) (x : Int32), P h' x → WH l D base M (pc + 3) ls (.int x :: rest) h' Q) : WH l D base M pc ls (v1 :: .ref b :: rest) h Q :=
  cv_Ln_96 hb ho hd hR hsp hw (fun h' r e => by obtain ⟨x, rfl, hp⟩ := e; exact k h' x hp)
theorem ml_Lm_101 : Cond.methodLink "LampMoths" 101 M_Ln_hasWindow.1 ∈ lw_gt := gt_at 331 (by decide +kernel) rfl
theorem cv_Lm_101 {v1 : Value} {rest : List Value} {b : Nat} (hb : IsLane b) (ho : M.1.cls = "LampMoths") (hd : decode M.2.1 pc = .ok (.invokevirtual 101, 3)) (hR : okR0 M M_Ln_hasWindow) {Q' : Hp → Option Value → Prop} (hsp : SP l D base M_Ln_hasWindow (.ref b :: [v1]) h Q') (hw : (rest.map fun v => v.category).sum ≤ 8) (k : ∀ (h' : Hp) (r : Option Value), Q' h' r → WH l D base M (pc + 3) ls (r.toList ++ rest) h' Q) : WH l D base M pc ls (v1 :: .ref b :: rest) h Q :=
  wh_callV (b := b) (ci := 0) (As := [v1]) (rest := rest) hd k_Ln_hasWindow hR (show Cond.methodLink M.1.cls 101 M_Ln_hasWindow.1 ∈ lw_gt by rw [ho]; exact ml_Lm_101) ki_Ln_hasWindow kz_Ln_hasWindow (show SH[b]? = some (.inr (0, [(2, some (b + 1)), (2, some (b + 2)), (2, some (b + 3)), (2, some (b + 4)), (2, some (b + 5)), (2, some (b + 6)), (0, none), (0, none), (0, none), (0, none), (0, none), (2, some (b + 7))])) by rcases hb with rfl | rfl <;> rfl) rfl rfl hsp rfl rfl hw k
theorem cv_Lm_101_d {v1 : Value} {rest : List Value} {b : Nat} (hb : IsLane b) (ho : M.1.cls = "LampMoths") (hd : decode M.2.1 pc = .ok (.invokevirtual 101, 3)) (hR : okR0 M M_Ln_hasWindow) {h2 : Hp} {w : Value} (hsp : SD l D base M_Ln_hasWindow (.ref b :: [v1]) h (some w) h2) (hw : (rest.map fun v => v.category).sum ≤ 8) (k : WH l D base M (pc + 3) ls (w :: rest) h2 Q) : WH l D base M pc ls (v1 :: .ref b :: rest) h Q :=
  cv_Lm_101 hb ho hd hR hsp hw (fun h' r e => by obtain ⟨rfl, rfl⟩ := e; exact k)
theorem cv_Lm_101_i {v1 : Value} {rest : List Value} {b : Nat} (hb : IsLane b) (ho : M.1.cls = "LampMoths") (hd : decode M.2.1 pc = .ok (.invokevirtual 101, 3)) (hR : okR0 M M_Ln_hasWindow) {P : Hp → Int32 → Prop} (hsp : SI l D base M_Ln_hasWindow (.ref b :: [v1]) h P) (hw : (rest.map fun v => v.category).sum ≤ 8) (k : ∀ (h' : Hp) (x : Int32), P h' x → WH l D base M (pc + 3) ls (.int x :: rest) h' Q) : WH l D base M pc ls (v1 :: .ref b :: rest) h Q :=
  cv_Lm_101 hb ho hd hR hsp hw (fun h' r e => by obtain ⟨x, rfl, hp⟩ := e; exact k h' x hp)
theorem ml_Lm_114 : Cond.methodLink "LampMoths" 114 M_Ln_owedBy.1 ∈ lw_gt := gt_at 332 (by decide +kernel) rfl
theorem cv_Lm_114 {v1 : Value} {rest : List Value} {b : Nat} (hb : IsLane b) (ho : M.1.cls = "LampMoths") (hd : decode M.2.1 pc = .ok (.invokevirtual 114, 3)) (hR : okR0 M M_Ln_owedBy) {Q' : Hp → Option Value → Prop} (hsp : SP l D base M_Ln_owedBy (.ref b :: [v1]) h Q') (hw : (rest.map fun v => v.category).sum ≤ 8) (k : ∀ (h' : Hp) (r : Option Value), Q' h' r → WH l D base M (pc + 3) ls (r.toList ++ rest) h' Q) : WH l D base M pc ls (v1 :: .ref b :: rest) h Q :=
  wh_callV (b := b) (ci := 0) (As := [v1]) (rest := rest) hd k_Ln_owedBy hR (show Cond.methodLink M.1.cls 114 M_Ln_owedBy.1 ∈ lw_gt by rw [ho]; exact ml_Lm_114) ki_Ln_owedBy kz_Ln_owedBy (show SH[b]? = some (.inr (0, [(2, some (b + 1)), (2, some (b + 2)), (2, some (b + 3)), (2, some (b + 4)), (2, some (b + 5)), (2, some (b + 6)), (0, none), (0, none), (0, none), (0, none), (0, none), (2, some (b + 7))])) by rcases hb with rfl | rfl <;> rfl) rfl rfl hsp rfl rfl hw k
theorem cv_Lm_114_d {v1 : Value} {rest : List Value} {b : Nat} (hb : IsLane b) (ho : M.1.cls = "LampMoths") (hd : decode M.2.1 pc = .ok (.invokevirtual 114, 3)) (hR : okR0 M M_Ln_owedBy) {h2 : Hp} {w : Value} (hsp : SD l D base M_Ln_owedBy (.ref b :: [v1]) h (some w) h2) (hw : (rest.map fun v => v.category).sum ≤ 8) (k : WH l D base M (pc + 3) ls (w :: rest) h2 Q) : WH l D base M pc ls (v1 :: .ref b :: rest) h Q :=
  cv_Lm_114 hb ho hd hR hsp hw (fun h' r e => by obtain ⟨rfl, rfl⟩ := e; exact k)
theorem cv_Lm_114_i {v1 : Value} {rest : List Value} {b : Nat} (hb : IsLane b) (ho : M.1.cls = "LampMoths") (hd : decode M.2.1 pc = .ok (.invokevirtual 114, 3)) (hR : okR0 M M_Ln_owedBy) {P : Hp → Int32 → Prop} (hsp : SI l D base M_Ln_owedBy (.ref b :: [v1]) h P) (hw : (rest.map fun v => v.category).sum ≤ 8) (k : ∀ (h' : Hp) (x : Int32), P h' x → WH l D base M (pc + 3) ls (.int x :: rest) h' Q) : WH l D base M pc ls (v1 :: .ref b :: rest) h Q :=
  cv_Lm_114 hb ho hd hR hsp hw (fun h' r e => by obtain ⟨x, rfl, hp⟩ := e; exact k h' x hp)
theorem ml_Lm_121 : Cond.methodLink "LampMoths" 121 M_Ln_mothsDrawnBy.1 ∈ lw_gt := gt_at 336 (by decide +kernel) rfl
theorem cv_Lm_121 {v1 : Value} {rest : List Value} {b : Nat} (hb : IsLane b) (ho : M.1.cls = "LampMoths") (hd : decode M.2.1 pc = .ok (.invokevirtual 121, 3)) (hR : okR0 M M_Ln_mothsDrawnBy) {Q' : Hp → Option Value → Prop} (hsp : SP l D base M_Ln_mothsDrawnBy (.ref b :: [v1]) h Q') (hw : (rest.map fun v => v.category).sum ≤ 8) (k : ∀ (h' : Hp) (r : Option Value), Q' h' r → WH l D base M (pc + 3) ls (r.toList ++ rest) h' Q) : WH l D base M pc ls (v1 :: .ref b :: rest) h Q :=
  wh_callV (b := b) (ci := 0) (As := [v1]) (rest := rest) hd k_Ln_mothsDrawnBy hR (show Cond.methodLink M.1.cls 121 M_Ln_mothsDrawnBy.1 ∈ lw_gt by rw [ho]; exact ml_Lm_121) ki_Ln_mothsDrawnBy kz_Ln_mothsDrawnBy (show SH[b]? = some (.inr (0, [(2, some (b + 1)), (2, some (b + 2)), (2, some (b + 3)), (2, some (b + 4)), (2, some (b + 5)), (2, some (b + 6)), (0, none), (0, none), (0, none), (0, none), (0, none), (2, some (b + 7))])) by rcases hb with rfl | rfl <;> rfl) rfl rfl hsp rfl rfl hw k
theorem cv_Lm_121_d {v1 : Value} {rest : List Value} {b : Nat} (hb : IsLane b) (ho : M.1.cls = "LampMoths") (hd : decode M.2.1 pc = .ok (.invokevirtual 121, 3)) (hR : okR0 M M_Ln_mothsDrawnBy) {h2 : Hp} {w : Value} (hsp : SD l D base M_Ln_mothsDrawnBy (.ref b :: [v1]) h (some w) h2) (hw : (rest.map fun v => v.category).sum ≤ 8) (k : WH l D base M (pc + 3) ls (w :: rest) h2 Q) : WH l D base M pc ls (v1 :: .ref b :: rest) h Q :=
  cv_Lm_121 hb ho hd hR hsp hw (fun h' r e => by obtain ⟨rfl, rfl⟩ := e; exact k)
theorem cv_Lm_121_i {v1 : Value} {rest : List Value} {b : Nat} (hb : IsLane b) (ho : M.1.cls = "LampMoths") (hd : decode M.2.1 pc = .ok (.invokevirtual 121, 3)) (hR : okR0 M M_Ln_mothsDrawnBy) {P : Hp → Int32 → Prop} (hsp : SI l D base M_Ln_mothsDrawnBy (.ref b :: [v1]) h P) (hw : (rest.map fun v => v.category).sum ≤ 8) (k : ∀ (h' : Hp) (x : Int32), P h' x → WH l D base M (pc + 3) ls (.int x :: rest) h' Q) : WH l D base M pc ls (v1 :: .ref b :: rest) h Q :=
  cv_Lm_121 hb ho hd hR hsp hw (fun h' r e => by obtain ⟨x, rfl, hp⟩ := e; exact k h' x hp)
theorem ml_Lm_124 : Cond.methodLink "LampMoths" 124 M_Ln_reads.1 ∈ lw_gt := gt_at 340 (by decide +kernel) rfl
theorem cv_Lm_124 {v1 : Value} {rest : List Value} {b : Nat} (hb : IsLane b) (ho : M.1.cls = "LampMoths") (hd : decode M.2.1 pc = .ok (.invokevirtual 124, 3)) (hR : okR0 M M_Ln_reads) {Q' : Hp → Option Value → Prop} (hsp : SP l D base M_Ln_reads (.ref b :: [v1]) h Q') (hw : (rest.map fun v => v.category).sum ≤ 8) (k : ∀ (h' : Hp) (r : Option Value), Q' h' r → WH l D base M (pc + 3) ls (r.toList ++ rest) h' Q) : WH l D base M pc ls (v1 :: .ref b :: rest) h Q :=
  wh_callV (b := b) (ci := 0) (As := [v1]) (rest := rest) hd k_Ln_reads hR (show Cond.methodLink M.1.cls 124 M_Ln_reads.1 ∈ lw_gt by rw [ho]; exact ml_Lm_124) ki_Ln_reads kz_Ln_reads (show SH[b]? = some (.inr (0, [(2, some (b + 1)), (2, some (b + 2)), (2, some (b + 3)), (2, some (b + 4)), (2, some (b + 5)), (2, some (b + 6)), (0, none), (0, none), (0, none), (0, none), (0, none), (2, some (b + 7))])) by rcases hb with rfl | rfl <;> rfl) rfl rfl hsp rfl rfl hw k
theorem cv_Lm_124_d {v1 : Value} {rest : List Value} {b : Nat} (hb : IsLane b) (ho : M.1.cls = "LampMoths") (hd : decode M.2.1 pc = .ok (.invokevirtual 124, 3)) (hR : okR0 M M_Ln_reads) {h2 : Hp} {w : Value} (hsp : SD l D base M_Ln_reads (.ref b :: [v1]) h (some w) h2) (hw : (rest.map fun v => v.category).sum ≤ 8) (k : WH l D base M (pc + 3) ls (w :: rest) h2 Q) : WH l D base M pc ls (v1 :: .ref b :: rest) h Q :=
  cv_Lm_124 hb ho hd hR hsp hw (fun h' r e => by obtain ⟨rfl, rfl⟩ := e; exact k)
theorem cv_Lm_124_i {v1 : Value} {rest : List Value} {b : Nat} (hb : IsLane b) (ho : M.1.cls = "LampMoths") (hd : decode M.2.1 pc = .ok (.invokevirtual 124, 3)) (hR : okR0 M M_Ln_reads) {P : Hp → Int32 → Prop} (hsp : SI l D base M_Ln_reads (.ref b :: [v1]) h P) (hw : (rest.map fun v => v.category).sum ≤ 8) (k : ∀ (h' : Hp) (x : Int32), P h' x → WH l D base M (pc + 3) ls (.int x :: rest) h' Q) : WH l D base M pc ls (v1 :: .ref b :: rest) h Q :=
  cv_Lm_124 hb ho hd hR hsp hw (fun h' r e => by obtain ⟨x, rfl, hp⟩ := e; exact k h' x hp)
theorem ml_Lm_127 : Cond.methodLink "LampMoths" 127 M_Ln_hasMoth.1 ∈ lw_gt := gt_at 345 (by decide +kernel) rfl
theorem cv_Lm_127 {v1 : Value} {rest : List Value} {b : Nat} (hb : IsLane b) (ho : M.1.cls = "LampMoths") (hd : decode M.2.1 pc = .ok (.invokevirtual 127, 3)) (hR : okR0 M M_Ln_hasMoth) {Q' : Hp → Option Value → Prop} (hsp : SP l D base M_Ln_hasMoth (.ref b :: [v1]) h Q') (hw : (rest.map fun v => v.category).sum ≤ 8) (k : ∀ (h' : Hp) (r : Option Value), Q' h' r → WH l D base M (pc + 3) ls (r.toList ++ rest) h' Q) : WH l D base M pc ls (v1 :: .ref b :: rest) h Q :=
  wh_callV (b := b) (ci := 0) (As := [v1]) (rest := rest) hd k_Ln_hasMoth hR (show Cond.methodLink M.1.cls 127 M_Ln_hasMoth.1 ∈ lw_gt by rw [ho]; exact ml_Lm_127) ki_Ln_hasMoth kz_Ln_hasMoth (show SH[b]? = some (.inr (0, [(2, some (b + 1)), (2, some (b + 2)), (2, some (b + 3)), (2, some (b + 4)), (2, some (b + 5)), (2, some (b + 6)), (0, none), (0, none), (0, none), (0, none), (0, none), (2, some (b + 7))])) by rcases hb with rfl | rfl <;> rfl) rfl rfl hsp rfl rfl hw k
theorem cv_Lm_127_d {v1 : Value} {rest : List Value} {b : Nat} (hb : IsLane b) (ho : M.1.cls = "LampMoths") (hd : decode M.2.1 pc = .ok (.invokevirtual 127, 3)) (hR : okR0 M M_Ln_hasMoth) {h2 : Hp} {w : Value} (hsp : SD l D base M_Ln_hasMoth (.ref b :: [v1]) h (some w) h2) (hw : (rest.map fun v => v.category).sum ≤ 8) (k : WH l D base M (pc + 3) ls (w :: rest) h2 Q) : WH l D base M pc ls (v1 :: .ref b :: rest) h Q :=
  cv_Lm_127 hb ho hd hR hsp hw (fun h' r e => by obtain ⟨rfl, rfl⟩ := e; exact k)
theorem cv_Lm_127_i {v1 : Value} {rest : List Value} {b : Nat} (hb : IsLane b) (ho : M.1.cls = "LampMoths") (hd : decode M.2.1 pc = .ok (.invokevirtual 127, 3)) (hR : okR0 M M_Ln_hasMoth) {P : Hp → Int32 → Prop} (hsp : SI l D base M_Ln_hasMoth (.ref b :: [v1]) h P) (hw : (rest.map fun v => v.category).sum ≤ 8) (k : ∀ (h' : Hp) (x : Int32), P h' x → WH l D base M (pc + 3) ls (.int x :: rest) h' Q) : WH l D base M pc ls (v1 :: .ref b :: rest) h Q :=
  cv_Lm_127 hb ho hd hR hsp hw (fun h' r e => by obtain ⟨x, rfl, hp⟩ := e; exact k h' x hp)
theorem ml_Lm_136 : Cond.methodLink "LampMoths" 136 M_Ln_drawersOf.1 ∈ lw_gt := gt_at 346 (by decide +kernel) rfl
theorem cv_Lm_136 {v1 : Value} {rest : List Value} {b : Nat} (hb : IsLane b) (ho : M.1.cls = "LampMoths") (hd : decode M.2.1 pc = .ok (.invokevirtual 136, 3)) (hR : okR0 M M_Ln_drawersOf) {Q' : Hp → Option Value → Prop} (hsp : SP l D base M_Ln_drawersOf (.ref b :: [v1]) h Q') (hw : (rest.map fun v => v.category).sum ≤ 8) (k : ∀ (h' : Hp) (r : Option Value), Q' h' r → WH l D base M (pc + 3) ls (r.toList ++ rest) h' Q) : WH l D base M pc ls (v1 :: .ref b :: rest) h Q :=
  wh_callV (b := b) (ci := 0) (As := [v1]) (rest := rest) hd k_Ln_drawersOf hR (show Cond.methodLink M.1.cls 136 M_Ln_drawersOf.1 ∈ lw_gt by rw [ho]; exact ml_Lm_136) ki_Ln_drawersOf kz_Ln_drawersOf (show SH[b]? = some (.inr (0, [(2, some (b + 1)), (2, some (b + 2)), (2, some (b + 3)), (2, some (b + 4)), (2, some (b + 5)), (2, some (b + 6)), (0, none), (0, none), (0, none), (0, none), (0, none), (2, some (b + 7))])) by rcases hb with rfl | rfl <;> rfl) rfl rfl hsp rfl rfl hw k
theorem cv_Lm_136_d {v1 : Value} {rest : List Value} {b : Nat} (hb : IsLane b) (ho : M.1.cls = "LampMoths") (hd : decode M.2.1 pc = .ok (.invokevirtual 136, 3)) (hR : okR0 M M_Ln_drawersOf) {h2 : Hp} {w : Value} (hsp : SD l D base M_Ln_drawersOf (.ref b :: [v1]) h (some w) h2) (hw : (rest.map fun v => v.category).sum ≤ 8) (k : WH l D base M (pc + 3) ls (w :: rest) h2 Q) : WH l D base M pc ls (v1 :: .ref b :: rest) h Q :=
  cv_Lm_136 hb ho hd hR hsp hw (fun h' r e => by obtain ⟨rfl, rfl⟩ := e; exact k)
theorem cv_Lm_136_i {v1 : Value} {rest : List Value} {b : Nat} (hb : IsLane b) (ho : M.1.cls = "LampMoths") (hd : decode M.2.1 pc = .ok (.invokevirtual 136, 3)) (hR : okR0 M M_Ln_drawersOf) {P : Hp → Int32 → Prop} (hsp : SI l D base M_Ln_drawersOf (.ref b :: [v1]) h P) (hw : (rest.map fun v => v.category).sum ≤ 8) (k : ∀ (h' : Hp) (x : Int32), P h' x → WH l D base M (pc + 3) ls (.int x :: rest) h' Q) : WH l D base M pc ls (v1 :: .ref b :: rest) h Q :=
  cv_Lm_136 hb ho hd hR hsp hw (fun h' r e => by obtain ⟨x, rfl, hp⟩ := e; exact k h' x hp)
theorem ml_Lm_139 : Cond.methodLink "LampMoths" 139 M_Ln_greatestTugOn.1 ∈ lw_gt := gt_at 347 (by decide +kernel) rfl
theorem cv_Lm_139 {v1 : Value} {rest : List Value} {b : Nat} (hb : IsLane b) (ho : M.1.cls = "LampMoths") (hd : decode M.2.1 pc = .ok (.invokevirtual 139, 3)) (hR : okR0 M M_Ln_greatestTugOn) {Q' : Hp → Option Value → Prop} (hsp : SP l D base M_Ln_greatestTugOn (.ref b :: [v1]) h Q') (hw : (rest.map fun v => v.category).sum ≤ 8) (k : ∀ (h' : Hp) (r : Option Value), Q' h' r → WH l D base M (pc + 3) ls (r.toList ++ rest) h' Q) : WH l D base M pc ls (v1 :: .ref b :: rest) h Q :=
  wh_callV (b := b) (ci := 0) (As := [v1]) (rest := rest) hd k_Ln_greatestTugOn hR (show Cond.methodLink M.1.cls 139 M_Ln_greatestTugOn.1 ∈ lw_gt by rw [ho]; exact ml_Lm_139) ki_Ln_greatestTugOn kz_Ln_greatestTugOn (show SH[b]? = some (.inr (0, [(2, some (b + 1)), (2, some (b + 2)), (2, some (b + 3)), (2, some (b + 4)), (2, some (b + 5)), (2, some (b + 6)), (0, none), (0, none), (0, none), (0, none), (0, none), (2, some (b + 7))])) by rcases hb with rfl | rfl <;> rfl) rfl rfl hsp rfl rfl hw k
theorem cv_Lm_139_d {v1 : Value} {rest : List Value} {b : Nat} (hb : IsLane b) (ho : M.1.cls = "LampMoths") (hd : decode M.2.1 pc = .ok (.invokevirtual 139, 3)) (hR : okR0 M M_Ln_greatestTugOn) {h2 : Hp} {w : Value} (hsp : SD l D base M_Ln_greatestTugOn (.ref b :: [v1]) h (some w) h2) (hw : (rest.map fun v => v.category).sum ≤ 8) (k : WH l D base M (pc + 3) ls (w :: rest) h2 Q) : WH l D base M pc ls (v1 :: .ref b :: rest) h Q :=
  cv_Lm_139 hb ho hd hR hsp hw (fun h' r e => by obtain ⟨rfl, rfl⟩ := e; exact k)
theorem cv_Lm_139_i {v1 : Value} {rest : List Value} {b : Nat} (hb : IsLane b) (ho : M.1.cls = "LampMoths") (hd : decode M.2.1 pc = .ok (.invokevirtual 139, 3)) (hR : okR0 M M_Ln_greatestTugOn) {P : Hp → Int32 → Prop} (hsp : SI l D base M_Ln_greatestTugOn (.ref b :: [v1]) h P) (hw : (rest.map fun v => v.category).sum ≤ 8) (k : ∀ (h' : Hp) (x : Int32), P h' x → WH l D base M (pc + 3) ls (.int x :: rest) h' Q) : WH l D base M pc ls (v1 :: .ref b :: rest) h Q :=
  cv_Lm_139 hb ho hd hR hsp hw (fun h' r e => by obtain ⟨x, rfl, hp⟩ := e; exact k h' x hp)
theorem ml_Lm_142 : Cond.methodLink "LampMoths" 142 M_Ln_tug.1 ∈ lw_gt := gt_at 355 (by decide +kernel) rfl
theorem cv_Lm_142 {v1 v2 : Value} {rest : List Value} {b : Nat} (hb : IsLane b) (ho : M.1.cls = "LampMoths") (hd : decode M.2.1 pc = .ok (.invokevirtual 142, 3)) (hR : okR0 M M_Ln_tug) {Q' : Hp → Option Value → Prop} (hsp : SP l D base M_Ln_tug (.ref b :: [v1, v2]) h Q') (hw : (rest.map fun v => v.category).sum ≤ 8) (k : ∀ (h' : Hp) (r : Option Value), Q' h' r → WH l D base M (pc + 3) ls (r.toList ++ rest) h' Q) : WH l D base M pc ls (v2 :: v1 :: .ref b :: rest) h Q :=
  wh_callV (b := b) (ci := 0) (As := [v1, v2]) (rest := rest) hd k_Ln_tug hR (show Cond.methodLink M.1.cls 142 M_Ln_tug.1 ∈ lw_gt by rw [ho]; exact ml_Lm_142) ki_Ln_tug kz_Ln_tug (show SH[b]? = some (.inr (0, [(2, some (b + 1)), (2, some (b + 2)), (2, some (b + 3)), (2, some (b + 4)), (2, some (b + 5)), (2, some (b + 6)), (0, none), (0, none), (0, none), (0, none), (0, none), (2, some (b + 7))])) by rcases hb with rfl | rfl <;> rfl) rfl rfl hsp rfl rfl hw k
theorem cv_Lm_142_d {v1 v2 : Value} {rest : List Value} {b : Nat} (hb : IsLane b) (ho : M.1.cls = "LampMoths") (hd : decode M.2.1 pc = .ok (.invokevirtual 142, 3)) (hR : okR0 M M_Ln_tug) {h2 : Hp} {w : Value} (hsp : SD l D base M_Ln_tug (.ref b :: [v1, v2]) h (some w) h2) (hw : (rest.map fun v => v.category).sum ≤ 8) (k : WH l D base M (pc + 3) ls (w :: rest) h2 Q) : WH l D base M pc ls (v2 :: v1 :: .ref b :: rest) h Q :=
  cv_Lm_142 hb ho hd hR hsp hw (fun h' r e => by obtain ⟨rfl, rfl⟩ := e; exact k)
theorem cv_Lm_142_i {v1 v2 : Value} {rest : List Value} {b : Nat} (hb : IsLane b) (ho : M.1.cls = "LampMoths") (hd : decode M.2.1 pc = .ok (.invokevirtual 142, 3)) (hR : okR0 M M_Ln_tug) {P : Hp → Int32 → Prop} (hsp : SI l D base M_Ln_tug (.ref b :: [v1, v2]) h P) (hw : (rest.map fun v => v.category).sum ≤ 8) (k : ∀ (h' : Hp) (x : Int32), P h' x → WH l D base M (pc + 3) ls (.int x :: rest) h' Q) : WH l D base M pc ls (v2 :: v1 :: .ref b :: rest) h Q :=
  cv_Lm_142 hb ho hd hR hsp hw (fun h' r e => by obtain ⟨x, rfl, hp⟩ := e; exact k h' x hp)
theorem ml_Lm_146 : Cond.methodLink "LampMoths" 146 M_Lm_turned.1 ∈ lw_gt := gt_at 360 (by decide +kernel) rfl
theorem cv_Lm_146 {v1 v2 : Value} {rest : List Value} (ho : M.1.cls = "LampMoths") (hd : decode M.2.1 pc = .ok (.invokevirtual 146, 3)) (hR : okR0 M M_Lm_turned) {Q' : Hp → Option Value → Prop} (hsp : SP l D base M_Lm_turned (.ref 0 :: [v1, v2]) h Q') (hw : (rest.map fun v => v.category).sum ≤ 8) (k : ∀ (h' : Hp) (r : Option Value), Q' h' r → WH l D base M (pc + 3) ls (r.toList ++ rest) h' Q) : WH l D base M pc ls (v2 :: v1 :: .ref 0 :: rest) h Q :=
  wh_callV (b := 0) (ci := 2) (As := [v1, v2]) (rest := rest) hd k_Lm_turned hR (show Cond.methodLink M.1.cls 146 M_Lm_turned.1 ∈ lw_gt by rw [ho]; exact ml_Lm_146) ki_Lm_turned kz_Lm_turned rfl rfl rfl hsp rfl rfl hw k
theorem cv_Lm_146_d {v1 v2 : Value} {rest : List Value} (ho : M.1.cls = "LampMoths") (hd : decode M.2.1 pc = .ok (.invokevirtual 146, 3)) (hR : okR0 M M_Lm_turned) {h2 : Hp} {w : Value} (hsp : SD l D base M_Lm_turned (.ref 0 :: [v1, v2]) h (some w) h2) (hw : (rest.map fun v => v.category).sum ≤ 8) (k : WH l D base M (pc + 3) ls (w :: rest) h2 Q) : WH l D base M pc ls (v2 :: v1 :: .ref 0 :: rest) h Q :=
  cv_Lm_146 ho hd hR hsp hw (fun h' r e => by obtain ⟨rfl, rfl⟩ := e; exact k)
theorem cv_Lm_146_i {v1 v2 : Value} {rest : List Value} (ho : M.1.cls = "LampMoths") (hd : decode M.2.1 pc = .ok (.invokevirtual 146, 3)) (hR : okR0 M M_Lm_turned) {P : Hp → Int32 → Prop} (hsp : SI l D base M_Lm_turned (.ref 0 :: [v1, v2]) h P) (hw : (rest.map fun v => v.category).sum ≤ 8) (k : ∀ (h' : Hp) (x : Int32), P h' x → WH l D base M (pc + 3) ls (.int x :: rest) h' Q) : WH l D base M pc ls (v2 :: v1 :: .ref 0 :: rest) h Q :=
  cv_Lm_146 ho hd hR hsp hw (fun h' r e => by obtain ⟨x, rfl, hp⟩ := e; exact k h' x hp)
theorem ml_Lm_243 : Cond.methodLink "LampMoths" 243 M_Ln_canTurn.1 ∈ lw_gt := gt_at 364 (by decide +kernel) rfl
theorem cv_Lm_243 {v1 v2 : Value} {rest : List Value} {b : Nat} (hb : IsLane b) (ho : M.1.cls = "LampMoths") (hd : decode M.2.1 pc = .ok (.invokevirtual 243, 3)) (hR : okR0 M M_Ln_canTurn) {Q' : Hp → Option Value → Prop} (hsp : SP l D base M_Ln_canTurn (.ref b :: [v1, v2]) h Q') (hw : (rest.map fun v => v.category).sum ≤ 8) (k : ∀ (h' : Hp) (r : Option Value), Q' h' r → WH l D base M (pc + 3) ls (r.toList ++ rest) h' Q) : WH l D base M pc ls (v2 :: v1 :: .ref b :: rest) h Q :=
  wh_callV (b := b) (ci := 0) (As := [v1, v2]) (rest := rest) hd k_Ln_canTurn hR (show Cond.methodLink M.1.cls 243 M_Ln_canTurn.1 ∈ lw_gt by rw [ho]; exact ml_Lm_243) ki_Ln_canTurn kz_Ln_canTurn (show SH[b]? = some (.inr (0, [(2, some (b + 1)), (2, some (b + 2)), (2, some (b + 3)), (2, some (b + 4)), (2, some (b + 5)), (2, some (b + 6)), (0, none), (0, none), (0, none), (0, none), (0, none), (2, some (b + 7))])) by rcases hb with rfl | rfl <;> rfl) rfl rfl hsp rfl rfl hw k
theorem cv_Lm_243_d {v1 v2 : Value} {rest : List Value} {b : Nat} (hb : IsLane b) (ho : M.1.cls = "LampMoths") (hd : decode M.2.1 pc = .ok (.invokevirtual 243, 3)) (hR : okR0 M M_Ln_canTurn) {h2 : Hp} {w : Value} (hsp : SD l D base M_Ln_canTurn (.ref b :: [v1, v2]) h (some w) h2) (hw : (rest.map fun v => v.category).sum ≤ 8) (k : WH l D base M (pc + 3) ls (w :: rest) h2 Q) : WH l D base M pc ls (v2 :: v1 :: .ref b :: rest) h Q :=
  cv_Lm_243 hb ho hd hR hsp hw (fun h' r e => by obtain ⟨rfl, rfl⟩ := e; exact k)
theorem cv_Lm_243_i {v1 v2 : Value} {rest : List Value} {b : Nat} (hb : IsLane b) (ho : M.1.cls = "LampMoths") (hd : decode M.2.1 pc = .ok (.invokevirtual 243, 3)) (hR : okR0 M M_Ln_canTurn) {P : Hp → Int32 → Prop} (hsp : SI l D base M_Ln_canTurn (.ref b :: [v1, v2]) h P) (hw : (rest.map fun v => v.category).sum ≤ 8) (k : ∀ (h' : Hp) (x : Int32), P h' x → WH l D base M (pc + 3) ls (.int x :: rest) h' Q) : WH l D base M pc ls (v2 :: v1 :: .ref b :: rest) h Q :=
  cv_Lm_243 hb ho hd hR hsp hw (fun h' r e => by obtain ⟨x, rfl, hp⟩ := e; exact k h' x hp)
theorem ml_Lm_152 : Cond.methodLink "LampMoths" 152 M_Lm_remember.1 ∈ lw_gt := gt_at 368 (by decide +kernel) rfl
theorem cv_Lm_152 {rest : List Value} (ho : M.1.cls = "LampMoths") (hd : decode M.2.1 pc = .ok (.invokevirtual 152, 3)) (hR : okR0 M M_Lm_remember) {Q' : Hp → Option Value → Prop} (hsp : SP l D base M_Lm_remember (.ref 0 :: []) h Q') (hw : (rest.map fun v => v.category).sum ≤ 8) (k : ∀ (h' : Hp) (r : Option Value), Q' h' r → WH l D base M (pc + 3) ls (r.toList ++ rest) h' Q) : WH l D base M pc ls (.ref 0 :: rest) h Q :=
  wh_callV (b := 0) (ci := 2) (As := []) (rest := rest) hd k_Lm_remember hR (show Cond.methodLink M.1.cls 152 M_Lm_remember.1 ∈ lw_gt by rw [ho]; exact ml_Lm_152) ki_Lm_remember kz_Lm_remember rfl rfl rfl hsp rfl rfl hw k
theorem cv_Lm_152_d {rest : List Value} (ho : M.1.cls = "LampMoths") (hd : decode M.2.1 pc = .ok (.invokevirtual 152, 3)) (hR : okR0 M M_Lm_remember) {h2 : Hp} (hsp : SD l D base M_Lm_remember (.ref 0 :: []) h none h2) (hw : (rest.map fun v => v.category).sum ≤ 8) (k : WH l D base M (pc + 3) ls rest h2 Q) : WH l D base M pc ls (.ref 0 :: rest) h Q :=
  cv_Lm_152 ho hd hR hsp hw (fun h' r e => by obtain ⟨rfl, rfl⟩ := e; exact k)
theorem cv_Lm_152_v {rest : List Value} (ho : M.1.cls = "LampMoths") (hd : decode M.2.1 pc = .ok (.invokevirtual 152, 3)) (hR : okR0 M M_Lm_remember) {P : Hp → Prop} (hsp : SV l D base M_Lm_remember (.ref 0 :: []) h P) (hw : (rest.map fun v => v.category).sum ≤ 8) (k : ∀ h' : Hp, P h' → WH l D base M (pc + 3) ls rest h' Q) : WH l D base M pc ls (.ref 0 :: rest) h Q :=
  cv_Lm_152 ho hd hR hsp hw (fun h' r e => by obtain ⟨rfl, hp⟩ := e; exact k h' hp)
theorem ml_Lm_249 : Cond.methodLink "LampMoths" 249 M_Lm_forgetFirstAct.1 ∈ lw_gt := gt_at 372 (by decide +kernel) rfl
theorem cv_Lm_249 {rest : List Value} (ho : M.1.cls = "LampMoths") (hd : decode M.2.1 pc = .ok (.invokevirtual 249, 3)) (hR : okR0 M M_Lm_forgetFirstAct) {Q' : Hp → Option Value → Prop} (hsp : SP l D base M_Lm_forgetFirstAct (.ref 0 :: []) h Q') (hw : (rest.map fun v => v.category).sum ≤ 8) (k : ∀ (h' : Hp) (r : Option Value), Q' h' r → WH l D base M (pc + 3) ls (r.toList ++ rest) h' Q) : WH l D base M pc ls (.ref 0 :: rest) h Q :=
  wh_callV (b := 0) (ci := 2) (As := []) (rest := rest) hd k_Lm_forgetFirstAct hR (show Cond.methodLink M.1.cls 249 M_Lm_forgetFirstAct.1 ∈ lw_gt by rw [ho]; exact ml_Lm_249) ki_Lm_forgetFirstAct kz_Lm_forgetFirstAct rfl rfl rfl hsp rfl rfl hw k
theorem cv_Lm_249_d {rest : List Value} (ho : M.1.cls = "LampMoths") (hd : decode M.2.1 pc = .ok (.invokevirtual 249, 3)) (hR : okR0 M M_Lm_forgetFirstAct) {h2 : Hp} (hsp : SD l D base M_Lm_forgetFirstAct (.ref 0 :: []) h none h2) (hw : (rest.map fun v => v.category).sum ≤ 8) (k : WH l D base M (pc + 3) ls rest h2 Q) : WH l D base M pc ls (.ref 0 :: rest) h Q :=
  cv_Lm_249 ho hd hR hsp hw (fun h' r e => by obtain ⟨rfl, rfl⟩ := e; exact k)
theorem cv_Lm_249_v {rest : List Value} (ho : M.1.cls = "LampMoths") (hd : decode M.2.1 pc = .ok (.invokevirtual 249, 3)) (hR : okR0 M M_Lm_forgetFirstAct) {P : Hp → Prop} (hsp : SV l D base M_Lm_forgetFirstAct (.ref 0 :: []) h P) (hw : (rest.map fun v => v.category).sum ≤ 8) (k : ∀ h' : Hp, P h' → WH l D base M (pc + 3) ls rest h' Q) : WH l D base M pc ls (.ref 0 :: rest) h Q :=
  cv_Lm_249 ho hd hR hsp hw (fun h' r e => by obtain ⟨rfl, hp⟩ := e; exact k h' hp)
theorem ml_Lm_230 : Cond.methodLink "LampMoths" 230 M_Ln_save.1 ∈ lw_gt := gt_at 376 (by decide +kernel) rfl
theorem cv_Lm_230 {v1 : Value} {rest : List Value} {b : Nat} (hb : IsLane b) (ho : M.1.cls = "LampMoths") (hd : decode M.2.1 pc = .ok (.invokevirtual 230, 3)) (hR : okR0 M M_Ln_save) {Q' : Hp → Option Value → Prop} (hsp : SP l D base M_Ln_save (.ref b :: [v1]) h Q') (hw : (rest.map fun v => v.category).sum ≤ 8) (k : ∀ (h' : Hp) (r : Option Value), Q' h' r → WH l D base M (pc + 3) ls (r.toList ++ rest) h' Q) : WH l D base M pc ls (v1 :: .ref b :: rest) h Q :=
  wh_callV (b := b) (ci := 0) (As := [v1]) (rest := rest) hd k_Ln_save hR (show Cond.methodLink M.1.cls 230 M_Ln_save.1 ∈ lw_gt by rw [ho]; exact ml_Lm_230) ki_Ln_save kz_Ln_save (show SH[b]? = some (.inr (0, [(2, some (b + 1)), (2, some (b + 2)), (2, some (b + 3)), (2, some (b + 4)), (2, some (b + 5)), (2, some (b + 6)), (0, none), (0, none), (0, none), (0, none), (0, none), (2, some (b + 7))])) by rcases hb with rfl | rfl <;> rfl) rfl rfl hsp rfl rfl hw k
theorem cv_Lm_230_d {v1 : Value} {rest : List Value} {b : Nat} (hb : IsLane b) (ho : M.1.cls = "LampMoths") (hd : decode M.2.1 pc = .ok (.invokevirtual 230, 3)) (hR : okR0 M M_Ln_save) {h2 : Hp} (hsp : SD l D base M_Ln_save (.ref b :: [v1]) h none h2) (hw : (rest.map fun v => v.category).sum ≤ 8) (k : WH l D base M (pc + 3) ls rest h2 Q) : WH l D base M pc ls (v1 :: .ref b :: rest) h Q :=
  cv_Lm_230 hb ho hd hR hsp hw (fun h' r e => by obtain ⟨rfl, rfl⟩ := e; exact k)
theorem cv_Lm_230_v {v1 : Value} {rest : List Value} {b : Nat} (hb : IsLane b) (ho : M.1.cls = "LampMoths") (hd : decode M.2.1 pc = .ok (.invokevirtual 230, 3)) (hR : okR0 M M_Ln_save) {P : Hp → Prop} (hsp : SV l D base M_Ln_save (.ref b :: [v1]) h P) (hw : (rest.map fun v => v.category).sum ≤ 8) (k : ∀ h' : Hp, P h' → WH l D base M (pc + 3) ls rest h' Q) : WH l D base M pc ls (v1 :: .ref b :: rest) h Q :=
  cv_Lm_230 hb ho hd hR hsp hw (fun h' r e => by obtain ⟨rfl, hp⟩ := e; exact k h' hp)
theorem ml_Lm_246 : Cond.methodLink "LampMoths" 246 M_Ln_turn.1 ∈ lw_gt := gt_at 380 (by decide +kernel) rfl
theorem cv_Lm_246 {v1 v2 : Value} {rest : List Value} {b : Nat} (hb : IsLane b) (ho : M.1.cls = "LampMoths") (hd : decode M.2.1 pc = .ok (.invokevirtual 246, 3)) (hR : okR0 M M_Ln_turn) {Q' : Hp → Option Value → Prop} (hsp : SP l D base M_Ln_turn (.ref b :: [v1, v2]) h Q') (hw : (rest.map fun v => v.category).sum ≤ 8) (k : ∀ (h' : Hp) (r : Option Value), Q' h' r → WH l D base M (pc + 3) ls (r.toList ++ rest) h' Q) : WH l D base M pc ls (v2 :: v1 :: .ref b :: rest) h Q :=
  wh_callV (b := b) (ci := 0) (As := [v1, v2]) (rest := rest) hd k_Ln_turn hR (show Cond.methodLink M.1.cls 246 M_Ln_turn.1 ∈ lw_gt by rw [ho]; exact ml_Lm_246) ki_Ln_turn kz_Ln_turn (show SH[b]? = some (.inr (0, [(2, some (b + 1)), (2, some (b + 2)), (2, some (b + 3)), (2, some (b + 4)), (2, some (b + 5)), (2, some (b + 6)), (0, none), (0, none), (0, none), (0, none), (0, none), (2, some (b + 7))])) by rcases hb with rfl | rfl <;> rfl) rfl rfl hsp rfl rfl hw k
theorem cv_Lm_246_d {v1 v2 : Value} {rest : List Value} {b : Nat} (hb : IsLane b) (ho : M.1.cls = "LampMoths") (hd : decode M.2.1 pc = .ok (.invokevirtual 246, 3)) (hR : okR0 M M_Ln_turn) {h2 : Hp} {w : Value} (hsp : SD l D base M_Ln_turn (.ref b :: [v1, v2]) h (some w) h2) (hw : (rest.map fun v => v.category).sum ≤ 8) (k : WH l D base M (pc + 3) ls (w :: rest) h2 Q) : WH l D base M pc ls (v2 :: v1 :: .ref b :: rest) h Q :=
  cv_Lm_246 hb ho hd hR hsp hw (fun h' r e => by obtain ⟨rfl, rfl⟩ := e; exact k)
theorem cv_Lm_246_i {v1 v2 : Value} {rest : List Value} {b : Nat} (hb : IsLane b) (ho : M.1.cls = "LampMoths") (hd : decode M.2.1 pc = .ok (.invokevirtual 246, 3)) (hR : okR0 M M_Ln_turn) {P : Hp → Int32 → Prop} (hsp : SI l D base M_Ln_turn (.ref b :: [v1, v2]) h P) (hw : (rest.map fun v => v.category).sum ≤ 8) (k : ∀ (h' : Hp) (x : Int32), P h' x → WH l D base M (pc + 3) ls (.int x :: rest) h' Q) : WH l D base M pc ls (v2 :: v1 :: .ref b :: rest) h Q :=
  cv_Lm_246 hb ho hd hR hsp hw (fun h' r e => by obtain ⟨x, rfl, hp⟩ := e; exact k h' x hp)
theorem ml_Ln_103 : Cond.methodLink "LampMoths$Lane" 103 M_Ln_canTurn.1 ∈ lw_gt := gt_at 384 (by decide +kernel) rfl
theorem cv_Ln_103 {v1 v2 : Value} {rest : List Value} {b : Nat} (hb : IsLane b) (ho : M.1.cls = "LampMoths$Lane") (hd : decode M.2.1 pc = .ok (.invokevirtual 103, 3)) (hR : okR0 M M_Ln_canTurn) {Q' : Hp → Option Value → Prop} (hsp : SP l D base M_Ln_canTurn (.ref b :: [v1, v2]) h Q') (hw : (rest.map fun v => v.category).sum ≤ 8) (k : ∀ (h' : Hp) (r : Option Value), Q' h' r → WH l D base M (pc + 3) ls (r.toList ++ rest) h' Q) : WH l D base M pc ls (v2 :: v1 :: .ref b :: rest) h Q :=
  wh_callV (b := b) (ci := 0) (As := [v1, v2]) (rest := rest) hd k_Ln_canTurn hR (show Cond.methodLink M.1.cls 103 M_Ln_canTurn.1 ∈ lw_gt by rw [ho]; exact ml_Ln_103) ki_Ln_canTurn kz_Ln_canTurn (show SH[b]? = some (.inr (0, [(2, some (b + 1)), (2, some (b + 2)), (2, some (b + 3)), (2, some (b + 4)), (2, some (b + 5)), (2, some (b + 6)), (0, none), (0, none), (0, none), (0, none), (0, none), (2, some (b + 7))])) by rcases hb with rfl | rfl <;> rfl) rfl rfl hsp rfl rfl hw k
theorem cv_Ln_103_d {v1 v2 : Value} {rest : List Value} {b : Nat} (hb : IsLane b) (ho : M.1.cls = "LampMoths$Lane") (hd : decode M.2.1 pc = .ok (.invokevirtual 103, 3)) (hR : okR0 M M_Ln_canTurn) {h2 : Hp} {w : Value} (hsp : SD l D base M_Ln_canTurn (.ref b :: [v1, v2]) h (some w) h2) (hw : (rest.map fun v => v.category).sum ≤ 8) (k : WH l D base M (pc + 3) ls (w :: rest) h2 Q) : WH l D base M pc ls (v2 :: v1 :: .ref b :: rest) h Q :=
  cv_Ln_103 hb ho hd hR hsp hw (fun h' r e => by obtain ⟨rfl, rfl⟩ := e; exact k)
theorem cv_Ln_103_i {v1 v2 : Value} {rest : List Value} {b : Nat} (hb : IsLane b) (ho : M.1.cls = "LampMoths$Lane") (hd : decode M.2.1 pc = .ok (.invokevirtual 103, 3)) (hR : okR0 M M_Ln_canTurn) {P : Hp → Int32 → Prop} (hsp : SI l D base M_Ln_canTurn (.ref b :: [v1, v2]) h P) (hw : (rest.map fun v => v.category).sum ≤ 8) (k : ∀ (h' : Hp) (x : Int32), P h' x → WH l D base M (pc + 3) ls (.int x :: rest) h' Q) : WH l D base M pc ls (v2 :: v1 :: .ref b :: rest) h Q :=
  cv_Ln_103 hb ho hd hR hsp hw (fun h' r e => by obtain ⟨x, rfl, hp⟩ := e; exact k h' x hp)
theorem ml_Lm_149 : Cond.methodLink "LampMoths" 149 M_Lm_isWind.1 ∈ lw_gt := gt_at 393 (by decide +kernel) rfl
theorem cs_Lm_149 {v1 : Value} {rest : List Value} (ho : M.1.cls = "LampMoths") (hd : decode M.2.1 pc = .ok (.invokestatic 149, 3)) (hR : okR0 M M_Lm_isWind) {Q' : Hp → Option Value → Prop} (hsp : SP l D base M_Lm_isWind [v1] h Q') (hw : (rest.map fun v => v.category).sum ≤ 8) (k : ∀ (h' : Hp) (r : Option Value), Q' h' r → WH l D base M (pc + 3) ls (r.toList ++ rest) h' Q) : WH l D base M pc ls (v1 :: rest) h Q :=
  wh_callS (As := [v1]) (rest := rest) hd k_Lm_isWind hR (show Cond.methodLink M.1.cls 149 M_Lm_isWind.1 ∈ lw_gt by rw [ho]; exact ml_Lm_149) ks_Lm_isWind hsp rfl rfl hw k
theorem cs_Lm_149_d {v1 : Value} {rest : List Value} (ho : M.1.cls = "LampMoths") (hd : decode M.2.1 pc = .ok (.invokestatic 149, 3)) (hR : okR0 M M_Lm_isWind) {h2 : Hp} {w : Value} (hsp : SD l D base M_Lm_isWind [v1] h (some w) h2) (hw : (rest.map fun v => v.category).sum ≤ 8) (k : WH l D base M (pc + 3) ls (w :: rest) h2 Q) : WH l D base M pc ls (v1 :: rest) h Q :=
  cs_Lm_149 ho hd hR hsp hw (fun h' r e => by obtain ⟨rfl, rfl⟩ := e; exact k)
theorem cs_Lm_149_i {v1 : Value} {rest : List Value} (ho : M.1.cls = "LampMoths") (hd : decode M.2.1 pc = .ok (.invokestatic 149, 3)) (hR : okR0 M M_Lm_isWind) {P : Hp → Int32 → Prop} (hsp : SI l D base M_Lm_isWind [v1] h P) (hw : (rest.map fun v => v.category).sum ≤ 8) (k : ∀ (h' : Hp) (x : Int32), P h' x → WH l D base M (pc + 3) ls (.int x :: rest) h' Q) : WH l D base M pc ls (v1 :: rest) h Q :=
  cs_Lm_149 ho hd hR hsp hw (fun h' r e => by obtain ⟨x, rfl, hp⟩ := e; exact k h' x hp)
theorem ml_Lm_155 : Cond.methodLink "LampMoths" 155 M_Lm_isHoneyPlace.1 ∈ lw_gt := gt_at 398 (by decide +kernel) rfl
theorem cs_Lm_155 {v1 : Value} {rest : List Value} (ho : M.1.cls = "LampMoths") (hd : decode M.2.1 pc = .ok (.invokestatic 155, 3)) (hR : okR0 M M_Lm_isHoneyPlace) {Q' : Hp → Option Value → Prop} (hsp : SP l D base M_Lm_isHoneyPlace [v1] h Q') (hw : (rest.map fun v => v.category).sum ≤ 8) (k : ∀ (h' : Hp) (r : Option Value), Q' h' r → WH l D base M (pc + 3) ls (r.toList ++ rest) h' Q) : WH l D base M pc ls (v1 :: rest) h Q :=
  wh_callS (As := [v1]) (rest := rest) hd k_Lm_isHoneyPlace hR (show Cond.methodLink M.1.cls 155 M_Lm_isHoneyPlace.1 ∈ lw_gt by rw [ho]; exact ml_Lm_155) ks_Lm_isHoneyPlace hsp rfl rfl hw k
theorem cs_Lm_155_d {v1 : Value} {rest : List Value} (ho : M.1.cls = "LampMoths") (hd : decode M.2.1 pc = .ok (.invokestatic 155, 3)) (hR : okR0 M M_Lm_isHoneyPlace) {h2 : Hp} {w : Value} (hsp : SD l D base M_Lm_isHoneyPlace [v1] h (some w) h2) (hw : (rest.map fun v => v.category).sum ≤ 8) (k : WH l D base M (pc + 3) ls (w :: rest) h2 Q) : WH l D base M pc ls (v1 :: rest) h Q :=
  cs_Lm_155 ho hd hR hsp hw (fun h' r e => by obtain ⟨rfl, rfl⟩ := e; exact k)
theorem cs_Lm_155_i {v1 : Value} {rest : List Value} (ho : M.1.cls = "LampMoths") (hd : decode M.2.1 pc = .ok (.invokestatic 155, 3)) (hR : okR0 M M_Lm_isHoneyPlace) {P : Hp → Int32 → Prop} (hsp : SI l D base M_Lm_isHoneyPlace [v1] h P) (hw : (rest.map fun v => v.category).sum ≤ 8) (k : ∀ (h' : Hp) (x : Int32), P h' x → WH l D base M (pc + 3) ls (.int x :: rest) h' Q) : WH l D base M pc ls (v1 :: rest) h Q :=
  cs_Lm_155 ho hd hR hsp hw (fun h' r e => by obtain ⟨x, rfl, hp⟩ := e; exact k h' x hp)
theorem ml_Lm_158 : Cond.methodLink "LampMoths" 158 M_Ln_passNight.1 ∈ lw_gt := gt_at 405 (by decide +kernel) rfl
theorem cv_Lm_158 {rest : List Value} {b : Nat} (hb : IsLane b) (ho : M.1.cls = "LampMoths") (hd : decode M.2.1 pc = .ok (.invokevirtual 158, 3)) (hR : okR0 M M_Ln_passNight) {Q' : Hp → Option Value → Prop} (hsp : SP l D base M_Ln_passNight (.ref b :: []) h Q') (hw : (rest.map fun v => v.category).sum ≤ 8) (k : ∀ (h' : Hp) (r : Option Value), Q' h' r → WH l D base M (pc + 3) ls (r.toList ++ rest) h' Q) : WH l D base M pc ls (.ref b :: rest) h Q :=
  wh_callV (b := b) (ci := 0) (As := []) (rest := rest) hd k_Ln_passNight hR (show Cond.methodLink M.1.cls 158 M_Ln_passNight.1 ∈ lw_gt by rw [ho]; exact ml_Lm_158) ki_Ln_passNight kz_Ln_passNight (show SH[b]? = some (.inr (0, [(2, some (b + 1)), (2, some (b + 2)), (2, some (b + 3)), (2, some (b + 4)), (2, some (b + 5)), (2, some (b + 6)), (0, none), (0, none), (0, none), (0, none), (0, none), (2, some (b + 7))])) by rcases hb with rfl | rfl <;> rfl) rfl rfl hsp rfl rfl hw k
theorem cv_Lm_158_d {rest : List Value} {b : Nat} (hb : IsLane b) (ho : M.1.cls = "LampMoths") (hd : decode M.2.1 pc = .ok (.invokevirtual 158, 3)) (hR : okR0 M M_Ln_passNight) {h2 : Hp} {w : Value} (hsp : SD l D base M_Ln_passNight (.ref b :: []) h (some w) h2) (hw : (rest.map fun v => v.category).sum ≤ 8) (k : WH l D base M (pc + 3) ls (w :: rest) h2 Q) : WH l D base M pc ls (.ref b :: rest) h Q :=
  cv_Lm_158 hb ho hd hR hsp hw (fun h' r e => by obtain ⟨rfl, rfl⟩ := e; exact k)
theorem cv_Lm_158_i {rest : List Value} {b : Nat} (hb : IsLane b) (ho : M.1.cls = "LampMoths") (hd : decode M.2.1 pc = .ok (.invokevirtual 158, 3)) (hR : okR0 M M_Ln_passNight) {P : Hp → Int32 → Prop} (hsp : SI l D base M_Ln_passNight (.ref b :: []) h P) (hw : (rest.map fun v => v.category).sum ≤ 8) (k : ∀ (h' : Hp) (x : Int32), P h' x → WH l D base M (pc + 3) ls (.int x :: rest) h' Q) : WH l D base M pc ls (.ref b :: rest) h Q :=
  cv_Lm_158 hb ho hd hR hsp hw (fun h' r e => by obtain ⟨x, rfl, hp⟩ := e; exact k h' x hp)
theorem ml_Ln_107 : Cond.methodLink "LampMoths$Lane" 107 M_Ln_flyNearer.1 ∈ lw_gt := gt_at 409 (by decide +kernel) rfl
theorem cv_Ln_107 {v1 v2 : Value} {rest : List Value} {b : Nat} (hb : IsLane b) (ho : M.1.cls = "LampMoths$Lane") (hd : decode M.2.1 pc = .ok (.invokevirtual 107, 3)) (hR : okR0 M M_Ln_flyNearer) {Q' : Hp → Option Value → Prop} (hsp : SP l D base M_Ln_flyNearer (.ref b :: [v1, v2]) h Q') (hw : (rest.map fun v => v.category).sum ≤ 8) (k : ∀ (h' : Hp) (r : Option Value), Q' h' r → WH l D base M (pc + 3) ls (r.toList ++ rest) h' Q) : WH l D base M pc ls (v2 :: v1 :: .ref b :: rest) h Q :=
  wh_callV (b := b) (ci := 0) (As := [v1, v2]) (rest := rest) hd k_Ln_flyNearer hR (show Cond.methodLink M.1.cls 107 M_Ln_flyNearer.1 ∈ lw_gt by rw [ho]; exact ml_Ln_107) ki_Ln_flyNearer kz_Ln_flyNearer (show SH[b]? = some (.inr (0, [(2, some (b + 1)), (2, some (b + 2)), (2, some (b + 3)), (2, some (b + 4)), (2, some (b + 5)), (2, some (b + 6)), (0, none), (0, none), (0, none), (0, none), (0, none), (2, some (b + 7))])) by rcases hb with rfl | rfl <;> rfl) rfl rfl hsp rfl rfl hw k
theorem cv_Ln_107_d {v1 v2 : Value} {rest : List Value} {b : Nat} (hb : IsLane b) (ho : M.1.cls = "LampMoths$Lane") (hd : decode M.2.1 pc = .ok (.invokevirtual 107, 3)) (hR : okR0 M M_Ln_flyNearer) {h2 : Hp} (hsp : SD l D base M_Ln_flyNearer (.ref b :: [v1, v2]) h none h2) (hw : (rest.map fun v => v.category).sum ≤ 8) (k : WH l D base M (pc + 3) ls rest h2 Q) : WH l D base M pc ls (v2 :: v1 :: .ref b :: rest) h Q :=
  cv_Ln_107 hb ho hd hR hsp hw (fun h' r e => by obtain ⟨rfl, rfl⟩ := e; exact k)
theorem cv_Ln_107_v {v1 v2 : Value} {rest : List Value} {b : Nat} (hb : IsLane b) (ho : M.1.cls = "LampMoths$Lane") (hd : decode M.2.1 pc = .ok (.invokevirtual 107, 3)) (hR : okR0 M M_Ln_flyNearer) {P : Hp → Prop} (hsp : SV l D base M_Ln_flyNearer (.ref b :: [v1, v2]) h P) (hw : (rest.map fun v => v.category).sum ≤ 8) (k : ∀ h' : Hp, P h' → WH l D base M (pc + 3) ls rest h' Q) : WH l D base M pc ls (v2 :: v1 :: .ref b :: rest) h Q :=
  cv_Ln_107 hb ho hd hR hsp hw (fun h' r e => by obtain ⟨rfl, hp⟩ := e; exact k h' hp)
theorem ml_Ln_110 : Cond.methodLink "LampMoths$Lane" 110 M_Ji_numberOfTrailingZeros.1 ∈ lw_gt := gt_at 413 (by decide +kernel) rfl
theorem cs_Ln_110 {v1 : Value} {rest : List Value} (ho : M.1.cls = "LampMoths$Lane") (hd : decode M.2.1 pc = .ok (.invokestatic 110, 3)) (hR : okR0 M M_Ji_numberOfTrailingZeros) {Q' : Hp → Option Value → Prop} (hsp : SP l D base M_Ji_numberOfTrailingZeros [v1] h Q') (hw : (rest.map fun v => v.category).sum ≤ 8) (k : ∀ (h' : Hp) (r : Option Value), Q' h' r → WH l D base M (pc + 3) ls (r.toList ++ rest) h' Q) : WH l D base M pc ls (v1 :: rest) h Q :=
  wh_callS (As := [v1]) (rest := rest) hd k_Ji_numberOfTrailingZeros hR (show Cond.methodLink M.1.cls 110 M_Ji_numberOfTrailingZeros.1 ∈ lw_gt by rw [ho]; exact ml_Ln_110) ks_Ji_numberOfTrailingZeros hsp rfl rfl hw k
theorem cs_Ln_110_d {v1 : Value} {rest : List Value} (ho : M.1.cls = "LampMoths$Lane") (hd : decode M.2.1 pc = .ok (.invokestatic 110, 3)) (hR : okR0 M M_Ji_numberOfTrailingZeros) {h2 : Hp} {w : Value} (hsp : SD l D base M_Ji_numberOfTrailingZeros [v1] h (some w) h2) (hw : (rest.map fun v => v.category).sum ≤ 8) (k : WH l D base M (pc + 3) ls (w :: rest) h2 Q) : WH l D base M pc ls (v1 :: rest) h Q :=
  cs_Ln_110 ho hd hR hsp hw (fun h' r e => by obtain ⟨rfl, rfl⟩ := e; exact k)
theorem cs_Ln_110_i {v1 : Value} {rest : List Value} (ho : M.1.cls = "LampMoths$Lane") (hd : decode M.2.1 pc = .ok (.invokestatic 110, 3)) (hR : okR0 M M_Ji_numberOfTrailingZeros) {P : Hp → Int32 → Prop} (hsp : SI l D base M_Ji_numberOfTrailingZeros [v1] h P) (hw : (rest.map fun v => v.category).sum ≤ 8) (k : ∀ (h' : Hp) (x : Int32), P h' x → WH l D base M (pc + 3) ls (.int x :: rest) h' Q) : WH l D base M pc ls (v1 :: rest) h Q :=
  cs_Ln_110 ho hd hR hsp hw (fun h' r e => by obtain ⟨x, rfl, hp⟩ := e; exact k h' x hp)
theorem ml_Ln_113 : Cond.methodLink "LampMoths$Lane" 113 M_Ji_compare.1 ∈ lw_gt := gt_at 417 (by decide +kernel) rfl
theorem cs_Ln_113 {v1 v2 : Value} {rest : List Value} (ho : M.1.cls = "LampMoths$Lane") (hd : decode M.2.1 pc = .ok (.invokestatic 113, 3)) (hR : okR0 M M_Ji_compare) {Q' : Hp → Option Value → Prop} (hsp : SP l D base M_Ji_compare [v1, v2] h Q') (hw : (rest.map fun v => v.category).sum ≤ 8) (k : ∀ (h' : Hp) (r : Option Value), Q' h' r → WH l D base M (pc + 3) ls (r.toList ++ rest) h' Q) : WH l D base M pc ls (v2 :: v1 :: rest) h Q :=
  wh_callS (As := [v1, v2]) (rest := rest) hd k_Ji_compare hR (show Cond.methodLink M.1.cls 113 M_Ji_compare.1 ∈ lw_gt by rw [ho]; exact ml_Ln_113) ks_Ji_compare hsp rfl rfl hw k
theorem cs_Ln_113_d {v1 v2 : Value} {rest : List Value} (ho : M.1.cls = "LampMoths$Lane") (hd : decode M.2.1 pc = .ok (.invokestatic 113, 3)) (hR : okR0 M M_Ji_compare) {h2 : Hp} {w : Value} (hsp : SD l D base M_Ji_compare [v1, v2] h (some w) h2) (hw : (rest.map fun v => v.category).sum ≤ 8) (k : WH l D base M (pc + 3) ls (w :: rest) h2 Q) : WH l D base M pc ls (v2 :: v1 :: rest) h Q :=
  cs_Ln_113 ho hd hR hsp hw (fun h' r e => by obtain ⟨rfl, rfl⟩ := e; exact k)
theorem cs_Ln_113_i {v1 v2 : Value} {rest : List Value} (ho : M.1.cls = "LampMoths$Lane") (hd : decode M.2.1 pc = .ok (.invokestatic 113, 3)) (hR : okR0 M M_Ji_compare) {P : Hp → Int32 → Prop} (hsp : SI l D base M_Ji_compare [v1, v2] h P) (hw : (rest.map fun v => v.category).sum ≤ 8) (k : ∀ (h' : Hp) (x : Int32), P h' x → WH l D base M (pc + 3) ls (.int x :: rest) h' Q) : WH l D base M pc ls (v2 :: v1 :: rest) h Q :=
  cs_Ln_113 ho hd hR hsp hw (fun h' r e => by obtain ⟨x, rfl, hp⟩ := e; exact k h' x hp)
theorem ml_Lm_161 : Cond.methodLink "LampMoths" 161 M_Ln_load.1 ∈ lw_gt := gt_at 424 (by decide +kernel) rfl
theorem cv_Lm_161 {v1 : Value} {rest : List Value} {b : Nat} (hb : IsLane b) (ho : M.1.cls = "LampMoths") (hd : decode M.2.1 pc = .ok (.invokevirtual 161, 3)) (hR : okR0 M M_Ln_load) {Q' : Hp → Option Value → Prop} (hsp : SP l D base M_Ln_load (.ref b :: [v1]) h Q') (hw : (rest.map fun v => v.category).sum ≤ 8) (k : ∀ (h' : Hp) (r : Option Value), Q' h' r → WH l D base M (pc + 3) ls (r.toList ++ rest) h' Q) : WH l D base M pc ls (v1 :: .ref b :: rest) h Q :=
  wh_callV (b := b) (ci := 0) (As := [v1]) (rest := rest) hd k_Ln_load hR (show Cond.methodLink M.1.cls 161 M_Ln_load.1 ∈ lw_gt by rw [ho]; exact ml_Lm_161) ki_Ln_load kz_Ln_load (show SH[b]? = some (.inr (0, [(2, some (b + 1)), (2, some (b + 2)), (2, some (b + 3)), (2, some (b + 4)), (2, some (b + 5)), (2, some (b + 6)), (0, none), (0, none), (0, none), (0, none), (0, none), (2, some (b + 7))])) by rcases hb with rfl | rfl <;> rfl) rfl rfl hsp rfl rfl hw k
theorem cv_Lm_161_d {v1 : Value} {rest : List Value} {b : Nat} (hb : IsLane b) (ho : M.1.cls = "LampMoths") (hd : decode M.2.1 pc = .ok (.invokevirtual 161, 3)) (hR : okR0 M M_Ln_load) {h2 : Hp} (hsp : SD l D base M_Ln_load (.ref b :: [v1]) h none h2) (hw : (rest.map fun v => v.category).sum ≤ 8) (k : WH l D base M (pc + 3) ls rest h2 Q) : WH l D base M pc ls (v1 :: .ref b :: rest) h Q :=
  cv_Lm_161 hb ho hd hR hsp hw (fun h' r e => by obtain ⟨rfl, rfl⟩ := e; exact k)
theorem cv_Lm_161_v {v1 : Value} {rest : List Value} {b : Nat} (hb : IsLane b) (ho : M.1.cls = "LampMoths") (hd : decode M.2.1 pc = .ok (.invokevirtual 161, 3)) (hR : okR0 M M_Ln_load) {P : Hp → Prop} (hsp : SV l D base M_Ln_load (.ref b :: [v1]) h P) (hw : (rest.map fun v => v.category).sum ≤ 8) (k : ∀ h' : Hp, P h' → WH l D base M (pc + 3) ls rest h' Q) : WH l D base M pc ls (v1 :: .ref b :: rest) h Q :=
  cv_Lm_161 hb ho hd hR hsp hw (fun h' r e => by obtain ⟨rfl, hp⟩ := e; exact k h' hp)
theorem ml_Lm_165 : Cond.methodLink "LampMoths" 165 M_Lm_isSum.1 ∈ lw_gt := gt_at 432 (by decide +kernel) rfl
theorem cs_Lm_165 {v1 : Value} {rest : List Value} (ho : M.1.cls = "LampMoths") (hd : decode M.2.1 pc = .ok (.invokestatic 165, 3)) (hR : okR0 M M_Lm_isSum) {Q' : Hp → Option Value → Prop} (hsp : SP l D base M_Lm_isSum [v1] h Q') (hw : (rest.map fun v => v.category).sum ≤ 8) (k : ∀ (h' : Hp) (r : Option Value), Q' h' r → WH l D base M (pc + 3) ls (r.toList ++ rest) h' Q) : WH l D base M pc ls (v1 :: rest) h Q :=
  wh_callS (As := [v1]) (rest := rest) hd k_Lm_isSum hR (show Cond.methodLink M.1.cls 165 M_Lm_isSum.1 ∈ lw_gt by rw [ho]; exact ml_Lm_165) ks_Lm_isSum hsp rfl rfl hw k
theorem cs_Lm_165_d {v1 : Value} {rest : List Value} (ho : M.1.cls = "LampMoths") (hd : decode M.2.1 pc = .ok (.invokestatic 165, 3)) (hR : okR0 M M_Lm_isSum) {h2 : Hp} {w : Value} (hsp : SD l D base M_Lm_isSum [v1] h (some w) h2) (hw : (rest.map fun v => v.category).sum ≤ 8) (k : WH l D base M (pc + 3) ls (w :: rest) h2 Q) : WH l D base M pc ls (v1 :: rest) h Q :=
  cs_Lm_165 ho hd hR hsp hw (fun h' r e => by obtain ⟨rfl, rfl⟩ := e; exact k)
theorem cs_Lm_165_i {v1 : Value} {rest : List Value} (ho : M.1.cls = "LampMoths") (hd : decode M.2.1 pc = .ok (.invokestatic 165, 3)) (hR : okR0 M M_Lm_isSum) {P : Hp → Int32 → Prop} (hsp : SI l D base M_Lm_isSum [v1] h P) (hw : (rest.map fun v => v.category).sum ≤ 8) (k : ∀ (h' : Hp) (x : Int32), P h' x → WH l D base M (pc + 3) ls (.int x :: rest) h' Q) : WH l D base M pc ls (v1 :: rest) h Q :=
  cs_Lm_165 ho hd hR hsp hw (fun h' r e => by obtain ⟨x, rfl, hp⟩ := e; exact k h' x hp)
theorem ml_Lm_168 : Cond.methodLink "LampMoths" 168 M_Lm_owesAtMost.1 ∈ lw_gt := gt_at 435 (by decide +kernel) rfl
theorem cv_Lm_168 {v1 v2 v3 : Value} {rest : List Value} (ho : M.1.cls = "LampMoths") (hd : decode M.2.1 pc = .ok (.invokevirtual 168, 3)) (hR : okR0 M M_Lm_owesAtMost) {Q' : Hp → Option Value → Prop} (hsp : SP l D base M_Lm_owesAtMost (.ref 0 :: [v1, v2, v3]) h Q') (hw : (rest.map fun v => v.category).sum ≤ 8) (k : ∀ (h' : Hp) (r : Option Value), Q' h' r → WH l D base M (pc + 3) ls (r.toList ++ rest) h' Q) : WH l D base M pc ls (v3 :: v2 :: v1 :: .ref 0 :: rest) h Q :=
  wh_callV (b := 0) (ci := 2) (As := [v1, v2, v3]) (rest := rest) hd k_Lm_owesAtMost hR (show Cond.methodLink M.1.cls 168 M_Lm_owesAtMost.1 ∈ lw_gt by rw [ho]; exact ml_Lm_168) ki_Lm_owesAtMost kz_Lm_owesAtMost rfl rfl rfl hsp rfl rfl hw k
theorem cv_Lm_168_d {v1 v2 v3 : Value} {rest : List Value} (ho : M.1.cls = "LampMoths") (hd : decode M.2.1 pc = .ok (.invokevirtual 168, 3)) (hR : okR0 M M_Lm_owesAtMost) {h2 : Hp} {w : Value} (hsp : SD l D base M_Lm_owesAtMost (.ref 0 :: [v1, v2, v3]) h (some w) h2) (hw : (rest.map fun v => v.category).sum ≤ 8) (k : WH l D base M (pc + 3) ls (w :: rest) h2 Q) : WH l D base M pc ls (v3 :: v2 :: v1 :: .ref 0 :: rest) h Q :=
  cv_Lm_168 ho hd hR hsp hw (fun h' r e => by obtain ⟨rfl, rfl⟩ := e; exact k)
theorem cv_Lm_168_i {v1 v2 v3 : Value} {rest : List Value} (ho : M.1.cls = "LampMoths") (hd : decode M.2.1 pc = .ok (.invokevirtual 168, 3)) (hR : okR0 M M_Lm_owesAtMost) {P : Hp → Int32 → Prop} (hsp : SI l D base M_Lm_owesAtMost (.ref 0 :: [v1, v2, v3]) h P) (hw : (rest.map fun v => v.category).sum ≤ 8) (k : ∀ (h' : Hp) (x : Int32), P h' x → WH l D base M (pc + 3) ls (.int x :: rest) h' Q) : WH l D base M pc ls (v3 :: v2 :: v1 :: .ref 0 :: rest) h Q :=
  cv_Lm_168 ho hd hR hsp hw (fun h' r e => by obtain ⟨x, rfl, hp⟩ := e; exact k h' x hp)
theorem ml_Lm_172 : Cond.methodLink "LampMoths" 172 M_Lm_power.1 ∈ lw_gt := gt_at 443 (by decide +kernel) rfl
theorem cs_Lm_172 {v1 v2 : Value} {rest : List Value} (ho : M.1.cls = "LampMoths") (hd : decode M.2.1 pc = .ok (.invokestatic 172, 3)) (hR : okR0 M M_Lm_power) {Q' : Hp → Option Value → Prop} (hsp : SP l D base M_Lm_power [v1, v2] h Q') (hw : (rest.map fun v => v.category).sum ≤ 8) (k : ∀ (h' : Hp) (r : Option Value), Q' h' r → WH l D base M (pc + 3) ls (r.toList ++ rest) h' Q) : WH l D base M pc ls (v2 :: v1 :: rest) h Q :=
  wh_callS (As := [v1, v2]) (rest := rest) hd k_Lm_power hR (show Cond.methodLink M.1.cls 172 M_Lm_power.1 ∈ lw_gt by rw [ho]; exact ml_Lm_172) ks_Lm_power hsp rfl rfl hw k
theorem cs_Lm_172_d {v1 v2 : Value} {rest : List Value} (ho : M.1.cls = "LampMoths") (hd : decode M.2.1 pc = .ok (.invokestatic 172, 3)) (hR : okR0 M M_Lm_power) {h2 : Hp} {w : Value} (hsp : SD l D base M_Lm_power [v1, v2] h (some w) h2) (hw : (rest.map fun v => v.category).sum ≤ 8) (k : WH l D base M (pc + 3) ls (w :: rest) h2 Q) : WH l D base M pc ls (v2 :: v1 :: rest) h Q :=
  cs_Lm_172 ho hd hR hsp hw (fun h' r e => by obtain ⟨rfl, rfl⟩ := e; exact k)
theorem cs_Lm_172_i {v1 v2 : Value} {rest : List Value} (ho : M.1.cls = "LampMoths") (hd : decode M.2.1 pc = .ok (.invokestatic 172, 3)) (hR : okR0 M M_Lm_power) {P : Hp → Int32 → Prop} (hsp : SI l D base M_Lm_power [v1, v2] h P) (hw : (rest.map fun v => v.category).sum ≤ 8) (k : ∀ (h' : Hp) (x : Int32), P h' x → WH l D base M (pc + 3) ls (.int x :: rest) h' Q) : WH l D base M pc ls (v2 :: v1 :: rest) h Q :=
  cs_Lm_172 ho hd hR hsp hw (fun h' r e => by obtain ⟨x, rfl, hp⟩ := e; exact k h' x hp)
theorem ml_Lm_175 : Cond.methodLink "LampMoths" 175 M_Ln_burnByThrees.1 ∈ lw_gt := gt_at 446 (by decide +kernel) rfl
theorem cv_Lm_175 {v1 : Value} {rest : List Value} {b : Nat} (hb : IsLane b) (ho : M.1.cls = "LampMoths") (hd : decode M.2.1 pc = .ok (.invokevirtual 175, 3)) (hR : okR0 M M_Ln_burnByThrees) {Q' : Hp → Option Value → Prop} (hsp : SP l D base M_Ln_burnByThrees (.ref b :: [v1]) h Q') (hw : (rest.map fun v => v.category).sum ≤ 8) (k : ∀ (h' : Hp) (r : Option Value), Q' h' r → WH l D base M (pc + 3) ls (r.toList ++ rest) h' Q) : WH l D base M pc ls (v1 :: .ref b :: rest) h Q :=
  wh_callV (b := b) (ci := 0) (As := [v1]) (rest := rest) hd k_Ln_burnByThrees hR (show Cond.methodLink M.1.cls 175 M_Ln_burnByThrees.1 ∈ lw_gt by rw [ho]; exact ml_Lm_175) ki_Ln_burnByThrees kz_Ln_burnByThrees (show SH[b]? = some (.inr (0, [(2, some (b + 1)), (2, some (b + 2)), (2, some (b + 3)), (2, some (b + 4)), (2, some (b + 5)), (2, some (b + 6)), (0, none), (0, none), (0, none), (0, none), (0, none), (2, some (b + 7))])) by rcases hb with rfl | rfl <;> rfl) rfl rfl hsp rfl rfl hw k
theorem cv_Lm_175_d {v1 : Value} {rest : List Value} {b : Nat} (hb : IsLane b) (ho : M.1.cls = "LampMoths") (hd : decode M.2.1 pc = .ok (.invokevirtual 175, 3)) (hR : okR0 M M_Ln_burnByThrees) {h2 : Hp} (hsp : SD l D base M_Ln_burnByThrees (.ref b :: [v1]) h none h2) (hw : (rest.map fun v => v.category).sum ≤ 8) (k : WH l D base M (pc + 3) ls rest h2 Q) : WH l D base M pc ls (v1 :: .ref b :: rest) h Q :=
  cv_Lm_175 hb ho hd hR hsp hw (fun h' r e => by obtain ⟨rfl, rfl⟩ := e; exact k)
theorem cv_Lm_175_v {v1 : Value} {rest : List Value} {b : Nat} (hb : IsLane b) (ho : M.1.cls = "LampMoths") (hd : decode M.2.1 pc = .ok (.invokevirtual 175, 3)) (hR : okR0 M M_Ln_burnByThrees) {P : Hp → Prop} (hsp : SV l D base M_Ln_burnByThrees (.ref b :: [v1]) h P) (hw : (rest.map fun v => v.category).sum ≤ 8) (k : ∀ h' : Hp, P h' → WH l D base M (pc + 3) ls rest h' Q) : WH l D base M pc ls (v1 :: .ref b :: rest) h Q :=
  cv_Lm_175 hb ho hd hR hsp hw (fun h' r e => by obtain ⟨rfl, hp⟩ := e; exact k h' hp)
theorem ml_Lm_179 : Cond.methodLink "LampMoths" 179 M_Ln_allRead.1 ∈ lw_gt := gt_at 450 (by decide +kernel) rfl
theorem cv_Lm_179 {rest : List Value} {b : Nat} (hb : IsLane b) (ho : M.1.cls = "LampMoths") (hd : decode M.2.1 pc = .ok (.invokevirtual 179, 3)) (hR : okR0 M M_Ln_allRead) {Q' : Hp → Option Value → Prop} (hsp : SP l D base M_Ln_allRead (.ref b :: []) h Q') (hw : (rest.map fun v => v.category).sum ≤ 8) (k : ∀ (h' : Hp) (r : Option Value), Q' h' r → WH l D base M (pc + 3) ls (r.toList ++ rest) h' Q) : WH l D base M pc ls (.ref b :: rest) h Q :=
  wh_callV (b := b) (ci := 0) (As := []) (rest := rest) hd k_Ln_allRead hR (show Cond.methodLink M.1.cls 179 M_Ln_allRead.1 ∈ lw_gt by rw [ho]; exact ml_Lm_179) ki_Ln_allRead kz_Ln_allRead (show SH[b]? = some (.inr (0, [(2, some (b + 1)), (2, some (b + 2)), (2, some (b + 3)), (2, some (b + 4)), (2, some (b + 5)), (2, some (b + 6)), (0, none), (0, none), (0, none), (0, none), (0, none), (2, some (b + 7))])) by rcases hb with rfl | rfl <;> rfl) rfl rfl hsp rfl rfl hw k
theorem cv_Lm_179_d {rest : List Value} {b : Nat} (hb : IsLane b) (ho : M.1.cls = "LampMoths") (hd : decode M.2.1 pc = .ok (.invokevirtual 179, 3)) (hR : okR0 M M_Ln_allRead) {h2 : Hp} {w : Value} (hsp : SD l D base M_Ln_allRead (.ref b :: []) h (some w) h2) (hw : (rest.map fun v => v.category).sum ≤ 8) (k : WH l D base M (pc + 3) ls (w :: rest) h2 Q) : WH l D base M pc ls (.ref b :: rest) h Q :=
  cv_Lm_179 hb ho hd hR hsp hw (fun h' r e => by obtain ⟨rfl, rfl⟩ := e; exact k)
theorem cv_Lm_179_i {rest : List Value} {b : Nat} (hb : IsLane b) (ho : M.1.cls = "LampMoths") (hd : decode M.2.1 pc = .ok (.invokevirtual 179, 3)) (hR : okR0 M M_Ln_allRead) {P : Hp → Int32 → Prop} (hsp : SI l D base M_Ln_allRead (.ref b :: []) h P) (hw : (rest.map fun v => v.category).sum ≤ 8) (k : ∀ (h' : Hp) (x : Int32), P h' x → WH l D base M (pc + 3) ls (.int x :: rest) h' Q) : WH l D base M pc ls (.ref b :: rest) h Q :=
  cv_Lm_179 hb ho hd hR hsp hw (fun h' r e => by obtain ⟨x, rfl, hp⟩ := e; exact k h' x hp)
theorem ml_Ln_99 : Cond.methodLink "LampMoths$Lane" 99 M_Ln_readers.1 ∈ lw_gt := gt_at 454 (by decide +kernel) rfl
theorem cv_Ln_99 {rest : List Value} {b : Nat} (hb : IsLane b) (ho : M.1.cls = "LampMoths$Lane") (hd : decode M.2.1 pc = .ok (.invokevirtual 99, 3)) (hR : okR0 M M_Ln_readers) {Q' : Hp → Option Value → Prop} (hsp : SP l D base M_Ln_readers (.ref b :: []) h Q') (hw : (rest.map fun v => v.category).sum ≤ 8) (k : ∀ (h' : Hp) (r : Option Value), Q' h' r → WH l D base M (pc + 3) ls (r.toList ++ rest) h' Q) : WH l D base M pc ls (.ref b :: rest) h Q :=
  wh_callV (b := b) (ci := 0) (As := []) (rest := rest) hd k_Ln_readers hR (show Cond.methodLink M.1.cls 99 M_Ln_readers.1 ∈ lw_gt by rw [ho]; exact ml_Ln_99) ki_Ln_readers kz_Ln_readers (show SH[b]? = some (.inr (0, [(2, some (b + 1)), (2, some (b + 2)), (2, some (b + 3)), (2, some (b + 4)), (2, some (b + 5)), (2, some (b + 6)), (0, none), (0, none), (0, none), (0, none), (0, none), (2, some (b + 7))])) by rcases hb with rfl | rfl <;> rfl) rfl rfl hsp rfl rfl hw k
theorem cv_Ln_99_d {rest : List Value} {b : Nat} (hb : IsLane b) (ho : M.1.cls = "LampMoths$Lane") (hd : decode M.2.1 pc = .ok (.invokevirtual 99, 3)) (hR : okR0 M M_Ln_readers) {h2 : Hp} {w : Value} (hsp : SD l D base M_Ln_readers (.ref b :: []) h (some w) h2) (hw : (rest.map fun v => v.category).sum ≤ 8) (k : WH l D base M (pc + 3) ls (w :: rest) h2 Q) : WH l D base M pc ls (.ref b :: rest) h Q :=
  cv_Ln_99 hb ho hd hR hsp hw (fun h' r e => by obtain ⟨rfl, rfl⟩ := e; exact k)
theorem cv_Ln_99_i {rest : List Value} {b : Nat} (hb : IsLane b) (ho : M.1.cls = "LampMoths$Lane") (hd : decode M.2.1 pc = .ok (.invokevirtual 99, 3)) (hR : okR0 M M_Ln_readers) {P : Hp → Int32 → Prop} (hsp : SI l D base M_Ln_readers (.ref b :: []) h P) (hw : (rest.map fun v => v.category).sum ≤ 8) (k : ∀ (h' : Hp) (x : Int32), P h' x → WH l D base M (pc + 3) ls (.int x :: rest) h' Q) : WH l D base M pc ls (.ref b :: rest) h Q :=
  cv_Ln_99 hb ho hd hR hsp hw (fun h' r e => by obtain ⟨x, rfl, hp⟩ := e; exact k h' x hp)
theorem ml_Lm_183 : Cond.methodLink "LampMoths" 183 M_Ln_burnsAsRow.1 ∈ lw_gt := gt_at 455 (by decide +kernel) rfl
theorem cv_Lm_183 {rest : List Value} {b : Nat} (hb : IsLane b) (ho : M.1.cls = "LampMoths") (hd : decode M.2.1 pc = .ok (.invokevirtual 183, 3)) (hR : okR0 M M_Ln_burnsAsRow) {Q' : Hp → Option Value → Prop} (hsp : SP l D base M_Ln_burnsAsRow (.ref b :: []) h Q') (hw : (rest.map fun v => v.category).sum ≤ 8) (k : ∀ (h' : Hp) (r : Option Value), Q' h' r → WH l D base M (pc + 3) ls (r.toList ++ rest) h' Q) : WH l D base M pc ls (.ref b :: rest) h Q :=
  wh_callV (b := b) (ci := 0) (As := []) (rest := rest) hd k_Ln_burnsAsRow hR (show Cond.methodLink M.1.cls 183 M_Ln_burnsAsRow.1 ∈ lw_gt by rw [ho]; exact ml_Lm_183) ki_Ln_burnsAsRow kz_Ln_burnsAsRow (show SH[b]? = some (.inr (0, [(2, some (b + 1)), (2, some (b + 2)), (2, some (b + 3)), (2, some (b + 4)), (2, some (b + 5)), (2, some (b + 6)), (0, none), (0, none), (0, none), (0, none), (0, none), (2, some (b + 7))])) by rcases hb with rfl | rfl <;> rfl) rfl rfl hsp rfl rfl hw k
theorem cv_Lm_183_d {rest : List Value} {b : Nat} (hb : IsLane b) (ho : M.1.cls = "LampMoths") (hd : decode M.2.1 pc = .ok (.invokevirtual 183, 3)) (hR : okR0 M M_Ln_burnsAsRow) {h2 : Hp} {w : Value} (hsp : SD l D base M_Ln_burnsAsRow (.ref b :: []) h (some w) h2) (hw : (rest.map fun v => v.category).sum ≤ 8) (k : WH l D base M (pc + 3) ls (w :: rest) h2 Q) : WH l D base M pc ls (.ref b :: rest) h Q :=
  cv_Lm_183 hb ho hd hR hsp hw (fun h' r e => by obtain ⟨rfl, rfl⟩ := e; exact k)
theorem cv_Lm_183_i {rest : List Value} {b : Nat} (hb : IsLane b) (ho : M.1.cls = "LampMoths") (hd : decode M.2.1 pc = .ok (.invokevirtual 183, 3)) (hR : okR0 M M_Ln_burnsAsRow) {P : Hp → Int32 → Prop} (hsp : SI l D base M_Ln_burnsAsRow (.ref b :: []) h P) (hw : (rest.map fun v => v.category).sum ≤ 8) (k : ∀ (h' : Hp) (x : Int32), P h' x → WH l D base M (pc + 3) ls (.int x :: rest) h' Q) : WH l D base M pc ls (.ref b :: rest) h Q :=
  cv_Lm_183 hb ho hd hR hsp hw (fun h' r e => by obtain ⟨x, rfl, hp⟩ := e; exact k h' x hp)
theorem ml_Lm_186 : Cond.methodLink "LampMoths" 186 M_Ln_isFree.1 ∈ lw_gt := gt_at 463 (by decide +kernel) rfl
theorem cv_Lm_186 {v1 : Value} {rest : List Value} {b : Nat} (hb : IsLane b) (ho : M.1.cls = "LampMoths") (hd : decode M.2.1 pc = .ok (.invokevirtual 186, 3)) (hR : okR0 M M_Ln_isFree) {Q' : Hp → Option Value → Prop} (hsp : SP l D base M_Ln_isFree (.ref b :: [v1]) h Q') (hw : (rest.map fun v => v.category).sum ≤ 8) (k : ∀ (h' : Hp) (r : Option Value), Q' h' r → WH l D base M (pc + 3) ls (r.toList ++ rest) h' Q) : WH l D base M pc ls (v1 :: .ref b :: rest) h Q :=
  wh_callV (b := b) (ci := 0) (As := [v1]) (rest := rest) hd k_Ln_isFree hR (show Cond.methodLink M.1.cls 186 M_Ln_isFree.1 ∈ lw_gt by rw [ho]; exact ml_Lm_186) ki_Ln_isFree kz_Ln_isFree (show SH[b]? = some (.inr (0, [(2, some (b + 1)), (2, some (b + 2)), (2, some (b + 3)), (2, some (b + 4)), (2, some (b + 5)), (2, some (b + 6)), (0, none), (0, none), (0, none), (0, none), (0, none), (2, some (b + 7))])) by rcases hb with rfl | rfl <;> rfl) rfl rfl hsp rfl rfl hw k
theorem cv_Lm_186_d {v1 : Value} {rest : List Value} {b : Nat} (hb : IsLane b) (ho : M.1.cls = "LampMoths") (hd : decode M.2.1 pc = .ok (.invokevirtual 186, 3)) (hR : okR0 M M_Ln_isFree) {h2 : Hp} {w : Value} (hsp : SD l D base M_Ln_isFree (.ref b :: [v1]) h (some w) h2) (hw : (rest.map fun v => v.category).sum ≤ 8) (k : WH l D base M (pc + 3) ls (w :: rest) h2 Q) : WH l D base M pc ls (v1 :: .ref b :: rest) h Q :=
  cv_Lm_186 hb ho hd hR hsp hw (fun h' r e => by obtain ⟨rfl, rfl⟩ := e; exact k)
theorem cv_Lm_186_i {v1 : Value} {rest : List Value} {b : Nat} (hb : IsLane b) (ho : M.1.cls = "LampMoths") (hd : decode M.2.1 pc = .ok (.invokevirtual 186, 3)) (hR : okR0 M M_Ln_isFree) {P : Hp → Int32 → Prop} (hsp : SI l D base M_Ln_isFree (.ref b :: [v1]) h P) (hw : (rest.map fun v => v.category).sum ≤ 8) (k : ∀ (h' : Hp) (x : Int32), P h' x → WH l D base M (pc + 3) ls (.int x :: rest) h' Q) : WH l D base M pc ls (v1 :: .ref b :: rest) h Q :=
  cv_Lm_186 hb ho hd hR hsp hw (fun h' r e => by obtain ⟨x, rfl, hp⟩ := e; exact k h' x hp)
theorem ml_Lm_189 : Cond.methodLink "LampMoths" 189 M_Lm_didOnTrial.1 ∈ lw_gt := gt_at 468 (by decide +kernel) rfl
theorem cv_Lm_189 {v1 v2 : Value} {rest : List Value} (ho : M.1.cls = "LampMoths") (hd : decode M.2.1 pc = .ok (.invokevirtual 189, 3)) (hR : okR0 M M_Lm_didOnTrial) {Q' : Hp → Option Value → Prop} (hsp : SP l D base M_Lm_didOnTrial (.ref 0 :: [v1, v2]) h Q') (hw : (rest.map fun v => v.category).sum ≤ 8) (k : ∀ (h' : Hp) (r : Option Value), Q' h' r → WH l D base M (pc + 3) ls (r.toList ++ rest) h' Q) : WH l D base M pc ls (v2 :: v1 :: .ref 0 :: rest) h Q :=
  wh_callV (b := 0) (ci := 2) (As := [v1, v2]) (rest := rest) hd k_Lm_didOnTrial hR (show Cond.methodLink M.1.cls 189 M_Lm_didOnTrial.1 ∈ lw_gt by rw [ho]; exact ml_Lm_189) ki_Lm_didOnTrial kz_Lm_didOnTrial rfl rfl rfl hsp rfl rfl hw k
theorem cv_Lm_189_d {v1 v2 : Value} {rest : List Value} (ho : M.1.cls = "LampMoths") (hd : decode M.2.1 pc = .ok (.invokevirtual 189, 3)) (hR : okR0 M M_Lm_didOnTrial) {h2 : Hp} {w : Value} (hsp : SD l D base M_Lm_didOnTrial (.ref 0 :: [v1, v2]) h (some w) h2) (hw : (rest.map fun v => v.category).sum ≤ 8) (k : WH l D base M (pc + 3) ls (w :: rest) h2 Q) : WH l D base M pc ls (v2 :: v1 :: .ref 0 :: rest) h Q :=
  cv_Lm_189 ho hd hR hsp hw (fun h' r e => by obtain ⟨rfl, rfl⟩ := e; exact k)
theorem cv_Lm_189_i {v1 v2 : Value} {rest : List Value} (ho : M.1.cls = "LampMoths") (hd : decode M.2.1 pc = .ok (.invokevirtual 189, 3)) (hR : okR0 M M_Lm_didOnTrial) {P : Hp → Int32 → Prop} (hsp : SI l D base M_Lm_didOnTrial (.ref 0 :: [v1, v2]) h P) (hw : (rest.map fun v => v.category).sum ≤ 8) (k : ∀ (h' : Hp) (x : Int32), P h' x → WH l D base M (pc + 3) ls (.int x :: rest) h' Q) : WH l D base M pc ls (v2 :: v1 :: .ref 0 :: rest) h Q :=
  cv_Lm_189 ho hd hR hsp hw (fun h' r e => by obtain ⟨x, rfl, hp⟩ := e; exact k h' x hp)
theorem ml_Lm_252 : Cond.methodLink "LampMoths" 252 M_Lm_blewOnTrial.1 ∈ lw_gt := gt_at 472 (by decide +kernel) rfl
theorem cv_Lm_252 {v1 : Value} {rest : List Value} (ho : M.1.cls = "LampMoths") (hd : decode M.2.1 pc = .ok (.invokevirtual 252, 3)) (hR : okR0 M M_Lm_blewOnTrial) {Q' : Hp → Option Value → Prop} (hsp : SP l D base M_Lm_blewOnTrial (.ref 0 :: [v1]) h Q') (hw : (rest.map fun v => v.category).sum ≤ 8) (k : ∀ (h' : Hp) (r : Option Value), Q' h' r → WH l D base M (pc + 3) ls (r.toList ++ rest) h' Q) : WH l D base M pc ls (v1 :: .ref 0 :: rest) h Q :=
  wh_callV (b := 0) (ci := 2) (As := [v1]) (rest := rest) hd k_Lm_blewOnTrial hR (show Cond.methodLink M.1.cls 252 M_Lm_blewOnTrial.1 ∈ lw_gt by rw [ho]; exact ml_Lm_252) ki_Lm_blewOnTrial kz_Lm_blewOnTrial rfl rfl rfl hsp rfl rfl hw k
theorem cv_Lm_252_d {v1 : Value} {rest : List Value} (ho : M.1.cls = "LampMoths") (hd : decode M.2.1 pc = .ok (.invokevirtual 252, 3)) (hR : okR0 M M_Lm_blewOnTrial) {h2 : Hp} {w : Value} (hsp : SD l D base M_Lm_blewOnTrial (.ref 0 :: [v1]) h (some w) h2) (hw : (rest.map fun v => v.category).sum ≤ 8) (k : WH l D base M (pc + 3) ls (w :: rest) h2 Q) : WH l D base M pc ls (v1 :: .ref 0 :: rest) h Q :=
  cv_Lm_252 ho hd hR hsp hw (fun h' r e => by obtain ⟨rfl, rfl⟩ := e; exact k)
theorem cv_Lm_252_i {v1 : Value} {rest : List Value} (ho : M.1.cls = "LampMoths") (hd : decode M.2.1 pc = .ok (.invokevirtual 252, 3)) (hR : okR0 M M_Lm_blewOnTrial) {P : Hp → Int32 → Prop} (hsp : SI l D base M_Lm_blewOnTrial (.ref 0 :: [v1]) h P) (hw : (rest.map fun v => v.category).sum ≤ 8) (k : ∀ (h' : Hp) (x : Int32), P h' x → WH l D base M (pc + 3) ls (.int x :: rest) h' Q) : WH l D base M pc ls (v1 :: .ref 0 :: rest) h Q :=
  cv_Lm_252 ho hd hR hsp hw (fun h' r e => by obtain ⟨x, rfl, hp⟩ := e; exact k h' x hp)
theorem ml_Lm_255 : Cond.methodLink "LampMoths" 255 M_Lm_movedOnTrial.1 ∈ lw_gt := gt_at 476 (by decide +kernel) rfl
theorem cv_Lm_255 {v1 : Value} {rest : List Value} (ho : M.1.cls = "LampMoths") (hd : decode M.2.1 pc = .ok (.invokevirtual 255, 3)) (hR : okR0 M M_Lm_movedOnTrial) {Q' : Hp → Option Value → Prop} (hsp : SP l D base M_Lm_movedOnTrial (.ref 0 :: [v1]) h Q') (hw : (rest.map fun v => v.category).sum ≤ 8) (k : ∀ (h' : Hp) (r : Option Value), Q' h' r → WH l D base M (pc + 3) ls (r.toList ++ rest) h' Q) : WH l D base M pc ls (v1 :: .ref 0 :: rest) h Q :=
  wh_callV (b := 0) (ci := 2) (As := [v1]) (rest := rest) hd k_Lm_movedOnTrial hR (show Cond.methodLink M.1.cls 255 M_Lm_movedOnTrial.1 ∈ lw_gt by rw [ho]; exact ml_Lm_255) ki_Lm_movedOnTrial kz_Lm_movedOnTrial rfl rfl rfl hsp rfl rfl hw k
theorem cv_Lm_255_d {v1 : Value} {rest : List Value} (ho : M.1.cls = "LampMoths") (hd : decode M.2.1 pc = .ok (.invokevirtual 255, 3)) (hR : okR0 M M_Lm_movedOnTrial) {h2 : Hp} {w : Value} (hsp : SD l D base M_Lm_movedOnTrial (.ref 0 :: [v1]) h (some w) h2) (hw : (rest.map fun v => v.category).sum ≤ 8) (k : WH l D base M (pc + 3) ls (w :: rest) h2 Q) : WH l D base M pc ls (v1 :: .ref 0 :: rest) h Q :=
  cv_Lm_255 ho hd hR hsp hw (fun h' r e => by obtain ⟨rfl, rfl⟩ := e; exact k)
theorem cv_Lm_255_i {v1 : Value} {rest : List Value} (ho : M.1.cls = "LampMoths") (hd : decode M.2.1 pc = .ok (.invokevirtual 255, 3)) (hR : okR0 M M_Lm_movedOnTrial) {P : Hp → Int32 → Prop} (hsp : SI l D base M_Lm_movedOnTrial (.ref 0 :: [v1]) h P) (hw : (rest.map fun v => v.category).sum ≤ 8) (k : ∀ (h' : Hp) (x : Int32), P h' x → WH l D base M (pc + 3) ls (.int x :: rest) h' Q) : WH l D base M pc ls (v1 :: .ref 0 :: rest) h Q :=
  cv_Lm_255 ho hd hR hsp hw (fun h' r e => by obtain ⟨x, rfl, hp⟩ := e; exact k h' x hp)
theorem ml_Lm_193 : Cond.methodLink "LampMoths" 193 M_Lm_reckonGroups.1 ∈ lw_gt := gt_at 484 (by decide +kernel) rfl
theorem cv_Lm_193 {rest : List Value} (ho : M.1.cls = "LampMoths") (hd : decode M.2.1 pc = .ok (.invokevirtual 193, 3)) (hR : okR0 M M_Lm_reckonGroups) {Q' : Hp → Option Value → Prop} (hsp : SP l D base M_Lm_reckonGroups (.ref 0 :: []) h Q') (hw : (rest.map fun v => v.category).sum ≤ 8) (k : ∀ (h' : Hp) (r : Option Value), Q' h' r → WH l D base M (pc + 3) ls (r.toList ++ rest) h' Q) : WH l D base M pc ls (.ref 0 :: rest) h Q :=
  wh_callV (b := 0) (ci := 2) (As := []) (rest := rest) hd k_Lm_reckonGroups hR (show Cond.methodLink M.1.cls 193 M_Lm_reckonGroups.1 ∈ lw_gt by rw [ho]; exact ml_Lm_193) ki_Lm_reckonGroups kz_Lm_reckonGroups rfl rfl rfl hsp rfl rfl hw k
theorem cv_Lm_193_d {rest : List Value} (ho : M.1.cls = "LampMoths") (hd : decode M.2.1 pc = .ok (.invokevirtual 193, 3)) (hR : okR0 M M_Lm_reckonGroups) {h2 : Hp} (hsp : SD l D base M_Lm_reckonGroups (.ref 0 :: []) h none h2) (hw : (rest.map fun v => v.category).sum ≤ 8) (k : WH l D base M (pc + 3) ls rest h2 Q) : WH l D base M pc ls (.ref 0 :: rest) h Q :=
  cv_Lm_193 ho hd hR hsp hw (fun h' r e => by obtain ⟨rfl, rfl⟩ := e; exact k)
theorem cv_Lm_193_v {rest : List Value} (ho : M.1.cls = "LampMoths") (hd : decode M.2.1 pc = .ok (.invokevirtual 193, 3)) (hR : okR0 M M_Lm_reckonGroups) {P : Hp → Prop} (hsp : SV l D base M_Lm_reckonGroups (.ref 0 :: []) h P) (hw : (rest.map fun v => v.category).sum ≤ 8) (k : ∀ h' : Hp, P h' → WH l D base M (pc + 3) ls rest h' Q) : WH l D base M pc ls (.ref 0 :: rest) h Q :=
  cv_Lm_193 ho hd hR hsp hw (fun h' r e => by obtain ⟨rfl, hp⟩ := e; exact k h' hp)
theorem ml_Lm_196 : Cond.methodLink "LampMoths" 196 M_Ji_bitCount.1 ∈ lw_gt := gt_at 488 (by decide +kernel) rfl
theorem cs_Lm_196 {v1 : Value} {rest : List Value} (ho : M.1.cls = "LampMoths") (hd : decode M.2.1 pc = .ok (.invokestatic 196, 3)) (hR : okR0 M M_Ji_bitCount) {Q' : Hp → Option Value → Prop} (hsp : SP l D base M_Ji_bitCount [v1] h Q') (hw : (rest.map fun v => v.category).sum ≤ 8) (k : ∀ (h' : Hp) (r : Option Value), Q' h' r → WH l D base M (pc + 3) ls (r.toList ++ rest) h' Q) : WH l D base M pc ls (v1 :: rest) h Q :=
  wh_callS (As := [v1]) (rest := rest) hd k_Ji_bitCount hR (show Cond.methodLink M.1.cls 196 M_Ji_bitCount.1 ∈ lw_gt by rw [ho]; exact ml_Lm_196) ks_Ji_bitCount hsp rfl rfl hw k
theorem cs_Lm_196_d {v1 : Value} {rest : List Value} (ho : M.1.cls = "LampMoths") (hd : decode M.2.1 pc = .ok (.invokestatic 196, 3)) (hR : okR0 M M_Ji_bitCount) {h2 : Hp} {w : Value} (hsp : SD l D base M_Ji_bitCount [v1] h (some w) h2) (hw : (rest.map fun v => v.category).sum ≤ 8) (k : WH l D base M (pc + 3) ls (w :: rest) h2 Q) : WH l D base M pc ls (v1 :: rest) h Q :=
  cs_Lm_196 ho hd hR hsp hw (fun h' r e => by obtain ⟨rfl, rfl⟩ := e; exact k)
theorem cs_Lm_196_i {v1 : Value} {rest : List Value} (ho : M.1.cls = "LampMoths") (hd : decode M.2.1 pc = .ok (.invokestatic 196, 3)) (hR : okR0 M M_Ji_bitCount) {P : Hp → Int32 → Prop} (hsp : SI l D base M_Ji_bitCount [v1] h P) (hw : (rest.map fun v => v.category).sum ≤ 8) (k : ∀ (h' : Hp) (x : Int32), P h' x → WH l D base M (pc + 3) ls (.int x :: rest) h' Q) : WH l D base M pc ls (v1 :: rest) h Q :=
  cs_Lm_196 ho hd hR hsp hw (fun h' r e => by obtain ⟨x, rfl, hp⟩ := e; exact k h' x hp)
theorem ml_Lm_201 : Cond.methodLink "LampMoths" 201 M_Lm_ordersWith.1 ∈ lw_gt := gt_at 489 (by decide +kernel) rfl
theorem cv_Lm_201 {v1 : Value} {rest : List Value} (ho : M.1.cls = "LampMoths") (hd : decode M.2.1 pc = .ok (.invokevirtual 201, 3)) (hR : okR0 M M_Lm_ordersWith) {Q' : Hp → Option Value → Prop} (hsp : SP l D base M_Lm_ordersWith (.ref 0 :: [v1]) h Q') (hw : (rest.map fun v => v.category).sum ≤ 8) (k : ∀ (h' : Hp) (r : Option Value), Q' h' r → WH l D base M (pc + 3) ls (r.toList ++ rest) h' Q) : WH l D base M pc ls (v1 :: .ref 0 :: rest) h Q :=
  wh_callV (b := 0) (ci := 2) (As := [v1]) (rest := rest) hd k_Lm_ordersWith hR (show Cond.methodLink M.1.cls 201 M_Lm_ordersWith.1 ∈ lw_gt by rw [ho]; exact ml_Lm_201) ki_Lm_ordersWith kz_Lm_ordersWith rfl rfl rfl hsp rfl rfl hw k
theorem cv_Lm_201_d {v1 : Value} {rest : List Value} (ho : M.1.cls = "LampMoths") (hd : decode M.2.1 pc = .ok (.invokevirtual 201, 3)) (hR : okR0 M M_Lm_ordersWith) {h2 : Hp} {w : Value} (hsp : SD l D base M_Lm_ordersWith (.ref 0 :: [v1]) h (some w) h2) (hw : (rest.map fun v => v.category).sum ≤ 8) (k : WH l D base M (pc + 3) ls (w :: rest) h2 Q) : WH l D base M pc ls (v1 :: .ref 0 :: rest) h Q :=
  cv_Lm_201 ho hd hR hsp hw (fun h' r e => by obtain ⟨rfl, rfl⟩ := e; exact k)
theorem cv_Lm_201_i {v1 : Value} {rest : List Value} (ho : M.1.cls = "LampMoths") (hd : decode M.2.1 pc = .ok (.invokevirtual 201, 3)) (hR : okR0 M M_Lm_ordersWith) {P : Hp → Int32 → Prop} (hsp : SI l D base M_Lm_ordersWith (.ref 0 :: [v1]) h P) (hw : (rest.map fun v => v.category).sum ≤ 8) (k : ∀ (h' : Hp) (x : Int32), P h' x → WH l D base M (pc + 3) ls (.int x :: rest) h' Q) : WH l D base M pc ls (v1 :: .ref 0 :: rest) h Q :=
  cv_Lm_201 ho hd hR hsp hw (fun h' r e => by obtain ⟨x, rfl, hp⟩ := e; exact k h' x hp)
theorem ml_Lm_204 : Cond.methodLink "LampMoths" 204 M_Lm_factorial.1 ∈ lw_gt := gt_at 493 (by decide +kernel) rfl
theorem cs_Lm_204 {v1 : Value} {rest : List Value} (ho : M.1.cls = "LampMoths") (hd : decode M.2.1 pc = .ok (.invokestatic 204, 3)) (hR : okR0 M M_Lm_factorial) {Q' : Hp → Option Value → Prop} (hsp : SP l D base M_Lm_factorial [v1] h Q') (hw : (rest.map fun v => v.category).sum ≤ 8) (k : ∀ (h' : Hp) (r : Option Value), Q' h' r → WH l D base M (pc + 3) ls (r.toList ++ rest) h' Q) : WH l D base M pc ls (v1 :: rest) h Q :=
  wh_callS (As := [v1]) (rest := rest) hd k_Lm_factorial hR (show Cond.methodLink M.1.cls 204 M_Lm_factorial.1 ∈ lw_gt by rw [ho]; exact ml_Lm_204) ks_Lm_factorial hsp rfl rfl hw k
theorem cs_Lm_204_d {v1 : Value} {rest : List Value} (ho : M.1.cls = "LampMoths") (hd : decode M.2.1 pc = .ok (.invokestatic 204, 3)) (hR : okR0 M M_Lm_factorial) {h2 : Hp} {w : Value} (hsp : SD l D base M_Lm_factorial [v1] h (some w) h2) (hw : (rest.map fun v => v.category).sum ≤ 8) (k : WH l D base M (pc + 3) ls (w :: rest) h2 Q) : WH l D base M pc ls (v1 :: rest) h Q :=
  cs_Lm_204 ho hd hR hsp hw (fun h' r e => by obtain ⟨rfl, rfl⟩ := e; exact k)
theorem cs_Lm_204_i {v1 : Value} {rest : List Value} (ho : M.1.cls = "LampMoths") (hd : decode M.2.1 pc = .ok (.invokestatic 204, 3)) (hR : okR0 M M_Lm_factorial) {P : Hp → Int32 → Prop} (hsp : SI l D base M_Lm_factorial [v1] h P) (hw : (rest.map fun v => v.category).sum ≤ 8) (k : ∀ (h' : Hp) (x : Int32), P h' x → WH l D base M (pc + 3) ls (.int x :: rest) h' Q) : WH l D base M pc ls (v1 :: rest) h Q :=
  cs_Lm_204 ho hd hR hsp hw (fun h' r e => by obtain ⟨x, rfl, hp⟩ := e; exact k h' x hp)
theorem ml_Lm_207 : Cond.methodLink "LampMoths" 207 M_Lm_told.1 ∈ lw_gt := gt_at 496 (by decide +kernel) rfl
theorem cs_Lm_207 {v1 v2 v3 : Value} {rest : List Value} (ho : M.1.cls = "LampMoths") (hd : decode M.2.1 pc = .ok (.invokestatic 207, 3)) (hR : okR0 M M_Lm_told) {Q' : Hp → Option Value → Prop} (hsp : SP l D base M_Lm_told [v1, v2, v3] h Q') (hw : (rest.map fun v => v.category).sum ≤ 8) (k : ∀ (h' : Hp) (r : Option Value), Q' h' r → WH l D base M (pc + 3) ls (r.toList ++ rest) h' Q) : WH l D base M pc ls (v3 :: v2 :: v1 :: rest) h Q :=
  wh_callS (As := [v1, v2, v3]) (rest := rest) hd k_Lm_told hR (show Cond.methodLink M.1.cls 207 M_Lm_told.1 ∈ lw_gt by rw [ho]; exact ml_Lm_207) ks_Lm_told hsp rfl rfl hw k
theorem cs_Lm_207_d {v1 v2 v3 : Value} {rest : List Value} (ho : M.1.cls = "LampMoths") (hd : decode M.2.1 pc = .ok (.invokestatic 207, 3)) (hR : okR0 M M_Lm_told) {h2 : Hp} {w : Value} (hsp : SD l D base M_Lm_told [v1, v2, v3] h (some w) h2) (hw : (rest.map fun v => v.category).sum ≤ 8) (k : WH l D base M (pc + 3) ls (w :: rest) h2 Q) : WH l D base M pc ls (v3 :: v2 :: v1 :: rest) h Q :=
  cs_Lm_207 ho hd hR hsp hw (fun h' r e => by obtain ⟨rfl, rfl⟩ := e; exact k)
theorem cs_Lm_207_i {v1 v2 v3 : Value} {rest : List Value} (ho : M.1.cls = "LampMoths") (hd : decode M.2.1 pc = .ok (.invokestatic 207, 3)) (hR : okR0 M M_Lm_told) {P : Hp → Int32 → Prop} (hsp : SI l D base M_Lm_told [v1, v2, v3] h P) (hw : (rest.map fun v => v.category).sum ≤ 8) (k : ∀ (h' : Hp) (x : Int32), P h' x → WH l D base M (pc + 3) ls (.int x :: rest) h' Q) : WH l D base M pc ls (v3 :: v2 :: v1 :: rest) h Q :=
  cs_Lm_207 ho hd hR hsp hw (fun h' r e => by obtain ⟨x, rfl, hp⟩ := e; exact k h' x hp)
theorem ml_Lm_258 : Cond.methodLink "LampMoths" 258 M_Jm_abs.1 ∈ lw_gt := gt_at 499 (by decide +kernel) rfl
theorem cs_Lm_258 {v1 : Value} {rest : List Value} (ho : M.1.cls = "LampMoths") (hd : decode M.2.1 pc = .ok (.invokestatic 258, 3)) (hR : okR0 M M_Jm_abs) {Q' : Hp → Option Value → Prop} (hsp : SP l D base M_Jm_abs [v1] h Q') (hw : (rest.map fun v => v.category).sum ≤ 8) (k : ∀ (h' : Hp) (r : Option Value), Q' h' r → WH l D base M (pc + 3) ls (r.toList ++ rest) h' Q) : WH l D base M pc ls (v1 :: rest) h Q :=
  wh_callS (As := [v1]) (rest := rest) hd k_Jm_abs hR (show Cond.methodLink M.1.cls 258 M_Jm_abs.1 ∈ lw_gt by rw [ho]; exact ml_Lm_258) ks_Jm_abs hsp rfl rfl hw k
theorem cs_Lm_258_d {v1 : Value} {rest : List Value} (ho : M.1.cls = "LampMoths") (hd : decode M.2.1 pc = .ok (.invokestatic 258, 3)) (hR : okR0 M M_Jm_abs) {h2 : Hp} {w : Value} (hsp : SD l D base M_Jm_abs [v1] h (some w) h2) (hw : (rest.map fun v => v.category).sum ≤ 8) (k : WH l D base M (pc + 3) ls (w :: rest) h2 Q) : WH l D base M pc ls (v1 :: rest) h Q :=
  cs_Lm_258 ho hd hR hsp hw (fun h' r e => by obtain ⟨rfl, rfl⟩ := e; exact k)
theorem cs_Lm_258_i {v1 : Value} {rest : List Value} (ho : M.1.cls = "LampMoths") (hd : decode M.2.1 pc = .ok (.invokestatic 258, 3)) (hR : okR0 M M_Jm_abs) {P : Hp → Int32 → Prop} (hsp : SI l D base M_Jm_abs [v1] h P) (hw : (rest.map fun v => v.category).sum ≤ 8) (k : ∀ (h' : Hp) (x : Int32), P h' x → WH l D base M (pc + 3) ls (.int x :: rest) h' Q) : WH l D base M pc ls (v1 :: rest) h Q :=
  cs_Lm_258 ho hd hR hsp hw (fun h' r e => by obtain ⟨x, rfl, hp⟩ := e; exact k h' x hp)
theorem ml_Lm_263 : Cond.methodLink "LampMoths" 263 M_Lm_commonDivisor.1 ∈ lw_gt := gt_at 500 (by decide +kernel) rfl
theorem cs_Lm_263 {v1 v2 : Value} {rest : List Value} (ho : M.1.cls = "LampMoths") (hd : decode M.2.1 pc = .ok (.invokestatic 263, 3)) (hR : okR0 M M_Lm_commonDivisor) {Q' : Hp → Option Value → Prop} (hsp : SP l D base M_Lm_commonDivisor [v1, v2] h Q') (hw : (rest.map fun v => v.category).sum ≤ 8) (k : ∀ (h' : Hp) (r : Option Value), Q' h' r → WH l D base M (pc + 3) ls (r.toList ++ rest) h' Q) : WH l D base M pc ls (v2 :: v1 :: rest) h Q :=
  wh_callS (As := [v1, v2]) (rest := rest) hd k_Lm_commonDivisor hR (show Cond.methodLink M.1.cls 263 M_Lm_commonDivisor.1 ∈ lw_gt by rw [ho]; exact ml_Lm_263) ks_Lm_commonDivisor hsp rfl rfl hw k
theorem cs_Lm_263_d {v1 v2 : Value} {rest : List Value} (ho : M.1.cls = "LampMoths") (hd : decode M.2.1 pc = .ok (.invokestatic 263, 3)) (hR : okR0 M M_Lm_commonDivisor) {h2 : Hp} {w : Value} (hsp : SD l D base M_Lm_commonDivisor [v1, v2] h (some w) h2) (hw : (rest.map fun v => v.category).sum ≤ 8) (k : WH l D base M (pc + 3) ls (w :: rest) h2 Q) : WH l D base M pc ls (v2 :: v1 :: rest) h Q :=
  cs_Lm_263 ho hd hR hsp hw (fun h' r e => by obtain ⟨rfl, rfl⟩ := e; exact k)
theorem cs_Lm_263_i {v1 v2 : Value} {rest : List Value} (ho : M.1.cls = "LampMoths") (hd : decode M.2.1 pc = .ok (.invokestatic 263, 3)) (hR : okR0 M M_Lm_commonDivisor) {P : Hp → Int32 → Prop} (hsp : SI l D base M_Lm_commonDivisor [v1, v2] h P) (hw : (rest.map fun v => v.category).sum ≤ 8) (k : ∀ (h' : Hp) (x : Int32), P h' x → WH l D base M (pc + 3) ls (.int x :: rest) h' Q) : WH l D base M pc ls (v2 :: v1 :: rest) h Q :=
  cs_Lm_263 ho hd hR hsp hw (fun h' r e => by obtain ⟨x, rfl, hp⟩ := e; exact k h' x hp)
theorem ml_Lm_211 : Cond.methodLink "LampMoths" 211 M_Lm_trialFitsCounted.1 ∈ lw_gt := gt_at 515 (by decide +kernel) rfl
theorem cv_Lm_211 {rest : List Value} (ho : M.1.cls = "LampMoths") (hd : decode M.2.1 pc = .ok (.invokevirtual 211, 3)) (hR : okR0 M M_Lm_trialFitsCounted) {Q' : Hp → Option Value → Prop} (hsp : SP l D base M_Lm_trialFitsCounted (.ref 0 :: []) h Q') (hw : (rest.map fun v => v.category).sum ≤ 8) (k : ∀ (h' : Hp) (r : Option Value), Q' h' r → WH l D base M (pc + 3) ls (r.toList ++ rest) h' Q) : WH l D base M pc ls (.ref 0 :: rest) h Q :=
  wh_callV (b := 0) (ci := 2) (As := []) (rest := rest) hd k_Lm_trialFitsCounted hR (show Cond.methodLink M.1.cls 211 M_Lm_trialFitsCounted.1 ∈ lw_gt by rw [ho]; exact ml_Lm_211) ki_Lm_trialFitsCounted kz_Lm_trialFitsCounted rfl rfl rfl hsp rfl rfl hw k
theorem cv_Lm_211_d {rest : List Value} (ho : M.1.cls = "LampMoths") (hd : decode M.2.1 pc = .ok (.invokevirtual 211, 3)) (hR : okR0 M M_Lm_trialFitsCounted) {h2 : Hp} {w : Value} (hsp : SD l D base M_Lm_trialFitsCounted (.ref 0 :: []) h (some w) h2) (hw : (rest.map fun v => v.category).sum ≤ 8) (k : WH l D base M (pc + 3) ls (w :: rest) h2 Q) : WH l D base M pc ls (.ref 0 :: rest) h Q :=
  cv_Lm_211 ho hd hR hsp hw (fun h' r e => by obtain ⟨rfl, rfl⟩ := e; exact k)
theorem cv_Lm_211_i {rest : List Value} (ho : M.1.cls = "LampMoths") (hd : decode M.2.1 pc = .ok (.invokevirtual 211, 3)) (hR : okR0 M M_Lm_trialFitsCounted) {P : Hp → Int32 → Prop} (hsp : SI l D base M_Lm_trialFitsCounted (.ref 0 :: []) h P) (hw : (rest.map fun v => v.category).sum ≤ 8) (k : ∀ (h' : Hp) (x : Int32), P h' x → WH l D base M (pc + 3) ls (.int x :: rest) h' Q) : WH l D base M pc ls (.ref 0 :: rest) h Q :=
  cv_Lm_211 ho hd hR hsp hw (fun h' r e => by obtain ⟨x, rfl, hp⟩ := e; exact k h' x hp)
theorem ml_Lm_214 : Cond.methodLink "LampMoths" 214 M_Lm_gain.1 ∈ lw_gt := gt_at 523 (by decide +kernel) rfl
theorem cv_Lm_214 {v1 v2 v3 v4 : Value} {rest : List Value} (ho : M.1.cls = "LampMoths") (hd : decode M.2.1 pc = .ok (.invokevirtual 214, 3)) (hR : okR0 M M_Lm_gain) {Q' : Hp → Option Value → Prop} (hsp : SP l D base M_Lm_gain (.ref 0 :: [v1, v2, v3, v4]) h Q') (hw : (rest.map fun v => v.category).sum ≤ 8) (k : ∀ (h' : Hp) (r : Option Value), Q' h' r → WH l D base M (pc + 3) ls (r.toList ++ rest) h' Q) : WH l D base M pc ls (v4 :: v3 :: v2 :: v1 :: .ref 0 :: rest) h Q :=
  wh_callV (b := 0) (ci := 2) (As := [v1, v2, v3, v4]) (rest := rest) hd k_Lm_gain hR (show Cond.methodLink M.1.cls 214 M_Lm_gain.1 ∈ lw_gt by rw [ho]; exact ml_Lm_214) ki_Lm_gain kz_Lm_gain rfl rfl rfl hsp rfl rfl hw k
theorem cv_Lm_214_d {v1 v2 v3 v4 : Value} {rest : List Value} (ho : M.1.cls = "LampMoths") (hd : decode M.2.1 pc = .ok (.invokevirtual 214, 3)) (hR : okR0 M M_Lm_gain) {h2 : Hp} {w : Value} (hsp : SD l D base M_Lm_gain (.ref 0 :: [v1, v2, v3, v4]) h (some w) h2) (hw : (rest.map fun v => v.category).sum ≤ 8) (k : WH l D base M (pc + 3) ls (w :: rest) h2 Q) : WH l D base M pc ls (v4 :: v3 :: v2 :: v1 :: .ref 0 :: rest) h Q :=
  cv_Lm_214 ho hd hR hsp hw (fun h' r e => by obtain ⟨rfl, rfl⟩ := e; exact k)
theorem cv_Lm_214_i {v1 v2 v3 v4 : Value} {rest : List Value} (ho : M.1.cls = "LampMoths") (hd : decode M.2.1 pc = .ok (.invokevirtual 214, 3)) (hR : okR0 M M_Lm_gain) {P : Hp → Int32 → Prop} (hsp : SI l D base M_Lm_gain (.ref 0 :: [v1, v2, v3, v4]) h P) (hw : (rest.map fun v => v.category).sum ≤ 8) (k : ∀ (h' : Hp) (x : Int32), P h' x → WH l D base M (pc + 3) ls (.int x :: rest) h' Q) : WH l D base M pc ls (v4 :: v3 :: v2 :: v1 :: .ref 0 :: rest) h Q :=
  cv_Lm_214 ho hd hR hsp hw (fun h' r e => by obtain ⟨x, rfl, hp⟩ := e; exact k h' x hp)
theorem ml_Lm_218 : Cond.methodLink "LampMoths" 218 M_Ln_cloud.1 ∈ lw_gt := gt_at 531 (by decide +kernel) rfl
theorem cv_Lm_218 {v1 : Value} {rest : List Value} {b : Nat} (hb : IsLane b) (ho : M.1.cls = "LampMoths") (hd : decode M.2.1 pc = .ok (.invokevirtual 218, 3)) (hR : okR0 M M_Ln_cloud) {Q' : Hp → Option Value → Prop} (hsp : SP l D base M_Ln_cloud (.ref b :: [v1]) h Q') (hw : (rest.map fun v => v.category).sum ≤ 8) (k : ∀ (h' : Hp) (r : Option Value), Q' h' r → WH l D base M (pc + 3) ls (r.toList ++ rest) h' Q) : WH l D base M pc ls (v1 :: .ref b :: rest) h Q :=
  wh_callV (b := b) (ci := 0) (As := [v1]) (rest := rest) hd k_Ln_cloud hR (show Cond.methodLink M.1.cls 218 M_Ln_cloud.1 ∈ lw_gt by rw [ho]; exact ml_Lm_218) ki_Ln_cloud kz_Ln_cloud (show SH[b]? = some (.inr (0, [(2, some (b + 1)), (2, some (b + 2)), (2, some (b + 3)), (2, some (b + 4)), (2, some (b + 5)), (2, some (b + 6)), (0, none), (0, none), (0, none), (0, none), (0, none), (2, some (b + 7))])) by rcases hb with rfl | rfl <;> rfl) rfl rfl hsp rfl rfl hw k
theorem cv_Lm_218_d {v1 : Value} {rest : List Value} {b : Nat} (hb : IsLane b) (ho : M.1.cls = "LampMoths") (hd : decode M.2.1 pc = .ok (.invokevirtual 218, 3)) (hR : okR0 M M_Ln_cloud) {h2 : Hp} (hsp : SD l D base M_Ln_cloud (.ref b :: [v1]) h none h2) (hw : (rest.map fun v => v.category).sum ≤ 8) (k : WH l D base M (pc + 3) ls rest h2 Q) : WH l D base M pc ls (v1 :: .ref b :: rest) h Q :=
  cv_Lm_218 hb ho hd hR hsp hw (fun h' r e => by obtain ⟨rfl, rfl⟩ := e; exact k)
theorem cv_Lm_218_v {v1 : Value} {rest : List Value} {b : Nat} (hb : IsLane b) (ho : M.1.cls = "LampMoths") (hd : decode M.2.1 pc = .ok (.invokevirtual 218, 3)) (hR : okR0 M M_Ln_cloud) {P : Hp → Prop} (hsp : SV l D base M_Ln_cloud (.ref b :: [v1]) h P) (hw : (rest.map fun v => v.category).sum ≤ 8) (k : ∀ h' : Hp, P h' → WH l D base M (pc + 3) ls rest h' Q) : WH l D base M pc ls (v1 :: .ref b :: rest) h Q :=
  cv_Lm_218 hb ho hd hR hsp hw (fun h' r e => by obtain ⟨rfl, hp⟩ := e; exact k h' hp)
theorem ml_Lm_227 : Cond.methodLink "LampMoths" 227 M_Lm_passWeekOnTrial.1 ∈ lw_gt := gt_at 546 (by decide +kernel) rfl
theorem cv_Lm_227 {v1 : Value} {rest : List Value} (ho : M.1.cls = "LampMoths") (hd : decode M.2.1 pc = .ok (.invokevirtual 227, 3)) (hR : okR0 M M_Lm_passWeekOnTrial) {Q' : Hp → Option Value → Prop} (hsp : SP l D base M_Lm_passWeekOnTrial (.ref 0 :: [v1]) h Q') (hw : (rest.map fun v => v.category).sum ≤ 8) (k : ∀ (h' : Hp) (r : Option Value), Q' h' r → WH l D base M (pc + 3) ls (r.toList ++ rest) h' Q) : WH l D base M pc ls (v1 :: .ref 0 :: rest) h Q :=
  wh_callV (b := 0) (ci := 2) (As := [v1]) (rest := rest) hd k_Lm_passWeekOnTrial hR (show Cond.methodLink M.1.cls 227 M_Lm_passWeekOnTrial.1 ∈ lw_gt by rw [ho]; exact ml_Lm_227) ki_Lm_passWeekOnTrial kz_Lm_passWeekOnTrial rfl rfl rfl hsp rfl rfl hw k
theorem cv_Lm_227_d {v1 : Value} {rest : List Value} (ho : M.1.cls = "LampMoths") (hd : decode M.2.1 pc = .ok (.invokevirtual 227, 3)) (hR : okR0 M M_Lm_passWeekOnTrial) {h2 : Hp} (hsp : SD l D base M_Lm_passWeekOnTrial (.ref 0 :: [v1]) h none h2) (hw : (rest.map fun v => v.category).sum ≤ 8) (k : WH l D base M (pc + 3) ls rest h2 Q) : WH l D base M pc ls (v1 :: .ref 0 :: rest) h Q :=
  cv_Lm_227 ho hd hR hsp hw (fun h' r e => by obtain ⟨rfl, rfl⟩ := e; exact k)
theorem cv_Lm_227_v {v1 : Value} {rest : List Value} (ho : M.1.cls = "LampMoths") (hd : decode M.2.1 pc = .ok (.invokevirtual 227, 3)) (hR : okR0 M M_Lm_passWeekOnTrial) {P : Hp → Prop} (hsp : SV l D base M_Lm_passWeekOnTrial (.ref 0 :: [v1]) h P) (hw : (rest.map fun v => v.category).sum ≤ 8) (k : ∀ h' : Hp, P h' → WH l D base M (pc + 3) ls rest h' Q) : WH l D base M pc ls (v1 :: .ref 0 :: rest) h Q :=
  cv_Lm_227 ho hd hR hsp hw (fun h' r e => by obtain ⟨rfl, hp⟩ := e; exact k h' hp)
theorem ml_Md_69 : Cond.methodLink "LampMothsModel" 69 M_Md_in.1 ∈ lw_gt := gt_at 675 (by decide +kernel) rfl
theorem cs_Md_69 {v1 v2 v3 : Value} {rest : List Value} (ho : M.1.cls = "LampMothsModel") (hd : decode M.2.1 pc = .ok (.invokestatic 69, 3)) (hR : okR0 M M_Md_in) {Q' : Hp → Option Value → Prop} (hsp : SP l D base M_Md_in [v1, v2, v3] h Q') (hw : (rest.map fun v => v.category).sum ≤ 8) (k : ∀ (h' : Hp) (r : Option Value), Q' h' r → WH l D base M (pc + 3) ls (r.toList ++ rest) h' Q) : WH l D base M pc ls (v3 :: v2 :: v1 :: rest) h Q :=
  wh_callS (As := [v1, v2, v3]) (rest := rest) hd k_Md_in hR (show Cond.methodLink M.1.cls 69 M_Md_in.1 ∈ lw_gt by rw [ho]; exact ml_Md_69) ks_Md_in hsp rfl rfl hw k
theorem cs_Md_69_d {v1 v2 v3 : Value} {rest : List Value} (ho : M.1.cls = "LampMothsModel") (hd : decode M.2.1 pc = .ok (.invokestatic 69, 3)) (hR : okR0 M M_Md_in) {h2 : Hp} {w : Value} (hsp : SD l D base M_Md_in [v1, v2, v3] h (some w) h2) (hw : (rest.map fun v => v.category).sum ≤ 8) (k : WH l D base M (pc + 3) ls (w :: rest) h2 Q) : WH l D base M pc ls (v3 :: v2 :: v1 :: rest) h Q :=
  cs_Md_69 ho hd hR hsp hw (fun h' r e => by obtain ⟨rfl, rfl⟩ := e; exact k)
theorem cs_Md_69_i {v1 v2 v3 : Value} {rest : List Value} (ho : M.1.cls = "LampMothsModel") (hd : decode M.2.1 pc = .ok (.invokestatic 69, 3)) (hR : okR0 M M_Md_in) {P : Hp → Int32 → Prop} (hsp : SI l D base M_Md_in [v1, v2, v3] h P) (hw : (rest.map fun v => v.category).sum ≤ 8) (k : ∀ (h' : Hp) (x : Int32), P h' x → WH l D base M (pc + 3) ls (.int x :: rest) h' Q) : WH l D base M pc ls (v3 :: v2 :: v1 :: rest) h Q :=
  cs_Md_69 ho hd hR hsp hw (fun h' r e => by obtain ⟨x, rfl, hp⟩ := e; exact k h' x hp)
theorem ml_Md_116 : Cond.methodLink "LampMothsModel" 116 M_Md_readStreet.1 ∈ lw_gt := gt_at 686 (by decide +kernel) rfl
theorem cv_Md_116 {rest : List Value} (ho : M.1.cls = "LampMothsModel") (hd : decode M.2.1 pc = .ok (.invokevirtual 116, 3)) (hR : okR0 M M_Md_readStreet) {Q' : Hp → Option Value → Prop} (hsp : SP l D base M_Md_readStreet (.ref 42 :: []) h Q') (hw : (rest.map fun v => v.category).sum ≤ 8) (k : ∀ (h' : Hp) (r : Option Value), Q' h' r → WH l D base M (pc + 3) ls (r.toList ++ rest) h' Q) : WH l D base M pc ls (.ref 42 :: rest) h Q :=
  wh_callV (b := 42) (ci := 3) (As := []) (rest := rest) hd k_Md_readStreet hR (show Cond.methodLink M.1.cls 116 M_Md_readStreet.1 ∈ lw_gt by rw [ho]; exact ml_Md_116) ki_Md_readStreet kz_Md_readStreet rfl rfl rfl hsp rfl rfl hw k
theorem cv_Md_116_d {rest : List Value} (ho : M.1.cls = "LampMothsModel") (hd : decode M.2.1 pc = .ok (.invokevirtual 116, 3)) (hR : okR0 M M_Md_readStreet) {h2 : Hp} {w : Value} (hsp : SD l D base M_Md_readStreet (.ref 42 :: []) h (some w) h2) (hw : (rest.map fun v => v.category).sum ≤ 8) (k : WH l D base M (pc + 3) ls (w :: rest) h2 Q) : WH l D base M pc ls (.ref 42 :: rest) h Q :=
  cv_Md_116 ho hd hR hsp hw (fun h' r e => by obtain ⟨rfl, rfl⟩ := e; exact k)
theorem cv_Md_116_i {rest : List Value} (ho : M.1.cls = "LampMothsModel") (hd : decode M.2.1 pc = .ok (.invokevirtual 116, 3)) (hR : okR0 M M_Md_readStreet) {P : Hp → Int32 → Prop} (hsp : SI l D base M_Md_readStreet (.ref 42 :: []) h P) (hw : (rest.map fun v => v.category).sum ≤ 8) (k : ∀ (h' : Hp) (x : Int32), P h' x → WH l D base M (pc + 3) ls (.int x :: rest) h' Q) : WH l D base M pc ls (.ref 42 :: rest) h Q :=
  cv_Md_116 ho hd hR hsp hw (fun h' r e => by obtain ⟨x, rfl, hp⟩ := e; exact k h' x hp)
theorem ml_Md_93 : Cond.methodLink "LampMothsModel" 93 M_Md_figure.1 ∈ lw_gt := gt_at 690 (by decide +kernel) rfl
theorem cv_Md_93 {v1 v2 : Value} {rest : List Value} (ho : M.1.cls = "LampMothsModel") (hd : decode M.2.1 pc = .ok (.invokevirtual 93, 3)) (hR : okR0 M M_Md_figure) {Q' : Hp → Option Value → Prop} (hsp : SP l D base M_Md_figure (.ref 42 :: [v1, v2]) h Q') (hw : (rest.map fun v => v.category).sum ≤ 8) (k : ∀ (h' : Hp) (r : Option Value), Q' h' r → WH l D base M (pc + 3) ls (r.toList ++ rest) h' Q) : WH l D base M pc ls (v2 :: v1 :: .ref 42 :: rest) h Q :=
  wh_callV (b := 42) (ci := 3) (As := [v1, v2]) (rest := rest) hd k_Md_figure hR (show Cond.methodLink M.1.cls 93 M_Md_figure.1 ∈ lw_gt by rw [ho]; exact ml_Md_93) ki_Md_figure kz_Md_figure rfl rfl rfl hsp rfl rfl hw k
theorem cv_Md_93_d {v1 v2 : Value} {rest : List Value} (ho : M.1.cls = "LampMothsModel") (hd : decode M.2.1 pc = .ok (.invokevirtual 93, 3)) (hR : okR0 M M_Md_figure) {h2 : Hp} {w : Value} (hsp : SD l D base M_Md_figure (.ref 42 :: [v1, v2]) h (some w) h2) (hw : (rest.map fun v => v.category).sum ≤ 8) (k : WH l D base M (pc + 3) ls (w :: rest) h2 Q) : WH l D base M pc ls (v2 :: v1 :: .ref 42 :: rest) h Q :=
  cv_Md_93 ho hd hR hsp hw (fun h' r e => by obtain ⟨rfl, rfl⟩ := e; exact k)
theorem cv_Md_93_i {v1 v2 : Value} {rest : List Value} (ho : M.1.cls = "LampMothsModel") (hd : decode M.2.1 pc = .ok (.invokevirtual 93, 3)) (hR : okR0 M M_Md_figure) {P : Hp → Int32 → Prop} (hsp : SI l D base M_Md_figure (.ref 42 :: [v1, v2]) h P) (hw : (rest.map fun v => v.category).sum ≤ 8) (k : ∀ (h' : Hp) (x : Int32), P h' x → WH l D base M (pc + 3) ls (.int x :: rest) h' Q) : WH l D base M pc ls (v2 :: v1 :: .ref 42 :: rest) h Q :=
  cv_Md_93 ho hd hR hsp hw (fun h' r e => by obtain ⟨x, rfl, hp⟩ := e; exact k h' x hp)
theorem ml_Md_113 : Cond.methodLink "LampMothsModel" 113 M_Md_readPart.1 ∈ lw_gt := gt_at 694 (by decide +kernel) rfl
theorem cv_Md_113 {rest : List Value} (ho : M.1.cls = "LampMothsModel") (hd : decode M.2.1 pc = .ok (.invokevirtual 113, 3)) (hR : okR0 M M_Md_readPart) {Q' : Hp → Option Value → Prop} (hsp : SP l D base M_Md_readPart (.ref 42 :: []) h Q') (hw : (rest.map fun v => v.category).sum ≤ 8) (k : ∀ (h' : Hp) (r : Option Value), Q' h' r → WH l D base M (pc + 3) ls (r.toList ++ rest) h' Q) : WH l D base M pc ls (.ref 42 :: rest) h Q :=
  wh_callV (b := 42) (ci := 3) (As := []) (rest := rest) hd k_Md_readPart hR (show Cond.methodLink M.1.cls 113 M_Md_readPart.1 ∈ lw_gt by rw [ho]; exact ml_Md_113) ki_Md_readPart kz_Md_readPart rfl rfl rfl hsp rfl rfl hw k
theorem cv_Md_113_d {rest : List Value} (ho : M.1.cls = "LampMothsModel") (hd : decode M.2.1 pc = .ok (.invokevirtual 113, 3)) (hR : okR0 M M_Md_readPart) {h2 : Hp} {w : Value} (hsp : SD l D base M_Md_readPart (.ref 42 :: []) h (some w) h2) (hw : (rest.map fun v => v.category).sum ≤ 8) (k : WH l D base M (pc + 3) ls (w :: rest) h2 Q) : WH l D base M pc ls (.ref 42 :: rest) h Q :=
  cv_Md_113 ho hd hR hsp hw (fun h' r e => by obtain ⟨rfl, rfl⟩ := e; exact k)
theorem cv_Md_113_i {rest : List Value} (ho : M.1.cls = "LampMothsModel") (hd : decode M.2.1 pc = .ok (.invokevirtual 113, 3)) (hR : okR0 M M_Md_readPart) {P : Hp → Int32 → Prop} (hsp : SI l D base M_Md_readPart (.ref 42 :: []) h P) (hw : (rest.map fun v => v.category).sum ≤ 8) (k : ∀ (h' : Hp) (x : Int32), P h' x → WH l D base M (pc + 3) ls (.int x :: rest) h' Q) : WH l D base M pc ls (.ref 42 :: rest) h Q :=
  cv_Md_113 ho hd hR hsp hw (fun h' r e => by obtain ⟨x, rfl, hp⟩ := e; exact k h' x hp)
theorem ml_Md_100 : Cond.methodLink "LampMothsModel" 100 M_Md_readOneWindow.1 ∈ lw_gt := gt_at 698 (by decide +kernel) rfl
theorem cv_Md_100 {rest : List Value} (ho : M.1.cls = "LampMothsModel") (hd : decode M.2.1 pc = .ok (.invokevirtual 100, 3)) (hR : okR0 M M_Md_readOneWindow) {Q' : Hp → Option Value → Prop} (hsp : SP l D base M_Md_readOneWindow (.ref 42 :: []) h Q') (hw : (rest.map fun v => v.category).sum ≤ 8) (k : ∀ (h' : Hp) (r : Option Value), Q' h' r → WH l D base M (pc + 3) ls (r.toList ++ rest) h' Q) : WH l D base M pc ls (.ref 42 :: rest) h Q :=
  wh_callV (b := 42) (ci := 3) (As := []) (rest := rest) hd k_Md_readOneWindow hR (show Cond.methodLink M.1.cls 100 M_Md_readOneWindow.1 ∈ lw_gt by rw [ho]; exact ml_Md_100) ki_Md_readOneWindow kz_Md_readOneWindow rfl rfl rfl hsp rfl rfl hw k
theorem cv_Md_100_d {rest : List Value} (ho : M.1.cls = "LampMothsModel") (hd : decode M.2.1 pc = .ok (.invokevirtual 100, 3)) (hR : okR0 M M_Md_readOneWindow) {h2 : Hp} {w : Value} (hsp : SD l D base M_Md_readOneWindow (.ref 42 :: []) h (some w) h2) (hw : (rest.map fun v => v.category).sum ≤ 8) (k : WH l D base M (pc + 3) ls (w :: rest) h2 Q) : WH l D base M pc ls (.ref 42 :: rest) h Q :=
  cv_Md_100 ho hd hR hsp hw (fun h' r e => by obtain ⟨rfl, rfl⟩ := e; exact k)
theorem cv_Md_100_i {rest : List Value} (ho : M.1.cls = "LampMothsModel") (hd : decode M.2.1 pc = .ok (.invokevirtual 100, 3)) (hR : okR0 M M_Md_readOneWindow) {P : Hp → Int32 → Prop} (hsp : SI l D base M_Md_readOneWindow (.ref 42 :: []) h P) (hw : (rest.map fun v => v.category).sum ≤ 8) (k : ∀ (h' : Hp) (x : Int32), P h' x → WH l D base M (pc + 3) ls (.int x :: rest) h' Q) : WH l D base M pc ls (.ref 42 :: rest) h Q :=
  cv_Md_100 ho hd hR hsp hw (fun h' r e => by obtain ⟨x, rfl, hp⟩ := e; exact k h' x hp)
theorem ml_Md_89 : Cond.methodLink "LampMothsModel" 89 M_Md_readPlace.1 ∈ lw_gt := gt_at 702 (by decide +kernel) rfl
theorem cv_Md_89 {rest : List Value} (ho : M.1.cls = "LampMothsModel") (hd : decode M.2.1 pc = .ok (.invokevirtual 89, 3)) (hR : okR0 M M_Md_readPlace) {Q' : Hp → Option Value → Prop} (hsp : SP l D base M_Md_readPlace (.ref 42 :: []) h Q') (hw : (rest.map fun v => v.category).sum ≤ 8) (k : ∀ (h' : Hp) (r : Option Value), Q' h' r → WH l D base M (pc + 3) ls (r.toList ++ rest) h' Q) : WH l D base M pc ls (.ref 42 :: rest) h Q :=
  wh_callV (b := 42) (ci := 3) (As := []) (rest := rest) hd k_Md_readPlace hR (show Cond.methodLink M.1.cls 89 M_Md_readPlace.1 ∈ lw_gt by rw [ho]; exact ml_Md_89) ki_Md_readPlace kz_Md_readPlace rfl rfl rfl hsp rfl rfl hw k
theorem cv_Md_89_d {rest : List Value} (ho : M.1.cls = "LampMothsModel") (hd : decode M.2.1 pc = .ok (.invokevirtual 89, 3)) (hR : okR0 M M_Md_readPlace) {h2 : Hp} {w : Value} (hsp : SD l D base M_Md_readPlace (.ref 42 :: []) h (some w) h2) (hw : (rest.map fun v => v.category).sum ≤ 8) (k : WH l D base M (pc + 3) ls (w :: rest) h2 Q) : WH l D base M pc ls (.ref 42 :: rest) h Q :=
  cv_Md_89 ho hd hR hsp hw (fun h' r e => by obtain ⟨rfl, rfl⟩ := e; exact k)
theorem cv_Md_89_i {rest : List Value} (ho : M.1.cls = "LampMothsModel") (hd : decode M.2.1 pc = .ok (.invokevirtual 89, 3)) (hR : okR0 M M_Md_readPlace) {P : Hp → Int32 → Prop} (hsp : SI l D base M_Md_readPlace (.ref 42 :: []) h P) (hw : (rest.map fun v => v.category).sum ≤ 8) (k : ∀ (h' : Hp) (x : Int32), P h' x → WH l D base M (pc + 3) ls (.int x :: rest) h' Q) : WH l D base M pc ls (.ref 42 :: rest) h Q :=
  cv_Md_89 ho hd hR hsp hw (fun h' r e => by obtain ⟨x, rfl, hp⟩ := e; exact k h' x hp)
theorem ml_Md_104 : Cond.methodLink "LampMothsModel" 104 M_Md_readOneMoth.1 ∈ lw_gt := gt_at 707 (by decide +kernel) rfl
theorem cv_Md_104 {rest : List Value} (ho : M.1.cls = "LampMothsModel") (hd : decode M.2.1 pc = .ok (.invokevirtual 104, 3)) (hR : okR0 M M_Md_readOneMoth) {Q' : Hp → Option Value → Prop} (hsp : SP l D base M_Md_readOneMoth (.ref 42 :: []) h Q') (hw : (rest.map fun v => v.category).sum ≤ 8) (k : ∀ (h' : Hp) (r : Option Value), Q' h' r → WH l D base M (pc + 3) ls (r.toList ++ rest) h' Q) : WH l D base M pc ls (.ref 42 :: rest) h Q :=
  wh_callV (b := 42) (ci := 3) (As := []) (rest := rest) hd k_Md_readOneMoth hR (show Cond.methodLink M.1.cls 104 M_Md_readOneMoth.1 ∈ lw_gt by rw [ho]; exact ml_Md_104) ki_Md_readOneMoth kz_Md_readOneMoth rfl rfl rfl hsp rfl rfl hw k
theorem cv_Md_104_d {rest : List Value} (ho : M.1.cls = "LampMothsModel") (hd : decode M.2.1 pc = .ok (.invokevirtual 104, 3)) (hR : okR0 M M_Md_readOneMoth) {h2 : Hp} {w : Value} (hsp : SD l D base M_Md_readOneMoth (.ref 42 :: []) h (some w) h2) (hw : (rest.map fun v => v.category).sum ≤ 8) (k : WH l D base M (pc + 3) ls (w :: rest) h2 Q) : WH l D base M pc ls (.ref 42 :: rest) h Q :=
  cv_Md_104 ho hd hR hsp hw (fun h' r e => by obtain ⟨rfl, rfl⟩ := e; exact k)
theorem cv_Md_104_i {rest : List Value} (ho : M.1.cls = "LampMothsModel") (hd : decode M.2.1 pc = .ok (.invokevirtual 104, 3)) (hR : okR0 M M_Md_readOneMoth) {P : Hp → Int32 → Prop} (hsp : SI l D base M_Md_readOneMoth (.ref 42 :: []) h P) (hw : (rest.map fun v => v.category).sum ≤ 8) (k : ∀ (h' : Hp) (x : Int32), P h' x → WH l D base M (pc + 3) ls (.int x :: rest) h' Q) : WH l D base M pc ls (.ref 42 :: rest) h Q :=
  cv_Md_104 ho hd hR hsp hw (fun h' r e => by obtain ⟨x, rfl, hp⟩ := e; exact k h' x hp)
theorem ml_Md_144 : Cond.methodLink "LampMothsModel" 144 M_Md_paid.1 ∈ lw_gt := gt_at 719 (by decide +kernel) rfl
theorem cv_Md_144 {v1 : Value} {rest : List Value} (ho : M.1.cls = "LampMothsModel") (hd : decode M.2.1 pc = .ok (.invokevirtual 144, 3)) (hR : okR0 M M_Md_paid) {Q' : Hp → Option Value → Prop} (hsp : SP l D base M_Md_paid (.ref 42 :: [v1]) h Q') (hw : (rest.map fun v => v.category).sum ≤ 8) (k : ∀ (h' : Hp) (r : Option Value), Q' h' r → WH l D base M (pc + 3) ls (r.toList ++ rest) h' Q) : WH l D base M pc ls (v1 :: .ref 42 :: rest) h Q :=
  wh_callV (b := 42) (ci := 3) (As := [v1]) (rest := rest) hd k_Md_paid hR (show Cond.methodLink M.1.cls 144 M_Md_paid.1 ∈ lw_gt by rw [ho]; exact ml_Md_144) ki_Md_paid kz_Md_paid rfl rfl rfl hsp rfl rfl hw k
theorem cv_Md_144_d {v1 : Value} {rest : List Value} (ho : M.1.cls = "LampMothsModel") (hd : decode M.2.1 pc = .ok (.invokevirtual 144, 3)) (hR : okR0 M M_Md_paid) {h2 : Hp} {w : Value} (hsp : SD l D base M_Md_paid (.ref 42 :: [v1]) h (some w) h2) (hw : (rest.map fun v => v.category).sum ≤ 8) (k : WH l D base M (pc + 3) ls (w :: rest) h2 Q) : WH l D base M pc ls (v1 :: .ref 42 :: rest) h Q :=
  cv_Md_144 ho hd hR hsp hw (fun h' r e => by obtain ⟨rfl, rfl⟩ := e; exact k)
theorem cv_Md_144_i {v1 : Value} {rest : List Value} (ho : M.1.cls = "LampMothsModel") (hd : decode M.2.1 pc = .ok (.invokevirtual 144, 3)) (hR : okR0 M M_Md_paid) {P : Hp → Int32 → Prop} (hsp : SI l D base M_Md_paid (.ref 42 :: [v1]) h P) (hw : (rest.map fun v => v.category).sum ≤ 8) (k : ∀ (h' : Hp) (x : Int32), P h' x → WH l D base M (pc + 3) ls (.int x :: rest) h' Q) : WH l D base M pc ls (v1 :: .ref 42 :: rest) h Q :=
  cv_Md_144 ho hd hR hsp hw (fun h' r e => by obtain ⟨x, rfl, hp⟩ := e; exact k h' x hp)
theorem ml_Md_148 : Cond.methodLink "LampMothsModel" 148 M_Md_layOwed.1 ∈ lw_gt := gt_at 723 (by decide +kernel) rfl
theorem cv_Md_148 {v1 : Value} {rest : List Value} (ho : M.1.cls = "LampMothsModel") (hd : decode M.2.1 pc = .ok (.invokevirtual 148, 3)) (hR : okR0 M M_Md_layOwed) {Q' : Hp → Option Value → Prop} (hsp : SP l D base M_Md_layOwed (.ref 42 :: [v1]) h Q') (hw : (rest.map fun v => v.category).sum ≤ 8) (k : ∀ (h' : Hp) (r : Option Value), Q' h' r → WH l D base M (pc + 3) ls (r.toList ++ rest) h' Q) : WH l D base M pc ls (v1 :: .ref 42 :: rest) h Q :=
  wh_callV (b := 42) (ci := 3) (As := [v1]) (rest := rest) hd k_Md_layOwed hR (show Cond.methodLink M.1.cls 148 M_Md_layOwed.1 ∈ lw_gt by rw [ho]; exact ml_Md_148) ki_Md_layOwed kz_Md_layOwed rfl rfl rfl hsp rfl rfl hw k
theorem cv_Md_148_d {v1 : Value} {rest : List Value} (ho : M.1.cls = "LampMothsModel") (hd : decode M.2.1 pc = .ok (.invokevirtual 148, 3)) (hR : okR0 M M_Md_layOwed) {h2 : Hp} {w : Value} (hsp : SD l D base M_Md_layOwed (.ref 42 :: [v1]) h (some w) h2) (hw : (rest.map fun v => v.category).sum ≤ 8) (k : WH l D base M (pc + 3) ls (w :: rest) h2 Q) : WH l D base M pc ls (v1 :: .ref 42 :: rest) h Q :=
  cv_Md_148 ho hd hR hsp hw (fun h' r e => by obtain ⟨rfl, rfl⟩ := e; exact k)
theorem cv_Md_148_i {v1 : Value} {rest : List Value} (ho : M.1.cls = "LampMothsModel") (hd : decode M.2.1 pc = .ok (.invokevirtual 148, 3)) (hR : okR0 M M_Md_layOwed) {P : Hp → Int32 → Prop} (hsp : SI l D base M_Md_layOwed (.ref 42 :: [v1]) h P) (hw : (rest.map fun v => v.category).sum ≤ 8) (k : ∀ (h' : Hp) (x : Int32), P h' x → WH l D base M (pc + 3) ls (.int x :: rest) h' Q) : WH l D base M pc ls (v1 :: .ref 42 :: rest) h Q :=
  cv_Md_148 ho hd hR hsp hw (fun h' r e => by obtain ⟨x, rfl, hp⟩ := e; exact k h' x hp)
theorem ml_Md_126 : Cond.methodLink "LampMothsModel" 126 M_Md_strongest.1 ∈ lw_gt := gt_at 727 (by decide +kernel) rfl
theorem cv_Md_126 {v1 v2 : Value} {rest : List Value} (ho : M.1.cls = "LampMothsModel") (hd : decode M.2.1 pc = .ok (.invokevirtual 126, 3)) (hR : okR0 M M_Md_strongest) {Q' : Hp → Option Value → Prop} (hsp : SP l D base M_Md_strongest (.ref 42 :: [v1, v2]) h Q') (hw : (rest.map fun v => v.category).sum ≤ 8) (k : ∀ (h' : Hp) (r : Option Value), Q' h' r → WH l D base M (pc + 3) ls (r.toList ++ rest) h' Q) : WH l D base M pc ls (v2 :: v1 :: .ref 42 :: rest) h Q :=
  wh_callV (b := 42) (ci := 3) (As := [v1, v2]) (rest := rest) hd k_Md_strongest hR (show Cond.methodLink M.1.cls 126 M_Md_strongest.1 ∈ lw_gt by rw [ho]; exact ml_Md_126) ki_Md_strongest kz_Md_strongest rfl rfl rfl hsp rfl rfl hw k
theorem cv_Md_126_d {v1 v2 : Value} {rest : List Value} (ho : M.1.cls = "LampMothsModel") (hd : decode M.2.1 pc = .ok (.invokevirtual 126, 3)) (hR : okR0 M M_Md_strongest) {h2 : Hp} {w : Value} (hsp : SD l D base M_Md_strongest (.ref 42 :: [v1, v2]) h (some w) h2) (hw : (rest.map fun v => v.category).sum ≤ 8) (k : WH l D base M (pc + 3) ls (w :: rest) h2 Q) : WH l D base M pc ls (v2 :: v1 :: .ref 42 :: rest) h Q :=
  cv_Md_126 ho hd hR hsp hw (fun h' r e => by obtain ⟨rfl, rfl⟩ := e; exact k)
theorem cv_Md_126_i {v1 v2 : Value} {rest : List Value} (ho : M.1.cls = "LampMothsModel") (hd : decode M.2.1 pc = .ok (.invokevirtual 126, 3)) (hR : okR0 M M_Md_strongest) {P : Hp → Int32 → Prop} (hsp : SI l D base M_Md_strongest (.ref 42 :: [v1, v2]) h P) (hw : (rest.map fun v => v.category).sum ≤ 8) (k : ∀ (h' : Hp) (x : Int32), P h' x → WH l D base M (pc + 3) ls (.int x :: rest) h' Q) : WH l D base M pc ls (v2 :: v1 :: .ref 42 :: rest) h Q :=
  cv_Md_126 ho hd hR hsp hw (fun h' r e => by obtain ⟨x, rfl, hp⟩ := e; exact k h' x hp)
theorem ml_Md_122 : Cond.methodLink "LampMothsModel" 122 M_Md_pullOf.1 ∈ lw_gt := gt_at 731 (by decide +kernel) rfl
theorem cv_Md_122 {v1 v2 v3 : Value} {rest : List Value} (ho : M.1.cls = "LampMothsModel") (hd : decode M.2.1 pc = .ok (.invokevirtual 122, 3)) (hR : okR0 M M_Md_pullOf) {Q' : Hp → Option Value → Prop} (hsp : SP l D base M_Md_pullOf (.ref 42 :: [v1, v2, v3]) h Q') (hw : (rest.map fun v => v.category).sum ≤ 8) (k : ∀ (h' : Hp) (r : Option Value), Q' h' r → WH l D base M (pc + 3) ls (r.toList ++ rest) h' Q) : WH l D base M pc ls (v3 :: v2 :: v1 :: .ref 42 :: rest) h Q :=
  wh_callV (b := 42) (ci := 3) (As := [v1, v2, v3]) (rest := rest) hd k_Md_pullOf hR (show Cond.methodLink M.1.cls 122 M_Md_pullOf.1 ∈ lw_gt by rw [ho]; exact ml_Md_122) ki_Md_pullOf kz_Md_pullOf rfl rfl rfl hsp rfl rfl hw k
theorem cv_Md_122_d {v1 v2 v3 : Value} {rest : List Value} (ho : M.1.cls = "LampMothsModel") (hd : decode M.2.1 pc = .ok (.invokevirtual 122, 3)) (hR : okR0 M M_Md_pullOf) {h2 : Hp} {w : Value} (hsp : SD l D base M_Md_pullOf (.ref 42 :: [v1, v2, v3]) h (some w) h2) (hw : (rest.map fun v => v.category).sum ≤ 8) (k : WH l D base M (pc + 3) ls (w :: rest) h2 Q) : WH l D base M pc ls (v3 :: v2 :: v1 :: .ref 42 :: rest) h Q :=
  cv_Md_122 ho hd hR hsp hw (fun h' r e => by obtain ⟨rfl, rfl⟩ := e; exact k)
theorem cv_Md_122_i {v1 v2 v3 : Value} {rest : List Value} (ho : M.1.cls = "LampMothsModel") (hd : decode M.2.1 pc = .ok (.invokevirtual 122, 3)) (hR : okR0 M M_Md_pullOf) {P : Hp → Int32 → Prop} (hsp : SI l D base M_Md_pullOf (.ref 42 :: [v1, v2, v3]) h P) (hw : (rest.map fun v => v.category).sum ≤ 8) (k : ∀ (h' : Hp) (x : Int32), P h' x → WH l D base M (pc + 3) ls (.int x :: rest) h' Q) : WH l D base M pc ls (v3 :: v2 :: v1 :: .ref 42 :: rest) h Q :=
  cv_Md_122 ho hd hR hsp hw (fun h' r e => by obtain ⟨x, rfl, hp⟩ := e; exact k h' x hp)
theorem ml_Md_130 : Cond.methodLink "LampMothsModel" 130 M_Md_has.1 ∈ lw_gt := gt_at 735 (by decide +kernel) rfl
theorem cs_Md_130 {v1 v2 : Value} {rest : List Value} (ho : M.1.cls = "LampMothsModel") (hd : decode M.2.1 pc = .ok (.invokestatic 130, 3)) (hR : okR0 M M_Md_has) {Q' : Hp → Option Value → Prop} (hsp : SP l D base M_Md_has [v1, v2] h Q') (hw : (rest.map fun v => v.category).sum ≤ 8) (k : ∀ (h' : Hp) (r : Option Value), Q' h' r → WH l D base M (pc + 3) ls (r.toList ++ rest) h' Q) : WH l D base M pc ls (v2 :: v1 :: rest) h Q :=
  wh_callS (As := [v1, v2]) (rest := rest) hd k_Md_has hR (show Cond.methodLink M.1.cls 130 M_Md_has.1 ∈ lw_gt by rw [ho]; exact ml_Md_130) ks_Md_has hsp rfl rfl hw k
theorem cs_Md_130_d {v1 v2 : Value} {rest : List Value} (ho : M.1.cls = "LampMothsModel") (hd : decode M.2.1 pc = .ok (.invokestatic 130, 3)) (hR : okR0 M M_Md_has) {h2 : Hp} {w : Value} (hsp : SD l D base M_Md_has [v1, v2] h (some w) h2) (hw : (rest.map fun v => v.category).sum ≤ 8) (k : WH l D base M (pc + 3) ls (w :: rest) h2 Q) : WH l D base M pc ls (v2 :: v1 :: rest) h Q :=
  cs_Md_130 ho hd hR hsp hw (fun h' r e => by obtain ⟨rfl, rfl⟩ := e; exact k)
theorem cs_Md_130_i {v1 v2 : Value} {rest : List Value} (ho : M.1.cls = "LampMothsModel") (hd : decode M.2.1 pc = .ok (.invokestatic 130, 3)) (hR : okR0 M M_Md_has) {P : Hp → Int32 → Prop} (hsp : SI l D base M_Md_has [v1, v2] h P) (hw : (rest.map fun v => v.category).sum ≤ 8) (k : ∀ (h' : Hp) (x : Int32), P h' x → WH l D base M (pc + 3) ls (.int x :: rest) h' Q) : WH l D base M pc ls (v2 :: v1 :: rest) h Q :=
  cs_Md_130 ho hd hR hsp hw (fun h' r e => by obtain ⟨x, rfl, hp⟩ := e; exact k h' x hp)
theorem ml_Md_134 : Cond.methodLink "LampMothsModel" 134 M_Md_many.1 ∈ lw_gt := gt_at 738 (by decide +kernel) rfl
theorem cs_Md_134 {v1 : Value} {rest : List Value} (ho : M.1.cls = "LampMothsModel") (hd : decode M.2.1 pc = .ok (.invokestatic 134, 3)) (hR : okR0 M M_Md_many) {Q' : Hp → Option Value → Prop} (hsp : SP l D base M_Md_many [v1] h Q') (hw : (rest.map fun v => v.category).sum ≤ 8) (k : ∀ (h' : Hp) (r : Option Value), Q' h' r → WH l D base M (pc + 3) ls (r.toList ++ rest) h' Q) : WH l D base M pc ls (v1 :: rest) h Q :=
  wh_callS (As := [v1]) (rest := rest) hd k_Md_many hR (show Cond.methodLink M.1.cls 134 M_Md_many.1 ∈ lw_gt by rw [ho]; exact ml_Md_134) ks_Md_many hsp rfl rfl hw k
theorem cs_Md_134_d {v1 : Value} {rest : List Value} (ho : M.1.cls = "LampMothsModel") (hd : decode M.2.1 pc = .ok (.invokestatic 134, 3)) (hR : okR0 M M_Md_many) {h2 : Hp} {w : Value} (hsp : SD l D base M_Md_many [v1] h (some w) h2) (hw : (rest.map fun v => v.category).sum ≤ 8) (k : WH l D base M (pc + 3) ls (w :: rest) h2 Q) : WH l D base M pc ls (v1 :: rest) h Q :=
  cs_Md_134 ho hd hR hsp hw (fun h' r e => by obtain ⟨rfl, rfl⟩ := e; exact k)
theorem cs_Md_134_i {v1 : Value} {rest : List Value} (ho : M.1.cls = "LampMothsModel") (hd : decode M.2.1 pc = .ok (.invokestatic 134, 3)) (hR : okR0 M M_Md_many) {P : Hp → Int32 → Prop} (hsp : SI l D base M_Md_many [v1] h P) (hw : (rest.map fun v => v.category).sum ≤ 8) (k : ∀ (h' : Hp) (x : Int32), P h' x → WH l D base M (pc + 3) ls (.int x :: rest) h' Q) : WH l D base M pc ls (v1 :: rest) h Q :=
  cs_Md_134 ho hd hR hsp hw (fun h' r e => by obtain ⟨x, rfl, hp⟩ := e; exact k h' x hp)
theorem ml_Md_151 : Cond.methodLink "LampMothsModel" 151 M_Md_readers.1 ∈ lw_gt := gt_at 741 (by decide +kernel) rfl
theorem cv_Md_151 {v1 : Value} {rest : List Value} (ho : M.1.cls = "LampMothsModel") (hd : decode M.2.1 pc = .ok (.invokevirtual 151, 3)) (hR : okR0 M M_Md_readers) {Q' : Hp → Option Value → Prop} (hsp : SP l D base M_Md_readers (.ref 42 :: [v1]) h Q') (hw : (rest.map fun v => v.category).sum ≤ 8) (k : ∀ (h' : Hp) (r : Option Value), Q' h' r → WH l D base M (pc + 3) ls (r.toList ++ rest) h' Q) : WH l D base M pc ls (v1 :: .ref 42 :: rest) h Q :=
  wh_callV (b := 42) (ci := 3) (As := [v1]) (rest := rest) hd k_Md_readers hR (show Cond.methodLink M.1.cls 151 M_Md_readers.1 ∈ lw_gt by rw [ho]; exact ml_Md_151) ki_Md_readers kz_Md_readers rfl rfl rfl hsp rfl rfl hw k
theorem cv_Md_151_d {v1 : Value} {rest : List Value} (ho : M.1.cls = "LampMothsModel") (hd : decode M.2.1 pc = .ok (.invokevirtual 151, 3)) (hR : okR0 M M_Md_readers) {h2 : Hp} {w : Value} (hsp : SD l D base M_Md_readers (.ref 42 :: [v1]) h (some w) h2) (hw : (rest.map fun v => v.category).sum ≤ 8) (k : WH l D base M (pc + 3) ls (w :: rest) h2 Q) : WH l D base M pc ls (v1 :: .ref 42 :: rest) h Q :=
  cv_Md_151 ho hd hR hsp hw (fun h' r e => by obtain ⟨rfl, rfl⟩ := e; exact k)
theorem cv_Md_151_i {v1 : Value} {rest : List Value} (ho : M.1.cls = "LampMothsModel") (hd : decode M.2.1 pc = .ok (.invokevirtual 151, 3)) (hR : okR0 M M_Md_readers) {P : Hp → Int32 → Prop} (hsp : SI l D base M_Md_readers (.ref 42 :: [v1]) h P) (hw : (rest.map fun v => v.category).sum ≤ 8) (k : ∀ (h' : Hp) (x : Int32), P h' x → WH l D base M (pc + 3) ls (.int x :: rest) h' Q) : WH l D base M pc ls (v1 :: .ref 42 :: rest) h Q :=
  cv_Md_151 ho hd hR hsp hw (fun h' r e => by obtain ⟨x, rfl, hp⟩ := e; exact k h' x hp)
theorem ml_Md_140 : Cond.methodLink "LampMothsModel" 140 M_Md_reads.1 ∈ lw_gt := gt_at 745 (by decide +kernel) rfl
theorem cv_Md_140 {v1 v2 : Value} {rest : List Value} (ho : M.1.cls = "LampMothsModel") (hd : decode M.2.1 pc = .ok (.invokevirtual 140, 3)) (hR : okR0 M M_Md_reads) {Q' : Hp → Option Value → Prop} (hsp : SP l D base M_Md_reads (.ref 42 :: [v1, v2]) h Q') (hw : (rest.map fun v => v.category).sum ≤ 8) (k : ∀ (h' : Hp) (r : Option Value), Q' h' r → WH l D base M (pc + 3) ls (r.toList ++ rest) h' Q) : WH l D base M pc ls (v2 :: v1 :: .ref 42 :: rest) h Q :=
  wh_callV (b := 42) (ci := 3) (As := [v1, v2]) (rest := rest) hd k_Md_reads hR (show Cond.methodLink M.1.cls 140 M_Md_reads.1 ∈ lw_gt by rw [ho]; exact ml_Md_140) ki_Md_reads kz_Md_reads rfl rfl rfl hsp rfl rfl hw k
theorem cv_Md_140_d {v1 v2 : Value} {rest : List Value} (ho : M.1.cls = "LampMothsModel") (hd : decode M.2.1 pc = .ok (.invokevirtual 140, 3)) (hR : okR0 M M_Md_reads) {h2 : Hp} {w : Value} (hsp : SD l D base M_Md_reads (.ref 42 :: [v1, v2]) h (some w) h2) (hw : (rest.map fun v => v.category).sum ≤ 8) (k : WH l D base M (pc + 3) ls (w :: rest) h2 Q) : WH l D base M pc ls (v2 :: v1 :: .ref 42 :: rest) h Q :=
  cv_Md_140 ho hd hR hsp hw (fun h' r e => by obtain ⟨rfl, rfl⟩ := e; exact k)
theorem cv_Md_140_i {v1 v2 : Value} {rest : List Value} (ho : M.1.cls = "LampMothsModel") (hd : decode M.2.1 pc = .ok (.invokevirtual 140, 3)) (hR : okR0 M M_Md_reads) {P : Hp → Int32 → Prop} (hsp : SI l D base M_Md_reads (.ref 42 :: [v1, v2]) h P) (hw : (rest.map fun v => v.category).sum ≤ 8) (k : ∀ (h' : Hp) (x : Int32), P h' x → WH l D base M (pc + 3) ls (.int x :: rest) h' Q) : WH l D base M pc ls (v2 :: v1 :: .ref 42 :: rest) h Q :=
  cv_Md_140 ho hd hR hsp hw (fun h' r e => by obtain ⟨x, rfl, hp⟩ := e; exact k h' x hp)
theorem ml_Md_157 : Cond.methodLink "LampMothsModel" 157 M_Md_noWindow.1 ∈ lw_gt := gt_at 754 (by decide +kernel) rfl
theorem cv_Md_157 {v1 : Value} {rest : List Value} (ho : M.1.cls = "LampMothsModel") (hd : decode M.2.1 pc = .ok (.invokevirtual 157, 3)) (hR : okR0 M M_Md_noWindow) {Q' : Hp → Option Value → Prop} (hsp : SP l D base M_Md_noWindow (.ref 42 :: [v1]) h Q') (hw : (rest.map fun v => v.category).sum ≤ 8) (k : ∀ (h' : Hp) (r : Option Value), Q' h' r → WH l D base M (pc + 3) ls (r.toList ++ rest) h' Q) : WH l D base M pc ls (v1 :: .ref 42 :: rest) h Q :=
  wh_callV (b := 42) (ci := 3) (As := [v1]) (rest := rest) hd k_Md_noWindow hR (show Cond.methodLink M.1.cls 157 M_Md_noWindow.1 ∈ lw_gt by rw [ho]; exact ml_Md_157) ki_Md_noWindow kz_Md_noWindow rfl rfl rfl hsp rfl rfl hw k
theorem cv_Md_157_d {v1 : Value} {rest : List Value} (ho : M.1.cls = "LampMothsModel") (hd : decode M.2.1 pc = .ok (.invokevirtual 157, 3)) (hR : okR0 M M_Md_noWindow) {h2 : Hp} {w : Value} (hsp : SD l D base M_Md_noWindow (.ref 42 :: [v1]) h (some w) h2) (hw : (rest.map fun v => v.category).sum ≤ 8) (k : WH l D base M (pc + 3) ls (w :: rest) h2 Q) : WH l D base M pc ls (v1 :: .ref 42 :: rest) h Q :=
  cv_Md_157 ho hd hR hsp hw (fun h' r e => by obtain ⟨rfl, rfl⟩ := e; exact k)
theorem cv_Md_157_i {v1 : Value} {rest : List Value} (ho : M.1.cls = "LampMothsModel") (hd : decode M.2.1 pc = .ok (.invokevirtual 157, 3)) (hR : okR0 M M_Md_noWindow) {P : Hp → Int32 → Prop} (hsp : SI l D base M_Md_noWindow (.ref 42 :: [v1]) h P) (hw : (rest.map fun v => v.category).sum ≤ 8) (k : ∀ (h' : Hp) (x : Int32), P h' x → WH l D base M (pc + 3) ls (.int x :: rest) h' Q) : WH l D base M pc ls (v1 :: .ref 42 :: rest) h Q :=
  cv_Md_157 ho hd hR hsp hw (fun h' r e => by obtain ⟨x, rfl, hp⟩ := e; exact k h' x hp)
theorem ml_Md_161 : Cond.methodLink "LampMothsModel" 161 M_Md_noMoth.1 ∈ lw_gt := gt_at 762 (by decide +kernel) rfl
theorem cv_Md_161 {v1 : Value} {rest : List Value} (ho : M.1.cls = "LampMothsModel") (hd : decode M.2.1 pc = .ok (.invokevirtual 161, 3)) (hR : okR0 M M_Md_noMoth) {Q' : Hp → Option Value → Prop} (hsp : SP l D base M_Md_noMoth (.ref 42 :: [v1]) h Q') (hw : (rest.map fun v => v.category).sum ≤ 8) (k : ∀ (h' : Hp) (r : Option Value), Q' h' r → WH l D base M (pc + 3) ls (r.toList ++ rest) h' Q) : WH l D base M pc ls (v1 :: .ref 42 :: rest) h Q :=
  wh_callV (b := 42) (ci := 3) (As := [v1]) (rest := rest) hd k_Md_noMoth hR (show Cond.methodLink M.1.cls 161 M_Md_noMoth.1 ∈ lw_gt by rw [ho]; exact ml_Md_161) ki_Md_noMoth kz_Md_noMoth rfl rfl rfl hsp rfl rfl hw k
theorem cv_Md_161_d {v1 : Value} {rest : List Value} (ho : M.1.cls = "LampMothsModel") (hd : decode M.2.1 pc = .ok (.invokevirtual 161, 3)) (hR : okR0 M M_Md_noMoth) {h2 : Hp} {w : Value} (hsp : SD l D base M_Md_noMoth (.ref 42 :: [v1]) h (some w) h2) (hw : (rest.map fun v => v.category).sum ≤ 8) (k : WH l D base M (pc + 3) ls (w :: rest) h2 Q) : WH l D base M pc ls (v1 :: .ref 42 :: rest) h Q :=
  cv_Md_161 ho hd hR hsp hw (fun h' r e => by obtain ⟨rfl, rfl⟩ := e; exact k)
theorem cv_Md_161_i {v1 : Value} {rest : List Value} (ho : M.1.cls = "LampMothsModel") (hd : decode M.2.1 pc = .ok (.invokevirtual 161, 3)) (hR : okR0 M M_Md_noMoth) {P : Hp → Int32 → Prop} (hsp : SI l D base M_Md_noMoth (.ref 42 :: [v1]) h P) (hw : (rest.map fun v => v.category).sum ≤ 8) (k : ∀ (h' : Hp) (x : Int32), P h' x → WH l D base M (pc + 3) ls (.int x :: rest) h' Q) : WH l D base M pc ls (v1 :: .ref 42 :: rest) h Q :=
  cv_Md_161 ho hd hR hsp hw (fun h' r e => by obtain ⟨x, rfl, hp⟩ := e; exact k h' x hp)
theorem ml_Md_169 : Cond.methodLink "LampMothsModel" 169 M_Md_turned.1 ∈ lw_gt := gt_at 774 (by decide +kernel) rfl
theorem cv_Md_169 {v1 v2 : Value} {rest : List Value} (ho : M.1.cls = "LampMothsModel") (hd : decode M.2.1 pc = .ok (.invokevirtual 169, 3)) (hR : okR0 M M_Md_turned) {Q' : Hp → Option Value → Prop} (hsp : SP l D base M_Md_turned (.ref 42 :: [v1, v2]) h Q') (hw : (rest.map fun v => v.category).sum ≤ 8) (k : ∀ (h' : Hp) (r : Option Value), Q' h' r → WH l D base M (pc + 3) ls (r.toList ++ rest) h' Q) : WH l D base M pc ls (v2 :: v1 :: .ref 42 :: rest) h Q :=
  wh_callV (b := 42) (ci := 3) (As := [v1, v2]) (rest := rest) hd k_Md_turned hR (show Cond.methodLink M.1.cls 169 M_Md_turned.1 ∈ lw_gt by rw [ho]; exact ml_Md_169) ki_Md_turned kz_Md_turned rfl rfl rfl hsp rfl rfl hw k
theorem cv_Md_169_d {v1 v2 : Value} {rest : List Value} (ho : M.1.cls = "LampMothsModel") (hd : decode M.2.1 pc = .ok (.invokevirtual 169, 3)) (hR : okR0 M M_Md_turned) {h2 : Hp} {w : Value} (hsp : SD l D base M_Md_turned (.ref 42 :: [v1, v2]) h (some w) h2) (hw : (rest.map fun v => v.category).sum ≤ 8) (k : WH l D base M (pc + 3) ls (w :: rest) h2 Q) : WH l D base M pc ls (v2 :: v1 :: .ref 42 :: rest) h Q :=
  cv_Md_169 ho hd hR hsp hw (fun h' r e => by obtain ⟨rfl, rfl⟩ := e; exact k)
theorem cv_Md_169_i {v1 v2 : Value} {rest : List Value} (ho : M.1.cls = "LampMothsModel") (hd : decode M.2.1 pc = .ok (.invokevirtual 169, 3)) (hR : okR0 M M_Md_turned) {P : Hp → Int32 → Prop} (hsp : SI l D base M_Md_turned (.ref 42 :: [v1, v2]) h P) (hw : (rest.map fun v => v.category).sum ≤ 8) (k : ∀ (h' : Hp) (x : Int32), P h' x → WH l D base M (pc + 3) ls (.int x :: rest) h' Q) : WH l D base M pc ls (v2 :: v1 :: .ref 42 :: rest) h Q :=
  cv_Md_169 ho hd hR hsp hw (fun h' r e => by obtain ⟨x, rfl, hp⟩ := e; exact k h' x hp)
theorem ml_Md_166 : Cond.methodLink "LampMothsModel" 166 M_Md_note.1 ∈ lw_gt := gt_at 779 (by decide +kernel) rfl
theorem cv_Md_166 {rest : List Value} (ho : M.1.cls = "LampMothsModel") (hd : decode M.2.1 pc = .ok (.invokevirtual 166, 3)) (hR : okR0 M M_Md_note) {Q' : Hp → Option Value → Prop} (hsp : SP l D base M_Md_note (.ref 42 :: []) h Q') (hw : (rest.map fun v => v.category).sum ≤ 8) (k : ∀ (h' : Hp) (r : Option Value), Q' h' r → WH l D base M (pc + 3) ls (r.toList ++ rest) h' Q) : WH l D base M pc ls (.ref 42 :: rest) h Q :=
  wh_callV (b := 42) (ci := 3) (As := []) (rest := rest) hd k_Md_note hR (show Cond.methodLink M.1.cls 166 M_Md_note.1 ∈ lw_gt by rw [ho]; exact ml_Md_166) ki_Md_note kz_Md_note rfl rfl rfl hsp rfl rfl hw k
theorem cv_Md_166_d {rest : List Value} (ho : M.1.cls = "LampMothsModel") (hd : decode M.2.1 pc = .ok (.invokevirtual 166, 3)) (hR : okR0 M M_Md_note) {h2 : Hp} (hsp : SD l D base M_Md_note (.ref 42 :: []) h none h2) (hw : (rest.map fun v => v.category).sum ≤ 8) (k : WH l D base M (pc + 3) ls rest h2 Q) : WH l D base M pc ls (.ref 42 :: rest) h Q :=
  cv_Md_166 ho hd hR hsp hw (fun h' r e => by obtain ⟨rfl, rfl⟩ := e; exact k)
theorem cv_Md_166_v {rest : List Value} (ho : M.1.cls = "LampMothsModel") (hd : decode M.2.1 pc = .ok (.invokevirtual 166, 3)) (hR : okR0 M M_Md_note) {P : Hp → Prop} (hsp : SV l D base M_Md_note (.ref 42 :: []) h P) (hw : (rest.map fun v => v.category).sum ≤ 8) (k : ∀ h' : Hp, P h' → WH l D base M (pc + 3) ls rest h' Q) : WH l D base M pc ls (.ref 42 :: rest) h Q :=
  cv_Md_166 ho hd hR hsp hw (fun h' r e => by obtain ⟨rfl, hp⟩ := e; exact k h' hp)
theorem ml_Md_177 : Cond.methodLink "LampMothsModel" 177 M_Md_goNight.1 ∈ lw_gt := gt_at 800 (by decide +kernel) rfl
theorem cv_Md_177 {v1 : Value} {rest : List Value} (ho : M.1.cls = "LampMothsModel") (hd : decode M.2.1 pc = .ok (.invokevirtual 177, 3)) (hR : okR0 M M_Md_goNight) {Q' : Hp → Option Value → Prop} (hsp : SP l D base M_Md_goNight (.ref 42 :: [v1]) h Q') (hw : (rest.map fun v => v.category).sum ≤ 8) (k : ∀ (h' : Hp) (r : Option Value), Q' h' r → WH l D base M (pc + 3) ls (r.toList ++ rest) h' Q) : WH l D base M pc ls (v1 :: .ref 42 :: rest) h Q :=
  wh_callV (b := 42) (ci := 3) (As := [v1]) (rest := rest) hd k_Md_goNight hR (show Cond.methodLink M.1.cls 177 M_Md_goNight.1 ∈ lw_gt by rw [ho]; exact ml_Md_177) ki_Md_goNight kz_Md_goNight rfl rfl rfl hsp rfl rfl hw k
theorem cv_Md_177_d {v1 : Value} {rest : List Value} (ho : M.1.cls = "LampMothsModel") (hd : decode M.2.1 pc = .ok (.invokevirtual 177, 3)) (hR : okR0 M M_Md_goNight) {h2 : Hp} {w : Value} (hsp : SD l D base M_Md_goNight (.ref 42 :: [v1]) h (some w) h2) (hw : (rest.map fun v => v.category).sum ≤ 8) (k : WH l D base M (pc + 3) ls (w :: rest) h2 Q) : WH l D base M pc ls (v1 :: .ref 42 :: rest) h Q :=
  cv_Md_177 ho hd hR hsp hw (fun h' r e => by obtain ⟨rfl, rfl⟩ := e; exact k)
theorem cv_Md_177_i {v1 : Value} {rest : List Value} (ho : M.1.cls = "LampMothsModel") (hd : decode M.2.1 pc = .ok (.invokevirtual 177, 3)) (hR : okR0 M M_Md_goNight) {P : Hp → Int32 → Prop} (hsp : SI l D base M_Md_goNight (.ref 42 :: [v1]) h P) (hw : (rest.map fun v => v.category).sum ≤ 8) (k : ∀ (h' : Hp) (x : Int32), P h' x → WH l D base M (pc + 3) ls (.int x :: rest) h' Q) : WH l D base M pc ls (v1 :: .ref 42 :: rest) h Q :=
  cv_Md_177 ho hd hR hsp hw (fun h' r e => by obtain ⟨x, rfl, hp⟩ := e; exact k h' x hp)
theorem ml_Md_174 : Cond.methodLink "LampMothsModel" 174 M_Md_leastOf.1 ∈ lw_gt := gt_at 804 (by decide +kernel) rfl
theorem cv_Md_174 {v1 : Value} {rest : List Value} (ho : M.1.cls = "LampMothsModel") (hd : decode M.2.1 pc = .ok (.invokevirtual 174, 3)) (hR : okR0 M M_Md_leastOf) {Q' : Hp → Option Value → Prop} (hsp : SP l D base M_Md_leastOf (.ref 42 :: [v1]) h Q') (hw : (rest.map fun v => v.category).sum ≤ 8) (k : ∀ (h' : Hp) (r : Option Value), Q' h' r → WH l D base M (pc + 3) ls (r.toList ++ rest) h' Q) : WH l D base M pc ls (v1 :: .ref 42 :: rest) h Q :=
  wh_callV (b := 42) (ci := 3) (As := [v1]) (rest := rest) hd k_Md_leastOf hR (show Cond.methodLink M.1.cls 174 M_Md_leastOf.1 ∈ lw_gt by rw [ho]; exact ml_Md_174) ki_Md_leastOf kz_Md_leastOf rfl rfl rfl hsp rfl rfl hw k
theorem cv_Md_174_d {v1 : Value} {rest : List Value} (ho : M.1.cls = "LampMothsModel") (hd : decode M.2.1 pc = .ok (.invokevirtual 174, 3)) (hR : okR0 M M_Md_leastOf) {h2 : Hp} {w : Value} (hsp : SD l D base M_Md_leastOf (.ref 42 :: [v1]) h (some w) h2) (hw : (rest.map fun v => v.category).sum ≤ 8) (k : WH l D base M (pc + 3) ls (w :: rest) h2 Q) : WH l D base M pc ls (v1 :: .ref 42 :: rest) h Q :=
  cv_Md_174 ho hd hR hsp hw (fun h' r e => by obtain ⟨rfl, rfl⟩ := e; exact k)
theorem cv_Md_174_i {v1 : Value} {rest : List Value} (ho : M.1.cls = "LampMothsModel") (hd : decode M.2.1 pc = .ok (.invokevirtual 174, 3)) (hR : okR0 M M_Md_leastOf) {P : Hp → Int32 → Prop} (hsp : SI l D base M_Md_leastOf (.ref 42 :: [v1]) h P) (hw : (rest.map fun v => v.category).sum ≤ 8) (k : ∀ (h' : Hp) (x : Int32), P h' x → WH l D base M (pc + 3) ls (.int x :: rest) h' Q) : WH l D base M pc ls (v1 :: .ref 42 :: rest) h Q :=
  cv_Md_174 ho hd hR hsp hw (fun h' r e => by obtain ⟨x, rfl, hp⟩ := e; exact k h' x hp)
theorem ml_Md_185 : Cond.methodLink "LampMothsModel" 185 M_Md_owesBy.1 ∈ lw_gt := gt_at 817 (by decide +kernel) rfl
theorem cv_Md_185 {v1 v2 v3 : Value} {rest : List Value} (ho : M.1.cls = "LampMothsModel") (hd : decode M.2.1 pc = .ok (.invokevirtual 185, 3)) (hR : okR0 M M_Md_owesBy) {Q' : Hp → Option Value → Prop} (hsp : SP l D base M_Md_owesBy (.ref 42 :: [v1, v2, v3]) h Q') (hw : (rest.map fun v => v.category).sum ≤ 8) (k : ∀ (h' : Hp) (r : Option Value), Q' h' r → WH l D base M (pc + 3) ls (r.toList ++ rest) h' Q) : WH l D base M pc ls (v3 :: v2 :: v1 :: .ref 42 :: rest) h Q :=
  wh_callV (b := 42) (ci := 3) (As := [v1, v2, v3]) (rest := rest) hd k_Md_owesBy hR (show Cond.methodLink M.1.cls 185 M_Md_owesBy.1 ∈ lw_gt by rw [ho]; exact ml_Md_185) ki_Md_owesBy kz_Md_owesBy rfl rfl rfl hsp rfl rfl hw k
theorem cv_Md_185_d {v1 v2 v3 : Value} {rest : List Value} (ho : M.1.cls = "LampMothsModel") (hd : decode M.2.1 pc = .ok (.invokevirtual 185, 3)) (hR : okR0 M M_Md_owesBy) {h2 : Hp} {w : Value} (hsp : SD l D base M_Md_owesBy (.ref 42 :: [v1, v2, v3]) h (some w) h2) (hw : (rest.map fun v => v.category).sum ≤ 8) (k : WH l D base M (pc + 3) ls (w :: rest) h2 Q) : WH l D base M pc ls (v3 :: v2 :: v1 :: .ref 42 :: rest) h Q :=
  cv_Md_185 ho hd hR hsp hw (fun h' r e => by obtain ⟨rfl, rfl⟩ := e; exact k)
theorem cv_Md_185_i {v1 v2 v3 : Value} {rest : List Value} (ho : M.1.cls = "LampMothsModel") (hd : decode M.2.1 pc = .ok (.invokevirtual 185, 3)) (hR : okR0 M M_Md_owesBy) {P : Hp → Int32 → Prop} (hsp : SI l D base M_Md_owesBy (.ref 42 :: [v1, v2, v3]) h P) (hw : (rest.map fun v => v.category).sum ≤ 8) (k : ∀ (h' : Hp) (x : Int32), P h' x → WH l D base M (pc + 3) ls (.int x :: rest) h' Q) : WH l D base M pc ls (v3 :: v2 :: v1 :: .ref 42 :: rest) h Q :=
  cv_Md_185 ho hd hR hsp hw (fun h' r e => by obtain ⟨x, rfl, hp⟩ := e; exact k h' x hp)
theorem ml_Md_180 : Cond.methodLink "LampMothsModel" 180 M_Md_begin.1 ∈ lw_gt := gt_at 821 (by decide +kernel) rfl
theorem cv_Md_180 {rest : List Value} (ho : M.1.cls = "LampMothsModel") (hd : decode M.2.1 pc = .ok (.invokevirtual 180, 3)) (hR : okR0 M M_Md_begin) {Q' : Hp → Option Value → Prop} (hsp : SP l D base M_Md_begin (.ref 42 :: []) h Q') (hw : (rest.map fun v => v.category).sum ≤ 8) (k : ∀ (h' : Hp) (r : Option Value), Q' h' r → WH l D base M (pc + 3) ls (r.toList ++ rest) h' Q) : WH l D base M pc ls (.ref 42 :: rest) h Q :=
  wh_callV (b := 42) (ci := 3) (As := []) (rest := rest) hd k_Md_begin hR (show Cond.methodLink M.1.cls 180 M_Md_begin.1 ∈ lw_gt by rw [ho]; exact ml_Md_180) ki_Md_begin kz_Md_begin rfl rfl rfl hsp rfl rfl hw k
theorem cv_Md_180_d {rest : List Value} (ho : M.1.cls = "LampMothsModel") (hd : decode M.2.1 pc = .ok (.invokevirtual 180, 3)) (hR : okR0 M M_Md_begin) {h2 : Hp} (hsp : SD l D base M_Md_begin (.ref 42 :: []) h none h2) (hw : (rest.map fun v => v.category).sum ≤ 8) (k : WH l D base M (pc + 3) ls rest h2 Q) : WH l D base M pc ls (.ref 42 :: rest) h Q :=
  cv_Md_180 ho hd hR hsp hw (fun h' r e => by obtain ⟨rfl, rfl⟩ := e; exact k)
theorem cv_Md_180_v {rest : List Value} (ho : M.1.cls = "LampMothsModel") (hd : decode M.2.1 pc = .ok (.invokevirtual 180, 3)) (hR : okR0 M M_Md_begin) {P : Hp → Prop} (hsp : SV l D base M_Md_begin (.ref 42 :: []) h P) (hw : (rest.map fun v => v.category).sum ≤ 8) (k : ∀ h' : Hp, P h' → WH l D base M (pc + 3) ls rest h' Q) : WH l D base M pc ls (.ref 42 :: rest) h Q :=
  cv_Md_180 ho hd hR hsp hw (fun h' r e => by obtain ⟨rfl, hp⟩ := e; exact k h' hp)
theorem ml_Md_198 : Cond.methodLink "LampMothsModel" 198 M_Md_findCheap.1 ∈ lw_gt := gt_at 829 (by decide +kernel) rfl
theorem cv_Md_198 {rest : List Value} (ho : M.1.cls = "LampMothsModel") (hd : decode M.2.1 pc = .ok (.invokevirtual 198, 3)) (hR : okR0 M M_Md_findCheap) {Q' : Hp → Option Value → Prop} (hsp : SP l D base M_Md_findCheap (.ref 42 :: []) h Q') (hw : (rest.map fun v => v.category).sum ≤ 8) (k : ∀ (h' : Hp) (r : Option Value), Q' h' r → WH l D base M (pc + 3) ls (r.toList ++ rest) h' Q) : WH l D base M pc ls (.ref 42 :: rest) h Q :=
  wh_callV (b := 42) (ci := 3) (As := []) (rest := rest) hd k_Md_findCheap hR (show Cond.methodLink M.1.cls 198 M_Md_findCheap.1 ∈ lw_gt by rw [ho]; exact ml_Md_198) ki_Md_findCheap kz_Md_findCheap rfl rfl rfl hsp rfl rfl hw k
theorem cv_Md_198_d {rest : List Value} (ho : M.1.cls = "LampMothsModel") (hd : decode M.2.1 pc = .ok (.invokevirtual 198, 3)) (hR : okR0 M M_Md_findCheap) {h2 : Hp} (hsp : SD l D base M_Md_findCheap (.ref 42 :: []) h none h2) (hw : (rest.map fun v => v.category).sum ≤ 8) (k : WH l D base M (pc + 3) ls rest h2 Q) : WH l D base M pc ls (.ref 42 :: rest) h Q :=
  cv_Md_198 ho hd hR hsp hw (fun h' r e => by obtain ⟨rfl, rfl⟩ := e; exact k)
theorem cv_Md_198_v {rest : List Value} (ho : M.1.cls = "LampMothsModel") (hd : decode M.2.1 pc = .ok (.invokevirtual 198, 3)) (hR : okR0 M M_Md_findCheap) {P : Hp → Prop} (hsp : SV l D base M_Md_findCheap (.ref 42 :: []) h P) (hw : (rest.map fun v => v.category).sum ≤ 8) (k : ∀ h' : Hp, P h' → WH l D base M (pc + 3) ls rest h' Q) : WH l D base M pc ls (.ref 42 :: rest) h Q :=
  cv_Md_198 ho hd hR hsp hw (fun h' r e => by obtain ⟨rfl, hp⟩ := e; exact k h' hp)
theorem ml_Md_195 : Cond.methodLink "LampMothsModel" 195 M_Md_power.1 ∈ lw_gt := gt_at 833 (by decide +kernel) rfl
theorem cs_Md_195 {v1 v2 : Value} {rest : List Value} (ho : M.1.cls = "LampMothsModel") (hd : decode M.2.1 pc = .ok (.invokestatic 195, 3)) (hR : okR0 M M_Md_power) {Q' : Hp → Option Value → Prop} (hsp : SP l D base M_Md_power [v1, v2] h Q') (hw : (rest.map fun v => v.category).sum ≤ 8) (k : ∀ (h' : Hp) (r : Option Value), Q' h' r → WH l D base M (pc + 3) ls (r.toList ++ rest) h' Q) : WH l D base M pc ls (v2 :: v1 :: rest) h Q :=
  wh_callS (As := [v1, v2]) (rest := rest) hd k_Md_power hR (show Cond.methodLink M.1.cls 195 M_Md_power.1 ∈ lw_gt by rw [ho]; exact ml_Md_195) ks_Md_power hsp rfl rfl hw k
theorem cs_Md_195_d {v1 v2 : Value} {rest : List Value} (ho : M.1.cls = "LampMothsModel") (hd : decode M.2.1 pc = .ok (.invokestatic 195, 3)) (hR : okR0 M M_Md_power) {h2 : Hp} {w : Value} (hsp : SD l D base M_Md_power [v1, v2] h (some w) h2) (hw : (rest.map fun v => v.category).sum ≤ 8) (k : WH l D base M (pc + 3) ls (w :: rest) h2 Q) : WH l D base M pc ls (v2 :: v1 :: rest) h Q :=
  cs_Md_195 ho hd hR hsp hw (fun h' r e => by obtain ⟨rfl, rfl⟩ := e; exact k)
theorem cs_Md_195_i {v1 v2 : Value} {rest : List Value} (ho : M.1.cls = "LampMothsModel") (hd : decode M.2.1 pc = .ok (.invokestatic 195, 3)) (hR : okR0 M M_Md_power) {P : Hp → Int32 → Prop} (hsp : SI l D base M_Md_power [v1, v2] h P) (hw : (rest.map fun v => v.category).sum ≤ 8) (k : ∀ (h' : Hp) (x : Int32), P h' x → WH l D base M (pc + 3) ls (.int x :: rest) h' Q) : WH l D base M pc ls (v2 :: v1 :: rest) h Q :=
  cs_Md_195 ho hd hR hsp hw (fun h' r e => by obtain ⟨x, rfl, hp⟩ := e; exact k h' x hp)
theorem ml_Md_210 : Cond.methodLink "LampMothsModel" 210 M_Md_findMoving.1 ∈ lw_gt := gt_at 840 (by decide +kernel) rfl
theorem cv_Md_210 {rest : List Value} (ho : M.1.cls = "LampMothsModel") (hd : decode M.2.1 pc = .ok (.invokevirtual 210, 3)) (hR : okR0 M M_Md_findMoving) {Q' : Hp → Option Value → Prop} (hsp : SP l D base M_Md_findMoving (.ref 42 :: []) h Q') (hw : (rest.map fun v => v.category).sum ≤ 8) (k : ∀ (h' : Hp) (r : Option Value), Q' h' r → WH l D base M (pc + 3) ls (r.toList ++ rest) h' Q) : WH l D base M pc ls (.ref 42 :: rest) h Q :=
  wh_callV (b := 42) (ci := 3) (As := []) (rest := rest) hd k_Md_findMoving hR (show Cond.methodLink M.1.cls 210 M_Md_findMoving.1 ∈ lw_gt by rw [ho]; exact ml_Md_210) ki_Md_findMoving kz_Md_findMoving rfl rfl rfl hsp rfl rfl hw k
theorem cv_Md_210_d {rest : List Value} (ho : M.1.cls = "LampMothsModel") (hd : decode M.2.1 pc = .ok (.invokevirtual 210, 3)) (hR : okR0 M M_Md_findMoving) {h2 : Hp} (hsp : SD l D base M_Md_findMoving (.ref 42 :: []) h none h2) (hw : (rest.map fun v => v.category).sum ≤ 8) (k : WH l D base M (pc + 3) ls rest h2 Q) : WH l D base M pc ls (.ref 42 :: rest) h Q :=
  cv_Md_210 ho hd hR hsp hw (fun h' r e => by obtain ⟨rfl, rfl⟩ := e; exact k)
theorem cv_Md_210_v {rest : List Value} (ho : M.1.cls = "LampMothsModel") (hd : decode M.2.1 pc = .ok (.invokevirtual 210, 3)) (hR : okR0 M M_Md_findMoving) {P : Hp → Prop} (hsp : SV l D base M_Md_findMoving (.ref 42 :: []) h P) (hw : (rest.map fun v => v.category).sum ≤ 8) (k : ∀ h' : Hp, P h' → WH l D base M (pc + 3) ls rest h' Q) : WH l D base M pc ls (.ref 42 :: rest) h Q :=
  cv_Md_210 ho hd hR hsp hw (fun h' r e => by obtain ⟨rfl, hp⟩ := e; exact k h' hp)
theorem ml_Md_207 : Cond.methodLink "LampMothsModel" 207 M_Md_isFree.1 ∈ lw_gt := gt_at 844 (by decide +kernel) rfl
theorem cv_Md_207 {v1 : Value} {rest : List Value} (ho : M.1.cls = "LampMothsModel") (hd : decode M.2.1 pc = .ok (.invokevirtual 207, 3)) (hR : okR0 M M_Md_isFree) {Q' : Hp → Option Value → Prop} (hsp : SP l D base M_Md_isFree (.ref 42 :: [v1]) h Q') (hw : (rest.map fun v => v.category).sum ≤ 8) (k : ∀ (h' : Hp) (r : Option Value), Q' h' r → WH l D base M (pc + 3) ls (r.toList ++ rest) h' Q) : WH l D base M pc ls (v1 :: .ref 42 :: rest) h Q :=
  wh_callV (b := 42) (ci := 3) (As := [v1]) (rest := rest) hd k_Md_isFree hR (show Cond.methodLink M.1.cls 207 M_Md_isFree.1 ∈ lw_gt by rw [ho]; exact ml_Md_207) ki_Md_isFree kz_Md_isFree rfl rfl rfl hsp rfl rfl hw k
theorem cv_Md_207_d {v1 : Value} {rest : List Value} (ho : M.1.cls = "LampMothsModel") (hd : decode M.2.1 pc = .ok (.invokevirtual 207, 3)) (hR : okR0 M M_Md_isFree) {h2 : Hp} {w : Value} (hsp : SD l D base M_Md_isFree (.ref 42 :: [v1]) h (some w) h2) (hw : (rest.map fun v => v.category).sum ≤ 8) (k : WH l D base M (pc + 3) ls (w :: rest) h2 Q) : WH l D base M pc ls (v1 :: .ref 42 :: rest) h Q :=
  cv_Md_207 ho hd hR hsp hw (fun h' r e => by obtain ⟨rfl, rfl⟩ := e; exact k)
theorem cv_Md_207_i {v1 : Value} {rest : List Value} (ho : M.1.cls = "LampMothsModel") (hd : decode M.2.1 pc = .ok (.invokevirtual 207, 3)) (hR : okR0 M M_Md_isFree) {P : Hp → Int32 → Prop} (hsp : SI l D base M_Md_isFree (.ref 42 :: [v1]) h P) (hw : (rest.map fun v => v.category).sum ≤ 8) (k : ∀ (h' : Hp) (x : Int32), P h' x → WH l D base M (pc + 3) ls (.int x :: rest) h' Q) : WH l D base M pc ls (v1 :: .ref 42 :: rest) h Q :=
  cv_Md_207 ho hd hR hsp hw (fun h' r e => by obtain ⟨x, rfl, hp⟩ := e; exact k h' x hp)
theorem ml_Md_215 : Cond.methodLink "LampMothsModel" 215 M_Md_does.1 ∈ lw_gt := gt_at 853 (by decide +kernel) rfl
theorem cv_Md_215 {v1 : Value} {rest : List Value} (ho : M.1.cls = "LampMothsModel") (hd : decode M.2.1 pc = .ok (.invokevirtual 215, 3)) (hR : okR0 M M_Md_does) {Q' : Hp → Option Value → Prop} (hsp : SP l D base M_Md_does (.ref 42 :: [v1]) h Q') (hw : (rest.map fun v => v.category).sum ≤ 8) (k : ∀ (h' : Hp) (r : Option Value), Q' h' r → WH l D base M (pc + 3) ls (r.toList ++ rest) h' Q) : WH l D base M pc ls (v1 :: .ref 42 :: rest) h Q :=
  wh_callV (b := 42) (ci := 3) (As := [v1]) (rest := rest) hd k_Md_does hR (show Cond.methodLink M.1.cls 215 M_Md_does.1 ∈ lw_gt by rw [ho]; exact ml_Md_215) ki_Md_does kz_Md_does rfl rfl rfl hsp rfl rfl hw k
theorem cv_Md_215_d {v1 : Value} {rest : List Value} (ho : M.1.cls = "LampMothsModel") (hd : decode M.2.1 pc = .ok (.invokevirtual 215, 3)) (hR : okR0 M M_Md_does) {h2 : Hp} {w : Value} (hsp : SD l D base M_Md_does (.ref 42 :: [v1]) h (some w) h2) (hw : (rest.map fun v => v.category).sum ≤ 8) (k : WH l D base M (pc + 3) ls (w :: rest) h2 Q) : WH l D base M pc ls (v1 :: .ref 42 :: rest) h Q :=
  cv_Md_215 ho hd hR hsp hw (fun h' r e => by obtain ⟨rfl, rfl⟩ := e; exact k)
theorem cv_Md_215_i {v1 : Value} {rest : List Value} (ho : M.1.cls = "LampMothsModel") (hd : decode M.2.1 pc = .ok (.invokevirtual 215, 3)) (hR : okR0 M M_Md_does) {P : Hp → Int32 → Prop} (hsp : SI l D base M_Md_does (.ref 42 :: [v1]) h P) (hw : (rest.map fun v => v.category).sum ≤ 8) (k : ∀ (h' : Hp) (x : Int32), P h' x → WH l D base M (pc + 3) ls (.int x :: rest) h' Q) : WH l D base M pc ls (v1 :: .ref 42 :: rest) h Q :=
  cv_Md_215 ho hd hR hsp hw (fun h' r e => by obtain ⟨x, rfl, hp⟩ := e; exact k h' x hp)
theorem ml_Md_221 : Cond.methodLink "LampMothsModel" 221 M_Md_ways.1 ∈ lw_gt := gt_at 861 (by decide +kernel) rfl
theorem cs_Md_221 {v1 : Value} {rest : List Value} (ho : M.1.cls = "LampMothsModel") (hd : decode M.2.1 pc = .ok (.invokestatic 221, 3)) (hR : okR0 M M_Md_ways) {Q' : Hp → Option Value → Prop} (hsp : SP l D base M_Md_ways [v1] h Q') (hw : (rest.map fun v => v.category).sum ≤ 8) (k : ∀ (h' : Hp) (r : Option Value), Q' h' r → WH l D base M (pc + 3) ls (r.toList ++ rest) h' Q) : WH l D base M pc ls (v1 :: rest) h Q :=
  wh_callS (As := [v1]) (rest := rest) hd k_Md_ways hR (show Cond.methodLink M.1.cls 221 M_Md_ways.1 ∈ lw_gt by rw [ho]; exact ml_Md_221) ks_Md_ways hsp rfl rfl hw k
theorem cs_Md_221_d {v1 : Value} {rest : List Value} (ho : M.1.cls = "LampMothsModel") (hd : decode M.2.1 pc = .ok (.invokestatic 221, 3)) (hR : okR0 M M_Md_ways) {h2 : Hp} {w : Value} (hsp : SD l D base M_Md_ways [v1] h (some w) h2) (hw : (rest.map fun v => v.category).sum ≤ 8) (k : WH l D base M (pc + 3) ls (w :: rest) h2 Q) : WH l D base M pc ls (v1 :: rest) h Q :=
  cs_Md_221 ho hd hR hsp hw (fun h' r e => by obtain ⟨rfl, rfl⟩ := e; exact k)
theorem cs_Md_221_i {v1 : Value} {rest : List Value} (ho : M.1.cls = "LampMothsModel") (hd : decode M.2.1 pc = .ok (.invokestatic 221, 3)) (hR : okR0 M M_Md_ways) {P : Hp → Int32 → Prop} (hsp : SI l D base M_Md_ways [v1] h P) (hw : (rest.map fun v => v.category).sum ≤ 8) (k : ∀ (h' : Hp) (x : Int32), P h' x → WH l D base M (pc + 3) ls (.int x :: rest) h' Q) : WH l D base M pc ls (v1 :: rest) h Q :=
  cs_Md_221 ho hd hR hsp hw (fun h' r e => by obtain ⟨x, rfl, hp⟩ := e; exact k h' x hp)
theorem ml_Md_224 : Cond.methodLink "LampMothsModel" 224 M_Md_fraction.1 ∈ lw_gt := gt_at 864 (by decide +kernel) rfl
theorem cs_Md_224 {v1 v2 v3 : Value} {rest : List Value} (ho : M.1.cls = "LampMothsModel") (hd : decode M.2.1 pc = .ok (.invokestatic 224, 3)) (hR : okR0 M M_Md_fraction) {Q' : Hp → Option Value → Prop} (hsp : SP l D base M_Md_fraction [v1, v2, v3] h Q') (hw : (rest.map fun v => v.category).sum ≤ 8) (k : ∀ (h' : Hp) (r : Option Value), Q' h' r → WH l D base M (pc + 3) ls (r.toList ++ rest) h' Q) : WH l D base M pc ls (v3 :: v2 :: v1 :: rest) h Q :=
  wh_callS (As := [v1, v2, v3]) (rest := rest) hd k_Md_fraction hR (show Cond.methodLink M.1.cls 224 M_Md_fraction.1 ∈ lw_gt by rw [ho]; exact ml_Md_224) ks_Md_fraction hsp rfl rfl hw k
theorem cs_Md_224_d {v1 v2 v3 : Value} {rest : List Value} (ho : M.1.cls = "LampMothsModel") (hd : decode M.2.1 pc = .ok (.invokestatic 224, 3)) (hR : okR0 M M_Md_fraction) {h2 : Hp} {w : Value} (hsp : SD l D base M_Md_fraction [v1, v2, v3] h (some w) h2) (hw : (rest.map fun v => v.category).sum ≤ 8) (k : WH l D base M (pc + 3) ls (w :: rest) h2 Q) : WH l D base M pc ls (v3 :: v2 :: v1 :: rest) h Q :=
  cs_Md_224 ho hd hR hsp hw (fun h' r e => by obtain ⟨rfl, rfl⟩ := e; exact k)
theorem cs_Md_224_i {v1 v2 v3 : Value} {rest : List Value} (ho : M.1.cls = "LampMothsModel") (hd : decode M.2.1 pc = .ok (.invokestatic 224, 3)) (hR : okR0 M M_Md_fraction) {P : Hp → Int32 → Prop} (hsp : SI l D base M_Md_fraction [v1, v2, v3] h P) (hw : (rest.map fun v => v.category).sum ≤ 8) (k : ∀ (h' : Hp) (x : Int32), P h' x → WH l D base M (pc + 3) ls (.int x :: rest) h' Q) : WH l D base M pc ls (v3 :: v2 :: v1 :: rest) h Q :=
  cs_Md_224 ho hd hR hsp hw (fun h' r e => by obtain ⟨x, rfl, hp⟩ := e; exact k h' x hp)
theorem ml_Md_218 : Cond.methodLink "LampMothsModel" 218 M_Md_divisor.1 ∈ lw_gt := gt_at 867 (by decide +kernel) rfl
theorem cs_Md_218 {v1 v2 : Value} {rest : List Value} (ho : M.1.cls = "LampMothsModel") (hd : decode M.2.1 pc = .ok (.invokestatic 218, 3)) (hR : okR0 M M_Md_divisor) {Q' : Hp → Option Value → Prop} (hsp : SP l D base M_Md_divisor [v1, v2] h Q') (hw : (rest.map fun v => v.category).sum ≤ 8) (k : ∀ (h' : Hp) (r : Option Value), Q' h' r → WH l D base M (pc + 3) ls (r.toList ++ rest) h' Q) : WH l D base M pc ls (v2 :: v1 :: rest) h Q :=
  wh_callS (As := [v1, v2]) (rest := rest) hd k_Md_divisor hR (show Cond.methodLink M.1.cls 218 M_Md_divisor.1 ∈ lw_gt by rw [ho]; exact ml_Md_218) ks_Md_divisor hsp rfl rfl hw k
theorem cs_Md_218_d {v1 v2 : Value} {rest : List Value} (ho : M.1.cls = "LampMothsModel") (hd : decode M.2.1 pc = .ok (.invokestatic 218, 3)) (hR : okR0 M M_Md_divisor) {h2 : Hp} {w : Value} (hsp : SD l D base M_Md_divisor [v1, v2] h (some w) h2) (hw : (rest.map fun v => v.category).sum ≤ 8) (k : WH l D base M (pc + 3) ls (w :: rest) h2 Q) : WH l D base M pc ls (v2 :: v1 :: rest) h Q :=
  cs_Md_218 ho hd hR hsp hw (fun h' r e => by obtain ⟨rfl, rfl⟩ := e; exact k)
theorem cs_Md_218_i {v1 v2 : Value} {rest : List Value} (ho : M.1.cls = "LampMothsModel") (hd : decode M.2.1 pc = .ok (.invokestatic 218, 3)) (hR : okR0 M M_Md_divisor) {P : Hp → Int32 → Prop} (hsp : SI l D base M_Md_divisor [v1, v2] h P) (hw : (rest.map fun v => v.category).sum ≤ 8) (k : ∀ (h' : Hp) (x : Int32), P h' x → WH l D base M (pc + 3) ls (.int x :: rest) h' Q) : WH l D base M pc ls (v2 :: v1 :: rest) h Q :=
  cs_Md_218 ho hd hR hsp hw (fun h' r e => by obtain ⟨x, rfl, hp⟩ := e; exact k h' x hp)
theorem ml_Md_237 : Cond.methodLink "LampMothsModel" 237 M_Md_findRests.1 ∈ lw_gt := gt_at 886 (by decide +kernel) rfl
theorem cv_Md_237 {v1 v2 : Value} {rest : List Value} (ho : M.1.cls = "LampMothsModel") (hd : decode M.2.1 pc = .ok (.invokevirtual 237, 3)) (hR : okR0 M M_Md_findRests) {Q' : Hp → Option Value → Prop} (hsp : SP l D base M_Md_findRests (.ref 42 :: [v1, v2]) h Q') (hw : (rest.map fun v => v.category).sum ≤ 8) (k : ∀ (h' : Hp) (r : Option Value), Q' h' r → WH l D base M (pc + 3) ls (r.toList ++ rest) h' Q) : WH l D base M pc ls (v2 :: v1 :: .ref 42 :: rest) h Q :=
  wh_callV (b := 42) (ci := 3) (As := [v1, v2]) (rest := rest) hd k_Md_findRests hR (show Cond.methodLink M.1.cls 237 M_Md_findRests.1 ∈ lw_gt by rw [ho]; exact ml_Md_237) ki_Md_findRests kz_Md_findRests rfl rfl rfl hsp rfl rfl hw k
theorem cv_Md_237_d {v1 v2 : Value} {rest : List Value} (ho : M.1.cls = "LampMothsModel") (hd : decode M.2.1 pc = .ok (.invokevirtual 237, 3)) (hR : okR0 M M_Md_findRests) {h2 : Hp} (hsp : SD l D base M_Md_findRests (.ref 42 :: [v1, v2]) h none h2) (hw : (rest.map fun v => v.category).sum ≤ 8) (k : WH l D base M (pc + 3) ls rest h2 Q) : WH l D base M pc ls (v2 :: v1 :: .ref 42 :: rest) h Q :=
  cv_Md_237 ho hd hR hsp hw (fun h' r e => by obtain ⟨rfl, rfl⟩ := e; exact k)
theorem cv_Md_237_v {v1 v2 : Value} {rest : List Value} (ho : M.1.cls = "LampMothsModel") (hd : decode M.2.1 pc = .ok (.invokevirtual 237, 3)) (hR : okR0 M M_Md_findRests) {P : Hp → Prop} (hsp : SV l D base M_Md_findRests (.ref 42 :: [v1, v2]) h P) (hw : (rest.map fun v => v.category).sum ≤ 8) (k : ∀ h' : Hp, P h' → WH l D base M (pc + 3) ls rest h' Q) : WH l D base M pc ls (v2 :: v1 :: .ref 42 :: rest) h Q :=
  cv_Md_237 ho hd hR hsp hw (fun h' r e => by obtain ⟨rfl, hp⟩ := e; exact k h' hp)
theorem ml_Md_228 : Cond.methodLink "LampMothsModel" 228 M_Md_gainOf.1 ∈ lw_gt := gt_at 890 (by decide +kernel) rfl
theorem cv_Md_228 {v1 v2 : Value} {rest : List Value} (ho : M.1.cls = "LampMothsModel") (hd : decode M.2.1 pc = .ok (.invokevirtual 228, 3)) (hR : okR0 M M_Md_gainOf) {Q' : Hp → Option Value → Prop} (hsp : SP l D base M_Md_gainOf (.ref 42 :: [v1, v2]) h Q') (hw : (rest.map fun v => v.category).sum ≤ 8) (k : ∀ (h' : Hp) (r : Option Value), Q' h' r → WH l D base M (pc + 3) ls (r.toList ++ rest) h' Q) : WH l D base M pc ls (v2 :: v1 :: .ref 42 :: rest) h Q :=
  wh_callV (b := 42) (ci := 3) (As := [v1, v2]) (rest := rest) hd k_Md_gainOf hR (show Cond.methodLink M.1.cls 228 M_Md_gainOf.1 ∈ lw_gt by rw [ho]; exact ml_Md_228) ki_Md_gainOf kz_Md_gainOf rfl rfl rfl hsp rfl rfl hw k
theorem cv_Md_228_d {v1 v2 : Value} {rest : List Value} (ho : M.1.cls = "LampMothsModel") (hd : decode M.2.1 pc = .ok (.invokevirtual 228, 3)) (hR : okR0 M M_Md_gainOf) {h2 : Hp} {w : Value} (hsp : SD l D base M_Md_gainOf (.ref 42 :: [v1, v2]) h (some w) h2) (hw : (rest.map fun v => v.category).sum ≤ 8) (k : WH l D base M (pc + 3) ls (w :: rest) h2 Q) : WH l D base M pc ls (v2 :: v1 :: .ref 42 :: rest) h Q :=
  cv_Md_228 ho hd hR hsp hw (fun h' r e => by obtain ⟨rfl, rfl⟩ := e; exact k)
theorem cv_Md_228_i {v1 v2 : Value} {rest : List Value} (ho : M.1.cls = "LampMothsModel") (hd : decode M.2.1 pc = .ok (.invokevirtual 228, 3)) (hR : okR0 M M_Md_gainOf) {P : Hp → Int32 → Prop} (hsp : SI l D base M_Md_gainOf (.ref 42 :: [v1, v2]) h P) (hw : (rest.map fun v => v.category).sum ≤ 8) (k : ∀ (h' : Hp) (x : Int32), P h' x → WH l D base M (pc + 3) ls (.int x :: rest) h' Q) : WH l D base M pc ls (v2 :: v1 :: .ref 42 :: rest) h Q :=
  cv_Md_228 ho hd hR hsp hw (fun h' r e => by obtain ⟨x, rfl, hp⟩ := e; exact k h' x hp)
theorem kc_Ji_265 : Cond.constant "java/lang/Integer" 265 (1431655765) ∈ lw_gt := gt_at 316 (by decide +kernel) rfl
theorem kc_Ji_266 : Cond.constant "java/lang/Integer" 266 (858993459) ∈ lw_gt := gt_at 317 (by decide +kernel) rfl
theorem kc_Ji_267 : Cond.constant "java/lang/Integer" 267 (252645135) ∈ lw_gt := gt_at 318 (by decide +kernel) rfl
theorem kc_Ji_264 : Cond.constant "java/lang/Integer" 264 (65536) ∈ lw_gt := gt_at 416 (by decide +kernel) rfl
theorem kc_Lm_221 : Cond.constantLong "LampMoths" 221 (6364136223846793005) ∈ lw_gt := gt_at 543 (by decide +kernel) rfl
theorem kc_Lm_223 : Cond.constantLong "LampMoths" 223 (1442695040888963407) ∈ lw_gt := gt_at 544 (by decide +kernel) rfl
theorem kc_Lm_225 : Cond.constantLong "LampMoths" 225 (20) ∈ lw_gt := gt_at 545 (by decide +kernel) rfl
theorem kc_Md_76 : Cond.constantLong "LampMothsModel" 76 (255) ∈ lw_gt := gt_at 674 (by decide +kernel) rfl
theorem kc_Md_84 : Cond.constantLong "LampMothsModel" 84 (8) ∈ lw_gt := gt_at 706 (by decide +kernel) rfl
theorem kc_Md_138 : Cond.constantLong "LampMothsModel" 138 (-1) ∈ lw_gt := gt_at 749 (by decide +kernel) rfl
theorem kc_Md_164 : Cond.constantLong "LampMothsModel" 164 (9) ∈ lw_gt := gt_at 778 (by decide +kernel) rfl
theorem kc_Md_172 : Cond.constantLong "LampMothsModel" 172 (2) ∈ lw_gt := gt_at 791 (by decide +kernel) rfl
theorem kc_Md_183 : Cond.constantLong "LampMothsModel" 183 (99) ∈ lw_gt := gt_at 816 (by decide +kernel) rfl
theorem kc_Md_213 : Cond.constantLong "LampMothsModel" 213 (4) ∈ lw_gt := gt_at 852 (by decide +kernel) rfl
theorem kc_Md_241 : Cond.constantLong "LampMothsModel" 241 (10) ∈ lw_gt := gt_at 898 (by decide +kernel) rfl
theorem kc_Md_247 : Cond.constantLong "LampMothsModel" 247 (30) ∈ lw_gt := gt_at 907 (by decide +kernel) rfl
theorem kc_Md_249 : Cond.constantLong "LampMothsModel" 249 (6364136223846793005) ∈ lw_gt := gt_at 908 (by decide +kernel) rfl
theorem kc_Md_251 : Cond.constantLong "LampMothsModel" 251 (1442695040888963407) ∈ lw_gt := gt_at 909 (by decide +kernel) rfl
theorem kc_Md_253 : Cond.constantLong "LampMothsModel" 253 (20) ∈ lw_gt := gt_at 910 (by decide +kernel) rfl
end LNK
end
