def R_Ln : String := "LampMoths$Lane"
def T_Ln : u_T := fun k => match k with
  | 0 => ("LampMoths$Lane", "spots", "[I", true)
  | 1 => ("LampMoths$Lane", "burns", "[I", true)
  | 2 => ("LampMoths$Lane", "kinds", "[I", true)
  | 3 => ("LampMoths$Lane", "paid", "[I", true)
  | 4 => ("LampMoths$Lane", "seats", "[I", true)
  | 5 => ("LampMoths$Lane", "sorts", "[I", true)
  | 6 => ("LampMoths$Lane", "windows", "I", false)
  | 7 => ("LampMoths$Lane", "moths", "I", false)
  | 8 => ("LampMoths$Lane", "wind", "I", false)
  | 9 => ("LampMoths$Lane", "honey", "I", false)
  | 10 => ("LampMoths$Lane", "nights", "I", false)
  | _ => ("LampMoths$Lane", "dues", "[I", true)
def t_Ln : Nat → FieldType := fun k => match k with
  | 0 => .array .int
  | 1 => .array .int
  | 2 => .array .int
  | 3 => .array .int
  | 4 => .array .int
  | 5 => .array .int
  | 6 => .int
  | 7 => .int
  | 8 => .int
  | 9 => .int
  | 10 => .int
  | _ => .array .int
theorem n_Ln : ∀ a, a < 12 → ∀ b, b < 12 → a ≠ b → (T_Ln a).2.1 ≠ (T_Ln b).2.1 := by decide +kernel
theorem t_Ln_ok : ∀ k, k < 12 → parseFieldDescriptor (T_Ln k).2.2.1 = some (t_Ln k) := by decide +kernel
theorem i_Ln : ∀ w ∈ u_ws R_Ln T_Ln 12, w ∈ lw_tbl := by
  intro w hw
  have e : u_ws R_Ln T_Ln 12 = ([97, 99, 101, 103, 105, 107, 109, 111, 113, 115, 117, 119]).filterMap (fun i => lw_tbl[i]?) := by decide +kernel
  rw [e] at hw
  obtain ⟨i, -, hi⟩ := List.mem_filterMap.mp hw
  exact List.mem_of_getElem? hi
def R_Rd : String := "LampMoths$Reader"
def T_Rd : u_T := fun k => match k with
  | 0 => ("LampMoths$Reader", "due", "I", false)
  | 1 => ("LampMoths$Reader", "place", "I", false)
  | _ => ("LampMoths$Reader", "burns", "I", false)
def t_Rd : Nat → FieldType := fun k => match k with
  | 0 => .int
  | 1 => .int
  | _ => .int
theorem n_Rd : ∀ a, a < 3 → ∀ b, b < 3 → a ≠ b → (T_Rd a).2.1 ≠ (T_Rd b).2.1 := by decide +kernel
theorem t_Rd_ok : ∀ k, k < 3 → parseFieldDescriptor (T_Rd k).2.2.1 = some (t_Rd k) := by decide +kernel
theorem i_Rd : ∀ w ∈ u_ws R_Rd T_Rd 3, w ∈ lw_tbl := by
  intro w hw
  have e : u_ws R_Rd T_Rd 3 = ([132, 134, 136]).filterMap (fun i => lw_tbl[i]?) := by decide +kernel
  rw [e] at hw
  obtain ⟨i, -, hi⟩ := List.mem_filterMap.mp hw
  exact List.mem_of_getElem? hi
def R_Lm : String := "LampMoths"
def T_Lm : u_T := fun k => match k with
  | 0 => ("LampMoths", "text", "[I", true)
  | 1 => ("LampMoths", "length", "I", false)
  | 2 => ("LampMoths", "now", "LLampMoths$Lane;", true)
  | 3 => ("LampMoths", "trial", "LLampMoths$Lane;", true)
  | 4 => ("LampMoths", "reader", "LLampMoths$Reader;", true)
  | 5 => ("LampMoths", "acts", "[[I", true)
  | 6 => ("LampMoths", "actsHeld", "I", false)
  | 7 => ("LampMoths", "slots", "[[I", true)
  | 8 => ("LampMoths", "slotUsed", "[Z", true)
  | 9 => ("LampMoths", "countedWindows", "[I", true)
  | 10 => ("LampMoths", "countedWinds", "[I", true)
  | 11 => ("LampMoths", "countedSums", "[I", true)
  | 12 => ("LampMoths", "countsHeld", "I", false)
  | 13 => ("LampMoths", "groupOwes", "[I", true)
  | _ => ("LampMoths", "chance", "J", false)
def t_Lm : Nat → FieldType := fun k => match k with
  | 0 => .array .int
  | 1 => .int
  | 2 => .object "LampMoths$Lane"
  | 3 => .object "LampMoths$Lane"
  | 4 => .object "LampMoths$Reader"
  | 5 => .array (.array .int)
  | 6 => .int
  | 7 => .array (.array .int)
  | 8 => .array .boolean
  | 9 => .array .int
  | 10 => .array .int
  | 11 => .array .int
  | 12 => .int
  | 13 => .array .int
  | _ => .long
theorem n_Lm : ∀ a, a < 15 → ∀ b, b < 15 → a ≠ b → (T_Lm a).2.1 ≠ (T_Lm b).2.1 := by decide +kernel
theorem t_Lm_ok : ∀ k, k < 15 → parseFieldDescriptor (T_Lm k).2.2.1 = some (t_Lm k) := by decide +kernel
theorem i_Lm : ∀ w ∈ u_ws R_Lm T_Lm 15, w ∈ lw_tbl := by
  intro w hw
  have e : u_ws R_Lm T_Lm 15 = ([156, 158, 160, 162, 164, 166, 168, 170, 172, 174, 176, 178, 180, 182, 184]).filterMap (fun i => lw_tbl[i]?) := by decide +kernel
  rw [e] at hw
  obtain ⟨i, -, hi⟩ := List.mem_filterMap.mp hw
  exact List.mem_of_getElem? hi
def R_Md : String := "LampMothsModel"
def T_Md : u_T := fun k => match k with
  | 0 => ("LampMothsModel", "thrown", "I", false)
  | 1 => ("LampMothsModel", "text", "[I", true)
  | 2 => ("LampMothsModel", "textSize", "I", false)
  | 3 => ("LampMothsModel", "place", "I", false)
  | 4 => ("LampMothsModel", "windows", "I", false)
  | 5 => ("LampMothsModel", "windowKind", "[I", true)
  | 6 => ("LampMothsModel", "moths", "I", false)
  | 7 => ("LampMothsModel", "mothKind", "[I", true)
  | 8 => ("LampMothsModel", "readWind", "I", false)
  | 9 => ("LampMothsModel", "readHoney", "I", false)
  | 10 => ("LampMothsModel", "readWindows", "I", false)
  | 11 => ("LampMothsModel", "readWindow", "[I", true)
  | 12 => ("LampMothsModel", "readMoths", "I", false)
  | 13 => ("LampMothsModel", "readMoth", "[I", true)
  | 14 => ("LampMothsModel", "page", "[I", true)
  | 15 => ("LampMothsModel", "trial", "[I", true)
  | 16 => ("LampMothsModel", "book", "[I", true)
  | 17 => ("LampMothsModel", "acts", "I", false)
  | 18 => ("LampMothsModel", "kept", "[I", true)
  | 19 => ("LampMothsModel", "isKept", "[Z", true)
  | 20 => ("LampMothsModel", "counted", "I", false)
  | 21 => ("LampMothsModel", "countedWindow", "[I", true)
  | 22 => ("LampMothsModel", "countedWind", "[I", true)
  | 23 => ("LampMothsModel", "countedTax", "[I", true)
  | 24 => ("LampMothsModel", "seed", "J", false)
  | 25 => ("LampMothsModel", "draws", "[I", true)
  | 26 => ("LampMothsModel", "owed", "[I", true)
  | 27 => ("LampMothsModel", "cheapMuch", "I", false)
  | 28 => ("LampMothsModel", "cheapRow", "I", false)
  | 29 => ("LampMothsModel", "movedWhich", "I", false)
  | 30 => ("LampMothsModel", "movedMuch", "I", false)
  | 31 => ("LampMothsModel", "restMany", "I", false)
  | 32 => ("LampMothsModel", "restFirst", "I", false)
  | 33 => ("LampMothsModel", "gains", "[I", true)
  | _ => ("LampMothsModel", "value", "[I", true)
def t_Md : Nat → FieldType := fun k => match k with
  | 0 => .int
  | 1 => .array .int
  | 2 => .int
  | 3 => .int
  | 4 => .int
  | 5 => .array .int
  | 6 => .int
  | 7 => .array .int
  | 8 => .int
  | 9 => .int
  | 10 => .int
  | 11 => .array .int
  | 12 => .int
  | 13 => .array .int
  | 14 => .array .int
  | 15 => .array .int
  | 16 => .array .int
  | 17 => .int
  | 18 => .array .int
  | 19 => .array .boolean
  | 20 => .int
  | 21 => .array .int
  | 22 => .array .int
  | 23 => .array .int
  | 24 => .long
  | 25 => .array .int
  | 26 => .array .int
  | 27 => .int
  | 28 => .int
  | 29 => .int
  | 30 => .int
  | 31 => .int
  | 32 => .int
  | 33 => .array .int
  | _ => .array .int
theorem n_Md : ∀ a, a < 35 → ∀ b, b < 35 → a ≠ b → (T_Md a).2.1 ≠ (T_Md b).2.1 := by decide +kernel
theorem t_Md_ok : ∀ k, k < 35 → parseFieldDescriptor (T_Md k).2.2.1 = some (t_Md k) := by decide +kernel
theorem i_Md : ∀ w ∈ u_ws R_Md T_Md 35, w ∈ lw_tbl := by
  intro w hw
  have e : u_ws R_Md T_Md 35 = ([599, 601, 603, 605, 607, 609, 611, 613, 615, 617, 619, 621, 623, 625, 627, 629, 631, 633, 635, 637, 639, 641, 643, 645, 647, 649, 651, 653, 655, 657, 659, 661, 663, 665, 667]).filterMap (fun i => lw_tbl[i]?) := by decide +kernel
  rw [e] at hw
  obtain ⟨i, -, hi⟩ := List.mem_filterMap.mp hw
  exact List.mem_of_getElem? hi
abbrev classes : List vw_C := [(R_Ln, T_Ln, 12), (R_Rd, T_Rd, 3), (R_Lm, T_Lm, 15), (R_Md, T_Md, 35)]
abbrev MI : Type := MethodName × ByteArray × Nat × Option FieldType × Room
def M_Lm_init : MI := (⟨"LampMoths", "<init>", "()V"⟩, prog_1_method_1_code, 1, none, { frames := 2, cells := 41, slots := 529, locals := 44 })
def M_Ln_init : MI := (⟨"LampMoths$Lane", "<init>", "()V"⟩, prog_2_method_1_code, 1, none, { frames := 1, cells := 7, slots := 37, locals := 24 })
def M_Rd_init : MI := (⟨"LampMoths$Reader", "<init>", "()V"⟩, prog_3_method_1_code, 1, none, { frames := 1, cells := 0, slots := 0, locals := 24 })
def M_Lm_write : MI := (⟨"LampMoths", "write", "(I)I"⟩, prog_1_method_2_code, 2, (some .int), { frames := 0, cells := 0, slots := 0, locals := 0 })
def M_Lm_wipe : MI := (⟨"LampMoths", "wipe", "()I"⟩, prog_1_method_3_code, 2, (some .int), { frames := 0, cells := 0, slots := 0, locals := 0 })
def M_Lm_fault : MI := (⟨"LampMoths", "fault", "()I"⟩, prog_1_method_4_code, 1, (some .int), { frames := 4, cells := 0, slots := 0, locals := 90 })
def M_Lm_readInto : MI := (⟨"LampMoths", "readInto", "(LLampMoths$Lane;)I"⟩, prog_1_method_33_code, 3, (some .int), { frames := 3, cells := 0, slots := 0, locals := 68 })
def M_Rd_begin : MI := (⟨"LampMoths$Reader", "begin", "(LLampMoths$Lane;)V"⟩, prog_3_method_2_code, 2, none, { frames := 1, cells := 0, slots := 0, locals := 20 })
def M_Ln_clear : MI := (⟨"LampMoths$Lane", "clear", "()V"⟩, prog_2_method_2_code, 1, none, { frames := 0, cells := 0, slots := 0, locals := 0 })
def M_Rd_takes : MI := (⟨"LampMoths$Reader", "takes", "(ILLampMoths$Lane;)Z"⟩, prog_3_method_4_code, 4, (some .boolean), { frames := 2, cells := 0, slots := 0, locals := 45 })
def M_Rd_goesOn : MI := (⟨"LampMoths$Reader", "goesOn", "(ZI)Z"⟩, prog_3_method_5_code, 3, (some .boolean), { frames := 0, cells := 0, slots := 0, locals := 0 })
def M_Rd_takesPart : MI := (⟨"LampMoths$Reader", "takesPart", "(ILLampMoths$Lane;)Z"⟩, prog_3_method_6_code, 3, (some .boolean), { frames := 1, cells := 0, slots := 0, locals := 22 })
def M_Rd_takesFigure : MI := (⟨"LampMoths$Reader", "takesFigure", "(ILLampMoths$Lane;)Z"⟩, prog_3_method_7_code, 3, (some .boolean), { frames := 1, cells := 0, slots := 0, locals := 23 })
def M_Lm_isWind : MI := (⟨"LampMoths", "isWind", "(I)Z"⟩, prog_1_method_30_code, 1, (some .boolean), { frames := 0, cells := 0, slots := 0, locals := 0 })
def M_Ln_isFree : MI := (⟨"LampMoths$Lane", "isFree", "(I)Z"⟩, prog_2_method_10_code, 3, (some .boolean), { frames := 0, cells := 0, slots := 0, locals := 0 })
def M_Ln_addWindow : MI := (⟨"LampMoths$Lane", "addWindow", "(III)Z"⟩, prog_2_method_3_code, 4, (some .boolean), { frames := 0, cells := 0, slots := 0, locals := 0 })
def M_Ln_addMoth : MI := (⟨"LampMoths$Lane", "addMoth", "(II)Z"⟩, prog_2_method_4_code, 3, (some .boolean), { frames := 0, cells := 0, slots := 0, locals := 0 })
def M_Rd_mayEnd : MI := (⟨"LampMoths$Reader", "mayEnd", "()Z"⟩, prog_3_method_3_code, 1, (some .boolean), { frames := 0, cells := 0, slots := 0, locals := 0 })
def M_Lm_street : MI := (⟨"LampMoths", "street", "()I"⟩, prog_1_method_5_code, 2, (some .int), { frames := 4, cells := 0, slots := 0, locals := 90 })
def M_Ln_copyFrom : MI := (⟨"LampMoths$Lane", "copyFrom", "(LLampMoths$Lane;)V"⟩, prog_2_method_5_code, 3, none, { frames := 0, cells := 0, slots := 0, locals := 0 })
def M_Lm_about : MI := (⟨"LampMoths", "about", "(I)I"⟩, prog_1_method_6_code, 2, (some .int), { frames := 5, cells := 0, slots := 0, locals := 114 })
def M_Ln_paidByAll : MI := (⟨"LampMoths$Lane", "paidByAll", "()I"⟩, prog_2_method_23_code, 3, (some .int), { frames := 0, cells := 0, slots := 0, locals := 0 })
def M_Ln_owedByAll : MI := (⟨"LampMoths$Lane", "owedByAll", "()I"⟩, prog_2_method_22_code, 3, (some .int), { frames := 4, cells := 0, slots := 0, locals := 92 })
def M_Ln_reckon : MI := (⟨"LampMoths$Lane", "reckon", "()V"⟩, prog_2_method_19_code, 2, none, { frames := 3, cells := 0, slots := 0, locals := 71 })
def M_Ln_drawersOf : MI := (⟨"LampMoths$Lane", "drawersOf", "(I)I"⟩, prog_2_method_16_code, 6, (some .int), { frames := 2, cells := 0, slots := 0, locals := 46 })
def M_Ln_tug : MI := (⟨"LampMoths$Lane", "tug", "(II)I"⟩, prog_2_method_11_code, 4, (some .int), { frames := 1, cells := 0, slots := 0, locals := 23 })
def M_Ln_hasWindow : MI := (⟨"LampMoths$Lane", "hasWindow", "(I)Z"⟩, prog_2_method_8_code, 2, (some .boolean), { frames := 0, cells := 0, slots := 0, locals := 0 })
def M_Ln_hasMoth : MI := (⟨"LampMoths$Lane", "hasMoth", "(I)Z"⟩, prog_2_method_9_code, 2, (some .boolean), { frames := 0, cells := 0, slots := 0, locals := 0 })
def M_Jm_abs : MI := (⟨"java/lang/Math", "abs", "(I)I"⟩, prog_7_method_59_code, 1, (some .int), { frames := 0, cells := 0, slots := 0, locals := 0 })
def M_Ln_glow : MI := (⟨"LampMoths$Lane", "glow", "(I)I"⟩, prog_2_method_12_code, 2, (some .int), { frames := 0, cells := 0, slots := 0, locals := 0 })
def M_Ln_windHelp : MI := (⟨"LampMoths$Lane", "windHelp", "(II)I"⟩, prog_2_method_13_code, 4, (some .int), { frames := 0, cells := 0, slots := 0, locals := 0 })
def M_Ln_sweetness : MI := (⟨"LampMoths$Lane", "sweetness", "(II)I"⟩, prog_2_method_14_code, 3, (some .int), { frames := 0, cells := 0, slots := 0, locals := 0 })
def M_Jm_max : MI := (⟨"java/lang/Math", "max", "(II)I"⟩, prog_7_method_65_code, 2, (some .int), { frames := 0, cells := 0, slots := 0, locals := 0 })
def M_Ln_taxOf : MI := (⟨"LampMoths$Lane", "taxOf", "(I)I"⟩, prog_2_method_18_code, 2, (some .int), { frames := 0, cells := 0, slots := 0, locals := 0 })
def M_Ln_charge : MI := (⟨"LampMoths$Lane", "charge", "(II)V"⟩, prog_2_method_20_code, 5, none, { frames := 1, cells := 0, slots := 0, locals := 20 })
def M_Ji_bitCount : MI := (⟨"java/lang/Integer", "bitCount", "(I)I"⟩, prog_6_method_49_code, 1, (some .int), { frames := 0, cells := 0, slots := 0, locals := 0 })
def M_Ln_readers : MI := (⟨"LampMoths$Lane", "readers", "()I"⟩, prog_2_method_25_code, 3, (some .int), { frames := 2, cells := 0, slots := 0, locals := 43 })
def M_Ln_reads : MI := (⟨"LampMoths$Lane", "reads", "(I)Z"⟩, prog_2_method_24_code, 3, (some .boolean), { frames := 1, cells := 0, slots := 0, locals := 21 })
def M_Lm_window : MI := (⟨"LampMoths", "window", "(II)I"⟩, prog_1_method_7_code, 3, (some .int), { frames := 5, cells := 0, slots := 0, locals := 113 })
def M_Ln_owedBy : MI := (⟨"LampMoths$Lane", "owedBy", "(I)I"⟩, prog_2_method_21_code, 2, (some .int), { frames := 4, cells := 0, slots := 0, locals := 92 })
def M_Ln_mothsDrawnBy : MI := (⟨"LampMoths$Lane", "mothsDrawnBy", "(I)I"⟩, prog_2_method_17_code, 4, (some .int), { frames := 3, cells := 0, slots := 0, locals := 71 })
def M_Lm_moth : MI := (⟨"LampMoths", "moth", "(II)I"⟩, prog_1_method_8_code, 3, (some .int), { frames := 3, cells := 0, slots := 0, locals := 71 })
def M_Ln_greatestTugOn : MI := (⟨"LampMoths$Lane", "greatestTugOn", "(I)I"⟩, prog_2_method_15_code, 4, (some .int), { frames := 2, cells := 0, slots := 0, locals := 46 })
def M_Lm_pull : MI := (⟨"LampMoths", "pull", "(II)I"⟩, prog_1_method_9_code, 3, (some .int), { frames := 2, cells := 0, slots := 0, locals := 46 })
def M_Lm_up : MI := (⟨"LampMoths", "up", "(I)I"⟩, prog_1_method_10_code, 2, (some .int), { frames := 4, cells := 0, slots := 0, locals := 87 })
def M_Lm_turned : MI := (⟨"LampMoths", "turned", "(II)I"⟩, prog_1_method_34_code, 3, (some .int), { frames := 3, cells := 0, slots := 0, locals := 65 })
def M_Ln_canTurn : MI := (⟨"LampMoths$Lane", "canTurn", "(II)Z"⟩, prog_2_method_27_code, 3, (some .boolean), { frames := 1, cells := 0, slots := 0, locals := 21 })
def M_Lm_remember : MI := (⟨"LampMoths", "remember", "()V"⟩, prog_1_method_35_code, 1, none, { frames := 1, cells := 0, slots := 0, locals := 22 })
def M_Lm_forgetFirstAct : MI := (⟨"LampMoths", "forgetFirstAct", "()V"⟩, prog_1_method_36_code, 3, none, { frames := 0, cells := 0, slots := 0, locals := 0 })
def M_Ln_save : MI := (⟨"LampMoths$Lane", "save", "([I)V"⟩, prog_2_method_6_code, 3, none, { frames := 0, cells := 0, slots := 0, locals := 0 })
def M_Ln_turn : MI := (⟨"LampMoths$Lane", "turn", "(II)Z"⟩, prog_2_method_28_code, 3, (some .boolean), { frames := 2, cells := 0, slots := 0, locals := 43 })
def M_Lm_down : MI := (⟨"LampMoths", "down", "(I)I"⟩, prog_1_method_11_code, 2, (some .int), { frames := 4, cells := 0, slots := 0, locals := 87 })
def M_Lm_blow : MI := (⟨"LampMoths", "blow", "(I)I"⟩, prog_1_method_12_code, 3, (some .int), { frames := 2, cells := 0, slots := 0, locals := 42 })
def M_Lm_move : MI := (⟨"LampMoths", "move", "(I)I"⟩, prog_1_method_13_code, 3, (some .int), { frames := 2, cells := 0, slots := 0, locals := 42 })
def M_Lm_isHoneyPlace : MI := (⟨"LampMoths", "isHoneyPlace", "(I)Z"⟩, prog_1_method_31_code, 1, (some .boolean), { frames := 0, cells := 0, slots := 0, locals := 0 })
def M_Lm_night : MI := (⟨"LampMoths", "night", "()I"⟩, prog_1_method_14_code, 1, (some .int), { frames := 5, cells := 0, slots := 0, locals := 114 })
def M_Ln_passNight : MI := (⟨"LampMoths$Lane", "passNight", "()I"⟩, prog_2_method_29_code, 3, (some .int), { frames := 4, cells := 0, slots := 0, locals := 92 })
def M_Ln_flyNearer : MI := (⟨"LampMoths$Lane", "flyNearer", "(II)V"⟩, prog_2_method_30_code, 4, none, { frames := 1, cells := 0, slots := 0, locals := 21 })
def M_Ji_numberOfTrailingZeros : MI := (⟨"java/lang/Integer", "numberOfTrailingZeros", "(I)I"⟩, prog_6_method_48_code, 2, (some .int), { frames := 0, cells := 0, slots := 0, locals := 0 })
def M_Ji_compare : MI := (⟨"java/lang/Integer", "compare", "(II)I"⟩, prog_6_method_40_code, 2, (some .int), { frames := 0, cells := 0, slots := 0, locals := 0 })
def M_Lm_undo : MI := (⟨"LampMoths", "undo", "()I"⟩, prog_1_method_15_code, 1, (some .int), { frames := 1, cells := 0, slots := 0, locals := 22 })
def M_Ln_load : MI := (⟨"LampMoths$Lane", "load", "([I)V"⟩, prog_2_method_7_code, 3, none, { frames := 0, cells := 0, slots := 0, locals := 0 })
def M_Lm_dim : MI := (⟨"LampMoths", "dim", "(II)I"⟩, prog_1_method_16_code, 5, (some .int), { frames := 6, cells := 0, slots := 0, locals := 136 })
def M_Lm_isSum : MI := (⟨"LampMoths", "isSum", "(I)Z"⟩, prog_1_method_32_code, 1, (some .boolean), { frames := 0, cells := 0, slots := 0, locals := 0 })
def M_Lm_owesAtMost : MI := (⟨"LampMoths", "owesAtMost", "(III)Z"⟩, prog_1_method_37_code, 4, (some .boolean), { frames := 5, cells := 0, slots := 0, locals := 113 })
def M_Lm_cheap : MI := (⟨"LampMoths", "cheap", "(Z)I"⟩, prog_1_method_17_code, 7, (some .int), { frames := 5, cells := 0, slots := 0, locals := 114 })
def M_Lm_power : MI := (⟨"LampMoths", "power", "(II)I"⟩, prog_1_method_46_code, 4, (some .int), { frames := 0, cells := 0, slots := 0, locals := 0 })
def M_Ln_burnByThrees : MI := (⟨"LampMoths$Lane", "burnByThrees", "(I)V"⟩, prog_2_method_32_code, 4, none, { frames := 0, cells := 0, slots := 0, locals := 0 })
def M_Ln_allRead : MI := (⟨"LampMoths$Lane", "allRead", "()Z"⟩, prog_2_method_26_code, 1, (some .boolean), { frames := 3, cells := 0, slots := 0, locals := 65 })
def M_Ln_burnsAsRow : MI := (⟨"LampMoths$Lane", "burnsAsRow", "()I"⟩, prog_2_method_33_code, 3, (some .int), { frames := 0, cells := 0, slots := 0, locals := 0 })
def M_Lm_moving : MI := (⟨"LampMoths", "moving", "(I)I"⟩, prog_1_method_18_code, 7, (some .int), { frames := 5, cells := 0, slots := 0, locals := 114 })
def M_Lm_judge : MI := (⟨"LampMoths", "judge", "(II)I"⟩, prog_1_method_19_code, 7, (some .int), { frames := 4, cells := 0, slots := 0, locals := 87 })
def M_Lm_didOnTrial : MI := (⟨"LampMoths", "didOnTrial", "(II)Z"⟩, prog_1_method_38_code, 3, (some .boolean), { frames := 3, cells := 0, slots := 0, locals := 65 })
def M_Lm_blewOnTrial : MI := (⟨"LampMoths", "blewOnTrial", "(I)Z"⟩, prog_1_method_39_code, 2, (some .boolean), { frames := 1, cells := 0, slots := 0, locals := 20 })
def M_Lm_movedOnTrial : MI := (⟨"LampMoths", "movedOnTrial", "(I)Z"⟩, prog_1_method_40_code, 2, (some .boolean), { frames := 1, cells := 0, slots := 0, locals := 20 })
def M_Lm_share : MI := (⟨"LampMoths", "share", "(IZ)I"⟩, prog_1_method_20_code, 8, (some .int), { frames := 6, cells := 0, slots := 0, locals := 137 })
def M_Lm_reckonGroups : MI := (⟨"LampMoths", "reckonGroups", "()V"⟩, prog_1_method_41_code, 4, none, { frames := 5, cells := 0, slots := 0, locals := 114 })
def M_Lm_ordersWith : MI := (⟨"LampMoths", "ordersWith", "(I)I"⟩, prog_1_method_42_code, 2, (some .int), { frames := 1, cells := 0, slots := 0, locals := 22 })
def M_Lm_factorial : MI := (⟨"LampMoths", "factorial", "(I)I"⟩, prog_1_method_47_code, 3, (some .int), { frames := 0, cells := 0, slots := 0, locals := 0 })
def M_Lm_told : MI := (⟨"LampMoths", "told", "(IIZ)I"⟩, prog_1_method_48_code, 4, (some .int), { frames := 1, cells := 0, slots := 0, locals := 25 })
def M_Lm_commonDivisor : MI := (⟨"LampMoths", "commonDivisor", "(II)I"⟩, prog_1_method_49_code, 6, (some .int), { frames := 0, cells := 0, slots := 0, locals := 0 })
def M_Lm_count : MI := (⟨"LampMoths", "count", "(III)I"⟩, prog_1_method_21_code, 4, (some .int), { frames := 1, cells := 0, slots := 0, locals := 21 })
def M_Lm_forget : MI := (⟨"LampMoths", "forget", "()I"⟩, prog_1_method_22_code, 2, (some .int), { frames := 0, cells := 0, slots := 0, locals := 0 })
def M_Lm_honeys : MI := (⟨"LampMoths", "honeys", "()I"⟩, prog_1_method_23_code, 3, (some .int), { frames := 6, cells := 0, slots := 0, locals := 135 })
def M_Lm_trialFitsCounted : MI := (⟨"LampMoths", "trialFitsCounted", "()Z"⟩, prog_1_method_43_code, 3, (some .boolean), { frames := 5, cells := 0, slots := 0, locals := 113 })
def M_Lm_rests : MI := (⟨"LampMoths", "rests", "(III)I"⟩, prog_1_method_24_code, 11, (some .int), { frames := 6, cells := 0, slots := 0, locals := 137 })
def M_Lm_gain : MI := (⟨"LampMoths", "gain", "(IIII)I"⟩, prog_1_method_44_code, 5, (some .int), { frames := 5, cells := 0, slots := 0, locals := 113 })
def M_Lm_clouds : MI := (⟨"LampMoths", "clouds", "(IIZ)I"⟩, prog_1_method_25_code, 8, (some .int), { frames := 5, cells := 0, slots := 0, locals := 114 })
def M_Ln_cloud : MI := (⟨"LampMoths$Lane", "cloud", "(I)V"⟩, prog_2_method_31_code, 3, none, { frames := 1, cells := 0, slots := 0, locals := 21 })
def M_Lm_seed : MI := (⟨"LampMoths", "seed", "(J)J"⟩, prog_1_method_26_code, 5, (some .long), { frames := 0, cells := 0, slots := 0, locals := 0 })
def M_Lm_weeks : MI := (⟨"LampMoths", "weeks", "(I)I"⟩, prog_1_method_27_code, 3, (some .int), { frames := 6, cells := 0, slots := 0, locals := 135 })
def M_Lm_passWeekOnTrial : MI := (⟨"LampMoths", "passWeekOnTrial", "(I)V"⟩, prog_1_method_45_code, 2, none, { frames := 5, cells := 0, slots := 0, locals := 114 })
def M_Lm_keep : MI := (⟨"LampMoths", "keep", "(I)I"⟩, prog_1_method_28_code, 2, (some .int), { frames := 1, cells := 0, slots := 0, locals := 22 })
def M_Lm_again : MI := (⟨"LampMoths", "again", "(I)I"⟩, prog_1_method_29_code, 2, (some .int), { frames := 1, cells := 0, slots := 0, locals := 22 })
def M_Md_init : MI := (⟨"LampMothsModel", "<init>", "()V"⟩, prog_5_method_1_code, 1, none, { frames := 1, cells := 17, slots := 597, locals := 24 })
def M_Md_write : MI := (⟨"LampMothsModel", "write", "(I)I"⟩, prog_5_method_8_code, 2, (some .int), { frames := 1, cells := 0, slots := 0, locals := 25 })
def M_Md_in : MI := (⟨"LampMothsModel", "in", "(JJJ)Z"⟩, prog_5_method_3_code, 6, (some .boolean), { frames := 0, cells := 0, slots := 0, locals := 0 })
def M_Md_wipe : MI := (⟨"LampMothsModel", "wipe", "()I"⟩, prog_5_method_9_code, 2, (some .int), { frames := 0, cells := 0, slots := 0, locals := 0 })
def M_Md_fault : MI := (⟨"LampMothsModel", "fault", "()I"⟩, prog_5_method_16_code, 1, (some .int), { frames := 5, cells := 0, slots := 0, locals := 112 })
def M_Md_readStreet : MI := (⟨"LampMothsModel", "readStreet", "()I"⟩, prog_5_method_15_code, 1, (some .int), { frames := 4, cells := 0, slots := 0, locals := 92 })
def M_Md_figure : MI := (⟨"LampMothsModel", "figure", "(II)I"⟩, prog_5_method_10_code, 3, (some .int), { frames := 1, cells := 0, slots := 0, locals := 25 })
def M_Md_readPart : MI := (⟨"LampMothsModel", "readPart", "()Z"⟩, prog_5_method_14_code, 2, (some .boolean), { frames := 3, cells := 0, slots := 0, locals := 71 })
def M_Md_readOneWindow : MI := (⟨"LampMothsModel", "readOneWindow", "()Z"⟩, prog_5_method_12_code, 4, (some .boolean), { frames := 2, cells := 0, slots := 0, locals := 48 })
def M_Md_readPlace : MI := (⟨"LampMothsModel", "readPlace", "()I"⟩, prog_5_method_11_code, 4, (some .int), { frames := 1, cells := 0, slots := 0, locals := 25 })
def M_Md_readOneMoth : MI := (⟨"LampMothsModel", "readOneMoth", "()Z"⟩, prog_5_method_13_code, 3, (some .boolean), { frames := 2, cells := 0, slots := 0, locals := 47 })
def M_Md_street : MI := (⟨"LampMothsModel", "street", "()I"⟩, prog_5_method_17_code, 2, (some .int), { frames := 5, cells := 0, slots := 0, locals := 112 })
def M_Md_about : MI := (⟨"LampMothsModel", "about", "(I)I"⟩, prog_5_method_24_code, 2, (some .int), { frames := 3, cells := 0, slots := 0, locals := 76 })
def M_Md_paid : MI := (⟨"LampMothsModel", "paid", "([I)I"⟩, prog_5_method_23_code, 4, (some .int), { frames := 0, cells := 0, slots := 0, locals := 0 })
def M_Md_layOwed : MI := (⟨"LampMothsModel", "layOwed", "([I)I"⟩, prog_5_method_20_code, 6, (some .int), { frames := 2, cells := 0, slots := 0, locals := 51 })
def M_Md_strongest : MI := (⟨"LampMothsModel", "strongest", "([II)I"⟩, prog_5_method_19_code, 6, (some .int), { frames := 1, cells := 0, slots := 0, locals := 26 })
def M_Md_pullOf : MI := (⟨"LampMothsModel", "pullOf", "([III)I"⟩, prog_5_method_18_code, 7, (some .int), { frames := 0, cells := 0, slots := 0, locals := 0 })
def M_Md_has : MI := (⟨"LampMothsModel", "has", "(II)Z"⟩, prog_5_method_4_code, 2, (some .boolean), { frames := 0, cells := 0, slots := 0, locals := 0 })
def M_Md_many : MI := (⟨"LampMothsModel", "many", "(I)I"⟩, prog_5_method_5_code, 3, (some .int), { frames := 0, cells := 0, slots := 0, locals := 0 })
def M_Md_readers : MI := (⟨"LampMothsModel", "readers", "([I)I"⟩, prog_5_method_22_code, 4, (some .int), { frames := 2, cells := 0, slots := 0, locals := 50 })
def M_Md_reads : MI := (⟨"LampMothsModel", "reads", "([II)Z"⟩, prog_5_method_21_code, 6, (some .boolean), { frames := 1, cells := 0, slots := 0, locals := 25 })
def M_Md_window : MI := (⟨"LampMothsModel", "window", "(II)I"⟩, prog_5_method_25_code, 5, (some .int), { frames := 3, cells := 0, slots := 0, locals := 76 })
def M_Md_noWindow : MI := (⟨"LampMothsModel", "noWindow", "(I)Z"⟩, prog_5_method_6_code, 2, (some .boolean), { frames := 1, cells := 0, slots := 0, locals := 25 })
def M_Md_moth : MI := (⟨"LampMothsModel", "moth", "(II)I"⟩, prog_5_method_26_code, 3, (some .int), { frames := 3, cells := 0, slots := 0, locals := 76 })
def M_Md_noMoth : MI := (⟨"LampMothsModel", "noMoth", "(I)Z"⟩, prog_5_method_7_code, 2, (some .boolean), { frames := 1, cells := 0, slots := 0, locals := 25 })
def M_Md_pull : MI := (⟨"LampMothsModel", "pull", "(II)I"⟩, prog_5_method_27_code, 3, (some .int), { frames := 2, cells := 0, slots := 0, locals := 46 })
def M_Md_up : MI := (⟨"LampMothsModel", "up", "(I)I"⟩, prog_5_method_30_code, 2, (some .int), { frames := 3, cells := 0, slots := 0, locals := 68 })
def M_Md_turned : MI := (⟨"LampMothsModel", "turned", "(II)I"⟩, prog_5_method_29_code, 3, (some .int), { frames := 2, cells := 0, slots := 0, locals := 46 })
def M_Md_note : MI := (⟨"LampMothsModel", "note", "()V"⟩, prog_5_method_28_code, 2, none, { frames := 0, cells := 0, slots := 0, locals := 0 })
def M_Md_down : MI := (⟨"LampMothsModel", "down", "(I)I"⟩, prog_5_method_31_code, 2, (some .int), { frames := 3, cells := 0, slots := 0, locals := 68 })
def M_Md_blow : MI := (⟨"LampMothsModel", "blow", "(I)I"⟩, prog_5_method_32_code, 3, (some .int), { frames := 1, cells := 0, slots := 0, locals := 25 })
def M_Md_move : MI := (⟨"LampMothsModel", "move", "(I)I"⟩, prog_5_method_33_code, 3, (some .int), { frames := 1, cells := 0, slots := 0, locals := 25 })
def M_Md_night : MI := (⟨"LampMothsModel", "night", "()I"⟩, prog_5_method_36_code, 1, (some .int), { frames := 4, cells := 0, slots := 0, locals := 101 })
def M_Md_goNight : MI := (⟨"LampMothsModel", "goNight", "([I)I"⟩, prog_5_method_35_code, 6, (some .int), { frames := 3, cells := 0, slots := 0, locals := 76 })
def M_Md_leastOf : MI := (⟨"LampMothsModel", "leastOf", "(I)I"⟩, prog_5_method_34_code, 4, (some .int), { frames := 1, cells := 0, slots := 0, locals := 21 })
def M_Md_undo : MI := (⟨"LampMothsModel", "undo", "()I"⟩, prog_5_method_37_code, 2, (some .int), { frames := 0, cells := 0, slots := 0, locals := 0 })
def M_Md_dim : MI := (⟨"LampMothsModel", "dim", "(II)I"⟩, prog_5_method_41_code, 4, (some .int), { frames := 4, cells := 0, slots := 0, locals := 99 })
def M_Md_owesBy : MI := (⟨"LampMothsModel", "owesBy", "(III)Z"⟩, prog_5_method_40_code, 4, (some .boolean), { frames := 3, cells := 0, slots := 0, locals := 76 })
def M_Md_begin : MI := (⟨"LampMothsModel", "begin", "()V"⟩, prog_5_method_38_code, 2, none, { frames := 0, cells := 0, slots := 0, locals := 0 })
def M_Md_cheap : MI := (⟨"LampMothsModel", "cheap", "(Z)I"⟩, prog_5_method_43_code, 2, (some .int), { frames := 4, cells := 0, slots := 0, locals := 99 })
def M_Md_findCheap : MI := (⟨"LampMothsModel", "findCheap", "()V"⟩, prog_5_method_42_code, 4, none, { frames := 3, cells := 0, slots := 0, locals := 76 })
def M_Md_power : MI := (⟨"LampMothsModel", "power", "(II)I"⟩, prog_5_method_39_code, 4, (some .int), { frames := 0, cells := 0, slots := 0, locals := 0 })
def M_Md_moving : MI := (⟨"LampMothsModel", "moving", "(I)I"⟩, prog_5_method_46_code, 2, (some .int), { frames := 4, cells := 0, slots := 0, locals := 99 })
def M_Md_findMoving : MI := (⟨"LampMothsModel", "findMoving", "()V"⟩, prog_5_method_45_code, 4, none, { frames := 3, cells := 0, slots := 0, locals := 76 })
def M_Md_isFree : MI := (⟨"LampMothsModel", "isFree", "(I)Z"⟩, prog_5_method_44_code, 4, (some .boolean), { frames := 0, cells := 0, slots := 0, locals := 0 })
def M_Md_judge : MI := (⟨"LampMothsModel", "judge", "(II)I"⟩, prog_5_method_48_code, 4, (some .int), { frames := 5, cells := 0, slots := 0, locals := 126 })
def M_Md_does : MI := (⟨"LampMothsModel", "does", "(I)Z"⟩, prog_5_method_47_code, 6, (some .boolean), { frames := 4, cells := 0, slots := 0, locals := 101 })
def M_Md_share : MI := (⟨"LampMothsModel", "share", "(IZ)I"⟩, prog_5_method_52_code, 6, (some .int), { frames := 3, cells := 0, slots := 0, locals := 76 })
def M_Md_ways : MI := (⟨"LampMothsModel", "ways", "(I)I"⟩, prog_5_method_49_code, 3, (some .int), { frames := 0, cells := 0, slots := 0, locals := 0 })
def M_Md_fraction : MI := (⟨"LampMothsModel", "fraction", "(IIZ)I"⟩, prog_5_method_51_code, 4, (some .int), { frames := 1, cells := 0, slots := 0, locals := 24 })
def M_Md_divisor : MI := (⟨"LampMothsModel", "divisor", "(II)I"⟩, prog_5_method_50_code, 5, (some .int), { frames := 0, cells := 0, slots := 0, locals := 0 })
def M_Md_count : MI := (⟨"LampMothsModel", "count", "(III)I"⟩, prog_5_method_53_code, 4, (some .int), { frames := 2, cells := 0, slots := 0, locals := 46 })
def M_Md_forget : MI := (⟨"LampMothsModel", "forget", "()I"⟩, prog_5_method_54_code, 2, (some .int), { frames := 0, cells := 0, slots := 0, locals := 0 })
def M_Md_honeys : MI := (⟨"LampMothsModel", "honeys", "()I"⟩, prog_5_method_55_code, 5, (some .int), { frames := 3, cells := 0, slots := 0, locals := 76 })
def M_Md_rests : MI := (⟨"LampMothsModel", "rests", "(III)I"⟩, prog_5_method_58_code, 4, (some .int), { frames := 4, cells := 0, slots := 0, locals := 100 })
def M_Md_findRests : MI := (⟨"LampMothsModel", "findRests", "(II)V"⟩, prog_5_method_57_code, 5, none, { frames := 3, cells := 0, slots := 0, locals := 76 })
def M_Md_gainOf : MI := (⟨"LampMothsModel", "gainOf", "(II)I"⟩, prog_5_method_56_code, 3, (some .int), { frames := 2, cells := 0, slots := 0, locals := 50 })
def M_Md_clouds : MI := (⟨"LampMothsModel", "clouds", "(IIZ)I"⟩, prog_5_method_59_code, 8, (some .int), { frames := 3, cells := 0, slots := 0, locals := 76 })
def M_Md_seed : MI := (⟨"LampMothsModel", "seed", "(J)J"⟩, prog_5_method_60_code, 5, (some .long), { frames := 0, cells := 0, slots := 0, locals := 0 })
def M_Md_weeks : MI := (⟨"LampMothsModel", "weeks", "(I)I"⟩, prog_5_method_61_code, 4, (some .int), { frames := 5, cells := 0, slots := 0, locals := 126 })
def M_Md_keep : MI := (⟨"LampMothsModel", "keep", "(I)I"⟩, prog_5_method_62_code, 3, (some .int), { frames := 1, cells := 0, slots := 0, locals := 25 })
def M_Md_again : MI := (⟨"LampMothsModel", "again", "(I)I"⟩, prog_5_method_63_code, 3, (some .int), { frames := 1, cells := 0, slots := 0, locals := 25 })
