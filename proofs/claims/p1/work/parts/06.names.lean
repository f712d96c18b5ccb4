/-! names: classes, fields, methods, words -/
def R_Bu : String := "FileBuilder$Build"
def F_Bu : u_T := fun k => match k with
  | 0 => ("FileBuilder$Build", "steps", "[I", true)
  | 1 => ("FileBuilder$Build", "jobs", "I", false)
  | 2 => ("FileBuilder$Build", "fail", "I", false)
  | _ => ("FileBuilder$Build", "stage", "I", false)
def t_Bu : Nat → FieldType := fun k => match k with
  | 0 => .array .int
  | 1 => .int
  | 2 => .int
  | _ => .int
theorem n_Bu : ∀ a, a < 4 → ∀ b, b < 4 → a ≠ b → (F_Bu a).2.1 ≠ (F_Bu b).2.1 := by decide +kernel
theorem o_Bu : ∀ k, k < 4 → parseFieldDescriptor (F_Bu k).2.2.1 = some (t_Bu k) := by decide +kernel
def R_Di : String := "FileBuilder$Disk"
def F_Di : u_T := fun k => match k with
  | 0 => ("FileBuilder$Disk", "contents", "[I", true)
  | 1 => ("FileBuilder$Disk", "times", "[I", true)
  | 2 => ("FileBuilder$Disk", "clock", "I", false)
  | _ => ("FileBuilder$Disk", "there", "I", false)
def t_Di : Nat → FieldType := fun k => match k with
  | 0 => .array .int
  | 1 => .array .int
  | 2 => .int
  | _ => .int
theorem n_Di : ∀ a, a < 4 → ∀ b, b < 4 → a ≠ b → (F_Di a).2.1 ≠ (F_Di b).2.1 := by decide +kernel
theorem o_Di : ∀ k, k < 4 → parseFieldDescriptor (F_Di k).2.2.1 = some (t_Di k) := by decide +kernel
def R_Gr : String := "FileBuilder$Graph"
def F_Gr : u_T := fun k => match k with
  | 0 => ("FileBuilder$Graph", "commands", "[I", true)
  | 1 => ("FileBuilder$Graph", "flags", "[I", true)
  | 2 => ("FileBuilder$Graph", "pools", "[I", true)
  | 3 => ("FileBuilder$Graph", "readBy", "[I", true)
  | 4 => ("FileBuilder$Graph", "links", "[[I", true)
  | _ => ("FileBuilder$Graph", "count", "I", false)
def t_Gr : Nat → FieldType := fun k => match k with
  | 0 => .array .int
  | 1 => .array .int
  | 2 => .array .int
  | 3 => .array .int
  | 4 => .array (.array .int)
  | _ => .int
theorem n_Gr : ∀ a, a < 6 → ∀ b, b < 6 → a ≠ b → (F_Gr a).2.1 ≠ (F_Gr b).2.1 := by decide +kernel
theorem o_Gr : ∀ k, k < 6 → parseFieldDescriptor (F_Gr k).2.2.1 = some (t_Gr k) := by decide +kernel
def R_Re : String := "FileBuilder$Readings"
def F_Re : u_T := fun k => match k with
  | 0 => ("FileBuilder$Readings", "recorded", "[I", true)
  | _ => ("FileBuilder$Readings", "known", "[Z", true)
def t_Re : Nat → FieldType := fun k => match k with
  | 0 => .array .int
  | _ => .array .boolean
theorem n_Re : ∀ a, a < 2 → ∀ b, b < 2 → a ≠ b → (F_Re a).2.1 ≠ (F_Re b).2.1 := by decide +kernel
theorem o_Re : ∀ k, k < 2 → parseFieldDescriptor (F_Re k).2.2.1 = some (t_Re k) := by decide +kernel
def R_RL : String := "FileBuilder$RecordLog"
def F_RL : u_T := fun k => match k with
  | 0 => ("FileBuilder$RecordLog", "bytes", "[I", true)
  | 1 => ("FileBuilder$RecordLog", "commands", "[I", true)
  | 2 => ("FileBuilder$RecordLog", "times", "[I", true)
  | _ => ("FileBuilder$RecordLog", "length", "I", false)
def t_RL : Nat → FieldType := fun k => match k with
  | 0 => .array .int
  | 1 => .array .int
  | 2 => .array .int
  | _ => .int
theorem n_RL : ∀ a, a < 4 → ∀ b, b < 4 → a ≠ b → (F_RL a).2.1 ≠ (F_RL b).2.1 := by decide +kernel
theorem o_RL : ∀ k, k < 4 → parseFieldDescriptor (F_RL k).2.2.1 = some (t_RL k) := by decide +kernel
def R_FB : String := "FileBuilder"
def F_FB : u_T := fun k => match k with
  | 0 => ("FileBuilder", "disk", "LFileBuilder$Disk;", true)
  | 1 => ("FileBuilder", "graph", "LFileBuilder$Graph;", true)
  | 2 => ("FileBuilder", "readings", "LFileBuilder$Readings;", true)
  | 3 => ("FileBuilder", "records", "LFileBuilder$RecordLog;", true)
  | 4 => ("FileBuilder", "build", "LFileBuilder$Build;", true)
  | _ => ("FileBuilder", "depths", "[I", true)
def t_FB : Nat → FieldType := fun k => match k with
  | 0 => .object "FileBuilder$Disk"
  | 1 => .object "FileBuilder$Graph"
  | 2 => .object "FileBuilder$Readings"
  | 3 => .object "FileBuilder$RecordLog"
  | 4 => .object "FileBuilder$Build"
  | _ => .array .int
theorem n_FB : ∀ a, a < 6 → ∀ b, b < 6 → a ≠ b → (F_FB a).2.1 ≠ (F_FB b).2.1 := by decide +kernel
theorem o_FB : ∀ k, k < 6 → parseFieldDescriptor (F_FB k).2.2.1 = some (t_FB k) := by decide +kernel
def R_Mo : String := "FileBuilderModel"
def F_Mo : u_T := fun k => match k with
  | 0 => ("FileBuilderModel", "code", "I", false)
  | 1 => ("FileBuilderModel", "many", "I", false)
  | 2 => ("FileBuilderModel", "command", "[I", true)
  | 3 => ("FileBuilderModel", "flags", "[I", true)
  | 4 => ("FileBuilderModel", "pool", "[I", true)
  | 5 => ("FileBuilderModel", "outputs", "[I", true)
  | 6 => ("FileBuilderModel", "links", "[I", true)
  | 7 => ("FileBuilderModel", "reads", "[I", true)
  | 8 => ("FileBuilderModel", "recorded", "[I", true)
  | 9 => ("FileBuilderModel", "known", "[Z", true)
  | 10 => ("FileBuilderModel", "step", "[I", true)
  | 11 => ("FileBuilderModel", "clock", "I", false)
  | 12 => ("FileBuilderModel", "content", "[I", true)
  | 13 => ("FileBuilderModel", "time", "[I", true)
  | 14 => ("FileBuilderModel", "maker", "[I", true)
  | 15 => ("FileBuilderModel", "logs", "[Z", true)
  | 16 => ("FileBuilderModel", "logged", "[I", true)
  | 17 => ("FileBuilderModel", "newestLogged", "[I", true)
  | 18 => ("FileBuilderModel", "size", "I", false)
  | 19 => ("FileBuilderModel", "log", "[I", true)
  | 20 => ("FileBuilderModel", "depthOne", "I", false)
  | 21 => ("FileBuilderModel", "depthTwo", "I", false)
  | 22 => ("FileBuilderModel", "reached", "I", false)
  | 23 => ("FileBuilderModel", "order", "[I", true)
  | 24 => ("FileBuilderModel", "newest", "[I", true)
  | 25 => ("FileBuilderModel", "marks", "[Z", true)
  | 26 => ("FileBuilderModel", "jobs", "I", false)
  | 27 => ("FileBuilderModel", "fail", "I", false)
  | 28 => ("FileBuilderModel", "begun", "Z", false)
  | _ => ("FileBuilderModel", "under", "Z", false)
def t_Mo : Nat → FieldType := fun k => match k with
  | 0 => .int
  | 1 => .int
  | 2 => .array .int
  | 3 => .array .int
  | 4 => .array .int
  | 5 => .array .int
  | 6 => .array .int
  | 7 => .array .int
  | 8 => .array .int
  | 9 => .array .boolean
  | 10 => .array .int
  | 11 => .int
  | 12 => .array .int
  | 13 => .array .int
  | 14 => .array .int
  | 15 => .array .boolean
  | 16 => .array .int
  | 17 => .array .int
  | 18 => .int
  | 19 => .array .int
  | 20 => .int
  | 21 => .int
  | 22 => .int
  | 23 => .array .int
  | 24 => .array .int
  | 25 => .array .boolean
  | 26 => .int
  | 27 => .int
  | 28 => .boolean
  | _ => .boolean
theorem n_Mo : ∀ a, a < 30 → ∀ b, b < 30 → a ≠ b → (F_Mo a).2.1 ≠ (F_Mo b).2.1 := by decide +kernel
theorem o_Mo : ∀ k, k < 30 → parseFieldDescriptor (F_Mo k).2.2.1 = some (t_Mo k) := by decide +kernel
def R_La : String := "FileBuilderLaw"
def R_Ar : String := "java/util/Arrays"
abbrev cl : List vw_C := [(R_Bu, F_Bu, 4), (R_Di, F_Di, 4), (R_Gr, F_Gr, 6), (R_Re, F_Re, 2), (R_RL, F_RL, 4), (R_FB, F_FB, 6), (R_Mo, F_Mo, 30)]
abbrev b_FB_init : ByteArray := prog_1_method_1_code
def y_FB_init : MethodName := ⟨R_FB, "<init>", "()V"⟩
abbrev b_FB_edge : ByteArray := prog_1_method_2_code
def y_FB_edge : MethodName := ⟨R_FB, "edge", "(III)I"⟩
abbrev b_FB_link : ByteArray := prog_1_method_3_code
def y_FB_link : MethodName := ⟨R_FB, "link", "(III)V"⟩
abbrev b_FB_reads : ByteArray := prog_1_method_4_code
def y_FB_reads : MethodName := ⟨R_FB, "reads", "(IIZ)V"⟩
abbrev b_FB_command : ByteArray := prog_1_method_5_code
def y_FB_command : MethodName := ⟨R_FB, "command", "(II)V"⟩
abbrev b_FB_pool : ByteArray := prog_1_method_6_code
def y_FB_pool : MethodName := ⟨R_FB, "pool", "(II)V"⟩
abbrev b_FB_write : ByteArray := prog_1_method_7_code
def y_FB_write : MethodName := ⟨R_FB, "write", "(II)V"⟩
abbrev b_FB_remove : ByteArray := prog_1_method_8_code
def y_FB_remove : MethodName := ⟨R_FB, "remove", "(I)V"⟩
abbrev b_FB_begin : ByteArray := prog_1_method_9_code
def y_FB_begin : MethodName := ⟨R_FB, "begin", "(III)I"⟩
abbrev b_FB_start : ByteArray := prog_1_method_10_code
def y_FB_start : MethodName := ⟨R_FB, "start", "()I"⟩
abbrev b_FB_finish : ByteArray := prog_1_method_11_code
def y_FB_finish : MethodName := ⟨R_FB, "finish", "(IZ)I"⟩
abbrev b_FB_state : ByteArray := prog_1_method_12_code
def y_FB_state : MethodName := ⟨R_FB, "state", "()I"⟩
abbrev b_FB_about : ByteArray := prog_1_method_13_code
def y_FB_about : MethodName := ⟨R_FB, "about", "(I)I"⟩
abbrev b_FB_file : ByteArray := prog_1_method_14_code
def y_FB_file : MethodName := ⟨R_FB, "file", "(II)I"⟩
abbrev b_FB_commandOf : ByteArray := prog_1_method_15_code
def y_FB_commandOf : MethodName := ⟨R_FB, "commandOf", "(I)I"⟩
abbrev b_FB_log : ByteArray := prog_1_method_16_code
def y_FB_log : MethodName := ⟨R_FB, "log", "(I)I"⟩
abbrev b_FB_cut : ByteArray := prog_1_method_17_code
def y_FB_cut : MethodName := ⟨R_FB, "cut", "(I)I"⟩
abbrev b_FB_spoil : ByteArray := prog_1_method_18_code
def y_FB_spoil : MethodName := ⟨R_FB, "spoil", "(II)Z"⟩
abbrev b_FB_isIn : ByteArray := prog_1_method_19_code
def y_FB_isIn : MethodName := ⟨R_FB, "isIn", "(III)Z"⟩
abbrev b_FB_isFile : ByteArray := prog_1_method_20_code
def y_FB_isFile : MethodName := ⟨R_FB, "isFile", "(I)Z"⟩
abbrev b_FB_isCommand : ByteArray := prog_1_method_21_code
def y_FB_isCommand : MethodName := ⟨R_FB, "isCommand", "(I)Z"⟩
abbrev b_FB_areFlags : ByteArray := prog_1_method_22_code
def y_FB_areFlags : MethodName := ⟨R_FB, "areFlags", "(I)Z"⟩
abbrev b_FB_has : ByteArray := prog_1_method_23_code
def y_FB_has : MethodName := ⟨R_FB, "has", "(II)Z"⟩
abbrev b_FB_mix : ByteArray := prog_1_method_24_code
def y_FB_mix : MethodName := ⟨R_FB, "mix", "(II)I"⟩
abbrev b_FB_refuseUnderWay : ByteArray := prog_1_method_25_code
def y_FB_refuseUnderWay : MethodName := ⟨R_FB, "refuseUnderWay", "()V"⟩
abbrev b_FB_refuseUnknownEdge : ByteArray := prog_1_method_26_code
def y_FB_refuseUnknownEdge : MethodName := ⟨R_FB, "refuseUnknownEdge", "(I)V"⟩
abbrev b_FB_mayBecomeOutput : ByteArray := prog_1_method_27_code
def y_FB_mayBecomeOutput : MethodName := ⟨R_FB, "mayBecomeOutput", "(II)Z"⟩
abbrev b_FB_isMissing : ByteArray := prog_1_method_28_code
def y_FB_isMissing : MethodName := ⟨R_FB, "isMissing", "(I)Z"⟩
abbrev b_FB_findWhatIsToRun : ByteArray := prog_1_method_29_code
def y_FB_findWhatIsToRun : MethodName := ⟨R_FB, "findWhatIsToRun", "(I)V"⟩
abbrev b_FB_isOutOfDate : ByteArray := prog_1_method_30_code
def y_FB_isOutOfDate : MethodName := ⟨R_FB, "isOutOfDate", "(I)Z"⟩
abbrev b_FB_isUnknownToLog : ByteArray := prog_1_method_31_code
def y_FB_isUnknownToLog : MethodName := ⟨R_FB, "isUnknownToLog", "(I)Z"⟩
abbrev b_FB_isOlderThan : ByteArray := prog_1_method_32_code
def y_FB_isOlderThan : MethodName := ⟨R_FB, "isOlderThan", "(II)Z"⟩
abbrev b_FB_newest : ByteArray := prog_1_method_33_code
def y_FB_newest : MethodName := ⟨R_FB, "newest", "(I)I"⟩
abbrev b_FB_isMadeByPending : ByteArray := prog_1_method_34_code
def y_FB_isMadeByPending : MethodName := ⟨R_FB, "isMadeByPending", "(I)Z"⟩
abbrev b_FB_nextToBegin : ByteArray := prog_1_method_35_code
def y_FB_nextToBegin : MethodName := ⟨R_FB, "nextToBegin", "()I"⟩
abbrev b_FB_hasRoomInPool : ByteArray := prog_1_method_36_code
def y_FB_hasRoomInPool : MethodName := ⟨R_FB, "hasRoomInPool", "(I)Z"⟩
abbrev b_FB_settle : ByteArray := prog_1_method_37_code
def y_FB_settle : MethodName := ⟨R_FB, "settle", "()V"⟩
abbrev b_FB_endWell : ByteArray := prog_1_method_38_code
def y_FB_endWell : MethodName := ⟨R_FB, "endWell", "(I)V"⟩
abbrev b_FB_writeOutputs : ByteArray := prog_1_method_39_code
def y_FB_writeOutputs : MethodName := ⟨R_FB, "writeOutputs", "(I)V"⟩
abbrev b_FB_mixOfWhatIsRead : ByteArray := prog_1_method_40_code
def y_FB_mixOfWhatIsRead : MethodName := ⟨R_FB, "mixOfWhatIsRead", "(I)I"⟩
abbrev b_FB_letGo : ByteArray := prog_1_method_41_code
def y_FB_letGo : MethodName := ⟨R_FB, "letGo", "()I"⟩
abbrev b_Mo_init : ByteArray := prog_8_method_1_code
def y_Mo_init : MethodName := ⟨R_Mo, "<init>", "()V"⟩
abbrev b_Mo_thrown : ByteArray := prog_8_method_2_code
def y_Mo_thrown : MethodName := ⟨R_Mo, "thrown", "()I"⟩
abbrev b_Mo_refuse : ByteArray := prog_8_method_3_code
def y_Mo_refuse : MethodName := ⟨R_Mo, "refuse", "(I)I"⟩
abbrev b_Mo_outside : ByteArray := prog_8_method_4_code
def y_Mo_outside : MethodName := ⟨R_Mo, "outside", "(III)Z"⟩
abbrev b_Mo_in : ByteArray := prog_8_method_5_code
def y_Mo_in : MethodName := ⟨R_Mo, "in", "(II)Z"⟩
abbrev b_Mo_mix : ByteArray := prog_8_method_6_code
def y_Mo_mix : MethodName := ⟨R_Mo, "mix", "(II)I"⟩
abbrev b_Mo_isEdge : ByteArray := prog_8_method_7_code
def y_Mo_isEdge : MethodName := ⟨R_Mo, "isEdge", "(I)Z"⟩
abbrev b_Mo_isFile : ByteArray := prog_8_method_8_code
def y_Mo_isFile : MethodName := ⟨R_Mo, "isFile", "(I)Z"⟩
abbrev b_Mo_is : ByteArray := prog_8_method_9_code
def y_Mo_is : MethodName := ⟨R_Mo, "is", "(II)Z"⟩
abbrev b_Mo_needs : ByteArray := prog_8_method_10_code
def y_Mo_needs : MethodName := ⟨R_Mo, "needs", "(I)I"⟩
abbrev b_Mo_waits : ByteArray := prog_8_method_11_code
def y_Mo_waits : MethodName := ⟨R_Mo, "waits", "(I)I"⟩
abbrev b_Mo_edge : ByteArray := prog_8_method_12_code
def y_Mo_edge : MethodName := ⟨R_Mo, "edge", "(III)I"⟩
abbrev b_Mo_link : ByteArray := prog_8_method_13_code
def y_Mo_link : MethodName := ⟨R_Mo, "link", "(III)V"⟩
abbrev b_Mo_reads : ByteArray := prog_8_method_14_code
def y_Mo_reads : MethodName := ⟨R_Mo, "reads", "(IIZ)V"⟩
abbrev b_Mo_command : ByteArray := prog_8_method_15_code
def y_Mo_command : MethodName := ⟨R_Mo, "command", "(II)V"⟩
abbrev b_Mo_pool : ByteArray := prog_8_method_16_code
def y_Mo_pool : MethodName := ⟨R_Mo, "pool", "(II)V"⟩
abbrev b_Mo_byPhony : ByteArray := prog_8_method_17_code
def y_Mo_byPhony : MethodName := ⟨R_Mo, "byPhony", "(I)Z"⟩
abbrev b_Mo_put : ByteArray := prog_8_method_18_code
def y_Mo_put : MethodName := ⟨R_Mo, "put", "(II)V"⟩
abbrev b_Mo_write : ByteArray := prog_8_method_19_code
def y_Mo_write : MethodName := ⟨R_Mo, "write", "(II)V"⟩
abbrev b_Mo_remove : ByteArray := prog_8_method_20_code
def y_Mo_remove : MethodName := ⟨R_Mo, "remove", "(I)V"⟩
abbrev b_Mo_newestOf : ByteArray := prog_8_method_21_code
def y_Mo_newestOf : MethodName := ⟨R_Mo, "newestOf", "(I)I"⟩
abbrev b_Mo_findNewest : ByteArray := prog_8_method_22_code
def y_Mo_findNewest : MethodName := ⟨R_Mo, "findNewest", "()V"⟩
abbrev b_Mo_open : ByteArray := prog_8_method_23_code
def y_Mo_open : MethodName := ⟨R_Mo, "open", "(I)Z"⟩
abbrev b_Mo_any : ByteArray := prog_8_method_24_code
def y_Mo_any : MethodName := ⟨R_Mo, "any", "(I)Z"⟩
abbrev b_Mo_markPhonies : ByteArray := prog_8_method_25_code
def y_Mo_markPhonies : MethodName := ⟨R_Mo, "markPhonies", "(Z)V"⟩
abbrev b_Mo_old : ByteArray := prog_8_method_26_code
def y_Mo_old : MethodName := ⟨R_Mo, "old", "(II)Z"⟩
abbrev b_Mo_outOfDate : ByteArray := prog_8_method_27_code
def y_Mo_outOfDate : MethodName := ⟨R_Mo, "outOfDate", "(I)Z"⟩
abbrev b_Mo_makersOf : ByteArray := prog_8_method_28_code
def y_Mo_makersOf : MethodName := ⟨R_Mo, "makersOf", "(I)I"⟩
abbrev b_Mo_isMissing : ByteArray := prog_8_method_29_code
def y_Mo_isMissing : MethodName := ⟨R_Mo, "isMissing", "(I)Z"⟩
abbrev b_Mo_reach : ByteArray := prog_8_method_30_code
def y_Mo_reach : MethodName := ⟨R_Mo, "reach", "(I)I"⟩
abbrev b_Mo_lay : ByteArray := prog_8_method_31_code
def y_Mo_lay : MethodName := ⟨R_Mo, "lay", "(I)Z"⟩
abbrev b_Mo_begin : ByteArray := prog_8_method_32_code
def y_Mo_begin : MethodName := ⟨R_Mo, "begin", "(III)I"⟩
abbrev b_Mo_count : ByteArray := prog_8_method_33_code
def y_Mo_count : MethodName := ⟨R_Mo, "count", "(II)I"⟩
abbrev b_Mo_next : ByteArray := prog_8_method_34_code
def y_Mo_next : MethodName := ⟨R_Mo, "next", "()I"⟩
abbrev b_Mo_start : ByteArray := prog_8_method_35_code
def y_Mo_start : MethodName := ⟨R_Mo, "start", "()I"⟩
abbrev b_Mo_make : ByteArray := prog_8_method_36_code
def y_Mo_make : MethodName := ⟨R_Mo, "make", "(I)V"⟩
abbrev b_Mo_append : ByteArray := prog_8_method_37_code
def y_Mo_append : MethodName := ⟨R_Mo, "append", "(I)V"⟩
abbrev b_Mo_record : ByteArray := prog_8_method_38_code
def y_Mo_record : MethodName := ⟨R_Mo, "record", "(III)V"⟩
abbrev b_Mo_letGo : ByteArray := prog_8_method_39_code
def y_Mo_letGo : MethodName := ⟨R_Mo, "letGo", "()I"⟩
abbrev b_Mo_finish : ByteArray := prog_8_method_40_code
def y_Mo_finish : MethodName := ⟨R_Mo, "finish", "(IZ)I"⟩
abbrev b_Mo_state : ByteArray := prog_8_method_41_code
def y_Mo_state : MethodName := ⟨R_Mo, "state", "()I"⟩
abbrev b_Mo_about : ByteArray := prog_8_method_42_code
def y_Mo_about : MethodName := ⟨R_Mo, "about", "(I)I"⟩
abbrev b_Mo_file : ByteArray := prog_8_method_43_code
def y_Mo_file : MethodName := ⟨R_Mo, "file", "(II)I"⟩
abbrev b_Mo_commandOf : ByteArray := prog_8_method_44_code
def y_Mo_commandOf : MethodName := ⟨R_Mo, "commandOf", "(I)I"⟩
abbrev b_Mo_log : ByteArray := prog_8_method_45_code
def y_Mo_log : MethodName := ⟨R_Mo, "log", "(I)I"⟩
abbrev b_Mo_right : ByteArray := prog_8_method_46_code
def y_Mo_right : MethodName := ⟨R_Mo, "right", "(I)Z"⟩
abbrev b_Mo_cut : ByteArray := prog_8_method_47_code
def y_Mo_cut : MethodName := ⟨R_Mo, "cut", "(I)I"⟩
abbrev b_Mo_spoil : ByteArray := prog_8_method_48_code
def y_Mo_spoil : MethodName := ⟨R_Mo, "spoil", "(II)Z"⟩
abbrev b_Bu_init : ByteArray := prog_2_method_1_code
def y_Bu_init : MethodName := ⟨R_Bu, "<init>", "()V"⟩
abbrev b_Bu_isUnderWay : ByteArray := prog_2_method_2_code
def y_Bu_isUnderWay : MethodName := ⟨R_Bu, "isUnderWay", "()Z"⟩
abbrev b_Bu_isPending : ByteArray := prog_2_method_3_code
def y_Bu_isPending : MethodName := ⟨R_Bu, "isPending", "(I)Z"⟩
abbrev b_Bu_countAt : ByteArray := prog_2_method_4_code
def y_Bu_countAt : MethodName := ⟨R_Bu, "countAt", "(I)I"⟩
abbrev b_Bu_renew : ByteArray := prog_2_method_5_code
def y_Bu_renew : MethodName := ⟨R_Bu, "renew", "(II)V"⟩
abbrev b_Bu_forget : ByteArray := prog_2_method_6_code
def y_Bu_forget : MethodName := ⟨R_Bu, "forget", "()V"⟩
abbrev b_Di_init : ByteArray := prog_3_method_1_code
def y_Di_init : MethodName := ⟨R_Di, "<init>", "()V"⟩
abbrev b_Di_put : ByteArray := prog_3_method_2_code
def y_Di_put : MethodName := ⟨R_Di, "put", "(II)V"⟩
abbrev b_Di_erase : ByteArray := prog_3_method_3_code
def y_Di_erase : MethodName := ⟨R_Di, "erase", "(I)V"⟩
abbrev b_Di_greatestTime : ByteArray := prog_3_method_4_code
def y_Di_greatestTime : MethodName := ⟨R_Di, "greatestTime", "(I)I"⟩
abbrev b_Gr_init : ByteArray := prog_4_method_1_code
def y_Gr_init : MethodName := ⟨R_Gr, "<init>", "()V"⟩
abbrev b_Gr_addEdge : ByteArray := prog_4_method_2_code
def y_Gr_addEdge : MethodName := ⟨R_Gr, "addEdge", "(III)I"⟩
abbrev b_Gr_hasEdge : ByteArray := prog_4_method_3_code
def y_Gr_hasEdge : MethodName := ⟨R_Gr, "hasEdge", "(I)Z"⟩
abbrev b_Gr_hasFlag : ByteArray := prog_4_method_4_code
def y_Gr_hasFlag : MethodName := ⟨R_Gr, "hasFlag", "(II)Z"⟩
abbrev b_Gr_isPhony : ByteArray := prog_4_method_5_code
def y_Gr_isPhony : MethodName := ⟨R_Gr, "isPhony", "(I)Z"⟩
abbrev b_Gr_join : ByteArray := prog_4_method_6_code
def y_Gr_join : MethodName := ⟨R_Gr, "join", "(III)V"⟩
abbrev b_Gr_needs : ByteArray := prog_4_method_7_code
def y_Gr_needs : MethodName := ⟨R_Gr, "needs", "(I)I"⟩
abbrev b_Gr_waits : ByteArray := prog_4_method_8_code
def y_Gr_waits : MethodName := ⟨R_Gr, "waits", "(I)I"⟩
abbrev b_Gr_made : ByteArray := prog_4_method_9_code
def y_Gr_made : MethodName := ⟨R_Gr, "made", "()I"⟩
abbrev b_Gr_madeByPhonies : ByteArray := prog_4_method_10_code
def y_Gr_madeByPhonies : MethodName := ⟨R_Gr, "madeByPhonies", "()I"⟩
abbrev b_Gr_read : ByteArray := prog_4_method_11_code
def y_Gr_read : MethodName := ⟨R_Gr, "read", "()I"⟩
abbrev b_Gr_behind : ByteArray := prog_4_method_12_code
def y_Gr_behind : MethodName := ⟨R_Gr, "behind", "(IZ)I"⟩
abbrev b_Gr_makersOf : ByteArray := prog_4_method_13_code
def y_Gr_makersOf : MethodName := ⟨R_Gr, "makersOf", "(I)I"⟩
abbrev b_Gr_waitedForBy : ByteArray := prog_4_method_14_code
def y_Gr_waitedForBy : MethodName := ⟨R_Gr, "waitedForBy", "(I)I"⟩
abbrev b_Gr_reachedFrom : ByteArray := prog_4_method_15_code
def y_Gr_reachedFrom : MethodName := ⟨R_Gr, "reachedFrom", "(I)I"⟩
abbrev b_Gr_nextToLookAt : ByteArray := prog_4_method_16_code
def y_Gr_nextToLookAt : MethodName := ⟨R_Gr, "nextToLookAt", "(II)I"⟩
abbrev b_Gr_hasCycle : ByteArray := prog_4_method_17_code
def y_Gr_hasCycle : MethodName := ⟨R_Gr, "hasCycle", "(I)Z"⟩
abbrev b_Re_init : ByteArray := prog_5_method_1_code
def y_Re_init : MethodName := ⟨R_Re, "<init>", "()V"⟩
abbrev b_Re_keep : ByteArray := prog_5_method_2_code
def y_Re_keep : MethodName := ⟨R_Re, "keep", "(II)V"⟩
abbrev b_Re_forget : ByteArray := prog_5_method_3_code
def y_Re_forget : MethodName := ⟨R_Re, "forget", "()V"⟩
abbrev b_RL_init : ByteArray := prog_6_method_1_code
def y_RL_init : MethodName := ⟨R_RL, "<init>", "()V"⟩
abbrev b_RL_hasByte : ByteArray := prog_6_method_2_code
def y_RL_hasByte : MethodName := ⟨R_RL, "hasByte", "(I)Z"⟩
abbrev b_RL_hasRecord : ByteArray := prog_6_method_3_code
def y_RL_hasRecord : MethodName := ⟨R_RL, "hasRecord", "(I)Z"⟩
abbrev b_RL_reaches : ByteArray := prog_6_method_4_code
def y_RL_reaches : MethodName := ⟨R_RL, "reaches", "(II)Z"⟩
abbrev b_RL_append : ByteArray := prog_6_method_5_code
def y_RL_append : MethodName := ⟨R_RL, "append", "(III)V"⟩
abbrev b_RL_writeAnew : ByteArray := prog_6_method_6_code
def y_RL_writeAnew : MethodName := ⟨R_RL, "writeAnew", "()V"⟩
abbrev b_RL_addBytes : ByteArray := prog_6_method_7_code
def y_RL_addBytes : MethodName := ⟨R_RL, "addBytes", "(I)V"⟩
abbrev b_RL_checkOf : ByteArray := prog_6_method_8_code
def y_RL_checkOf : MethodName := ⟨R_RL, "checkOf", "(I)I"⟩
abbrev b_RL_isRight : ByteArray := prog_6_method_9_code
def y_RL_isRight : MethodName := ⟨R_RL, "isRight", "(I)Z"⟩
abbrev b_RL_readAgain : ByteArray := prog_6_method_10_code
def y_RL_readAgain : MethodName := ⟨R_RL, "readAgain", "(I)V"⟩
abbrev b_RL_takeIn : ByteArray := prog_6_method_11_code
def y_RL_takeIn : MethodName := ⟨R_RL, "takeIn", "(I)V"⟩
abbrev b_La_edge : ByteArray := method_3_code
def y_La_edge : MethodName := ⟨R_La, "edge", "(LFileBuilder;III[J)I"⟩
abbrev b_La_link : ByteArray := method_4_code
def y_La_link : MethodName := ⟨R_La, "link", "(LFileBuilder;III)I"⟩
abbrev b_La_reads : ByteArray := method_5_code
def y_La_reads : MethodName := ⟨R_La, "reads", "(LFileBuilder;IIZ)I"⟩
abbrev b_La_command : ByteArray := method_6_code
def y_La_command : MethodName := ⟨R_La, "command", "(LFileBuilder;II)I"⟩
abbrev b_La_pool : ByteArray := method_7_code
def y_La_pool : MethodName := ⟨R_La, "pool", "(LFileBuilder;II)I"⟩
abbrev b_La_write : ByteArray := method_8_code
def y_La_write : MethodName := ⟨R_La, "write", "(LFileBuilder;II)I"⟩
abbrev b_La_remove : ByteArray := method_9_code
def y_La_remove : MethodName := ⟨R_La, "remove", "(LFileBuilder;I)I"⟩
abbrev b_La_begin : ByteArray := method_10_code
def y_La_begin : MethodName := ⟨R_La, "begin", "(LFileBuilder;III[J)I"⟩
abbrev b_La_finish : ByteArray := method_11_code
def y_La_finish : MethodName := ⟨R_La, "finish", "(LFileBuilder;IZ[J)I"⟩
abbrev b_La_about : ByteArray := method_12_code
def y_La_about : MethodName := ⟨R_La, "about", "(LFileBuilder;I[J)I"⟩
abbrev b_La_file : ByteArray := method_13_code
def y_La_file : MethodName := ⟨R_La, "file", "(LFileBuilder;II[J)I"⟩
abbrev b_La_commandOf : ByteArray := method_14_code
def y_La_commandOf : MethodName := ⟨R_La, "commandOf", "(LFileBuilder;I[J)I"⟩
abbrev b_La_cut : ByteArray := method_15_code
def y_La_cut : MethodName := ⟨R_La, "cut", "(LFileBuilder;I[J)I"⟩
abbrev b_Ar_fill : ByteArray := prog_17_method_103_code
def y_Ar_fill : MethodName := ⟨R_Ar, "fill", "([II)V"⟩
theorem tw_0 : (Jvm.Cond.initialized "FileBuilderLaw") ∈ xTB := x_t1 0 rfl rfl
theorem tw_1 : (Jvm.Cond.initialized "FileBuilder") ∈ xTB := x_t1 1 rfl rfl
theorem tw_2 : (Jvm.Cond.initialized "FileBuilder$Disk") ∈ xTB := x_t1 2 rfl rfl
theorem tw_3 : (Jvm.Cond.initialized "FileBuilder$Graph") ∈ xTB := x_t1 3 rfl rfl
theorem tw_4 : (Jvm.Cond.initialized "FileBuilder$Readings") ∈ xTB := x_t1 4 rfl rfl
theorem tw_5 : (Jvm.Cond.initialized "FileBuilder$RecordLog") ∈ xTB := x_t1 5 rfl rfl
theorem tw_6 : (Jvm.Cond.initialized "java/util/Arrays") ∈ xTB := x_t1 6 rfl rfl
theorem tw_7 : (Jvm.Cond.initialized "FileBuilder$Build") ∈ xTB := x_t1 7 rfl rfl
theorem tw_8 : (Jvm.Cond.initialized "FileBuilderModel") ∈ xTB := x_t1 8 rfl rfl
theorem tw_9 : (Jvm.Cond.initialized "java/lang/Throwable") ∈ xTB := x_t1 9 rfl rfl
theorem tw_10 : (Jvm.Cond.initialized "java/lang/Exception") ∈ xTB := x_t1 10 rfl rfl
theorem tw_11 : (Jvm.Cond.initialized "java/lang/RuntimeException") ∈ xTB := x_t1 11 rfl rfl
theorem tw_12 : (Jvm.Cond.initialized "java/lang/IllegalArgumentException") ∈ xTB := x_t1 12 rfl rfl
theorem tw_13 : (Jvm.Cond.initialized "java/lang/IllegalStateException") ∈ xTB := x_t1 13 rfl rfl
theorem tw_14 : (Jvm.Cond.initialized "java/util/NoSuchElementException") ∈ xTB := x_t1 14 rfl rfl
theorem tw_15 : (Jvm.Cond.initialized "java/lang/UnsupportedOperationException") ∈ xTB := x_t1 15 rfl rfl
theorem tw_16 : (Jvm.Cond.initialized "java/lang/Math") ∈ xTB := x_t1 16 rfl rfl
theorem tw_17 : (Jvm.Cond.classLink "FileBuilderLaw" (8 : Nat) "FileBuilder") ∈ xTB := x_t1 17 rfl rfl
theorem tw_18 : (Jvm.Cond.instantiable "FileBuilder" (6 : Nat)) ∈ xTB := x_t1 18 rfl rfl
theorem tw_19 : (Jvm.Cond.methodLink "FileBuilderLaw" (64 : Nat) ({ cls := "FileBuilder", name := "<init>", desc := "()V" } : Jvm.MethodName)) ∈ xTB := x_t1 19 rfl rfl
theorem tw_20 : (Jvm.Cond.instanceMethod ({ cls := "FileBuilder", name := "<init>", desc := "()V" } : Jvm.MethodName)) ∈ xTB := x_t1 20 rfl rfl
theorem tw_21 : (Jvm.Cond.code ({ cls := "FileBuilder", name := "<init>", desc := "()V" } : Jvm.MethodName) prog_1_method_1_code (1 : Nat) (Option.none : Option Jvm.ClassFile.FieldType)) ∈ xTB := x_t1 21 rfl rfl
theorem tw_22 : (Jvm.Cond.methodLink "FileBuilder" (3 : Nat) ({ cls := "java/lang/Object", name := "<init>", desc := "()V" } : Jvm.MethodName)) ∈ xTB := x_t1 22 rfl rfl
theorem tw_23 : (Jvm.Cond.instanceMethod ({ cls := "java/lang/Object", name := "<init>", desc := "()V" } : Jvm.MethodName)) ∈ xTB := x_t1 23 rfl rfl
theorem tw_24 : (Jvm.Cond.code ({ cls := "java/lang/Object", name := "<init>", desc := "()V" } : Jvm.MethodName) object_method_1_code (1 : Nat) (Option.none : Option Jvm.ClassFile.FieldType)) ∈ xTB := x_t1 24 rfl rfl
theorem tw_25 : (Jvm.Cond.classLink "FileBuilder" (9 : Nat) "FileBuilder$Disk") ∈ xTB := x_t1 25 rfl rfl
theorem tw_26 : (Jvm.Cond.instantiable "FileBuilder$Disk" (4 : Nat)) ∈ xTB := x_t1 26 rfl rfl
theorem tw_28 : (Jvm.Cond.instanceMethod ({ cls := "FileBuilder$Disk", name := "<init>", desc := "()V" } : Jvm.MethodName)) ∈ xTB := x_t1 28 rfl rfl
theorem tw_29 : (Jvm.Cond.code ({ cls := "FileBuilder$Disk", name := "<init>", desc := "()V" } : Jvm.MethodName) prog_3_method_1_code (1 : Nat) (Option.none : Option Jvm.ClassFile.FieldType)) ∈ xTB := x_t1 29 rfl rfl
theorem tw_30 : (Jvm.Cond.methodLink "FileBuilder$Disk" (3 : Nat) ({ cls := "java/lang/Object", name := "<init>", desc := "()V" } : Jvm.MethodName)) ∈ xTB := x_t1 30 rfl rfl
theorem tw_31 : (Jvm.Cond.fieldLink "FileBuilder$Disk" (9 : Nat) "FileBuilder$Disk" "contents" "[I") ∈ xTB := x_t1 31 rfl rfl
theorem tw_33 : (Jvm.Cond.fieldLink "FileBuilder$Disk" (15 : Nat) "FileBuilder$Disk" "times" "[I") ∈ xTB := x_t1 33 rfl rfl
theorem tw_35 : (Jvm.Cond.fieldLink "FileBuilder$Disk" (18 : Nat) "FileBuilder$Disk" "clock" "I") ∈ xTB := x_t1 35 rfl rfl
theorem tw_36 : (Jvm.Cond.fieldLink "FileBuilder$Disk" (22 : Nat) "FileBuilder$Disk" "there" "I") ∈ xTB := x_t1 36 rfl rfl
theorem tw_38 : (Jvm.Cond.laysFinal "FileBuilder$Disk" "FileBuilder$Disk" "contents" "[I") ∈ xTB := x_t1 38 rfl rfl
theorem tw_40 : (Jvm.Cond.laysFinal "FileBuilder$Disk" "FileBuilder$Disk" "times" "[I") ∈ xTB := x_t1 40 rfl rfl
theorem tw_42 : (Jvm.Cond.lays "FileBuilder$Disk" "FileBuilder$Disk" "clock" "I") ∈ xTB := x_t1 42 rfl rfl
theorem tw_44 : (Jvm.Cond.lays "FileBuilder$Disk" "FileBuilder$Disk" "there" "I") ∈ xTB := x_t1 44 rfl rfl
theorem tw_47 : (Jvm.Cond.arrayClass Jvm.ClassFile.FieldType.int) ∈ xTB := x_t1 47 rfl rfl
theorem tw_48 : (Jvm.Cond.classLink "FileBuilder" (16 : Nat) "FileBuilder$Graph") ∈ xTB := x_t1 48 rfl rfl
theorem tw_49 : (Jvm.Cond.instantiable "FileBuilder$Graph" (6 : Nat)) ∈ xTB := x_t1 49 rfl rfl
theorem tw_51 : (Jvm.Cond.instanceMethod ({ cls := "FileBuilder$Graph", name := "<init>", desc := "()V" } : Jvm.MethodName)) ∈ xTB := x_t1 51 rfl rfl
theorem tw_52 : (Jvm.Cond.code ({ cls := "FileBuilder$Graph", name := "<init>", desc := "()V" } : Jvm.MethodName) prog_4_method_1_code (1 : Nat) (Option.none : Option Jvm.ClassFile.FieldType)) ∈ xTB := x_t1 52 rfl rfl
theorem tw_53 : (Jvm.Cond.methodLink "FileBuilder$Graph" (3 : Nat) ({ cls := "java/lang/Object", name := "<init>", desc := "()V" } : Jvm.MethodName)) ∈ xTB := x_t1 53 rfl rfl
theorem tw_54 : (Jvm.Cond.classLink "FileBuilder$Graph" (24 : Nat) "[[I") ∈ xTB := x_t1 54 rfl rfl
theorem tw_56 : (Jvm.Cond.fieldLink "FileBuilder$Graph" (9 : Nat) "FileBuilder$Graph" "commands" "[I") ∈ xTB := x_t1 56 rfl rfl
theorem tw_58 : (Jvm.Cond.fieldLink "FileBuilder$Graph" (15 : Nat) "FileBuilder$Graph" "flags" "[I") ∈ xTB := x_t1 58 rfl rfl
theorem tw_59 : (Jvm.Cond.fieldLink "FileBuilder$Graph" (18 : Nat) "FileBuilder$Graph" "pools" "[I") ∈ xTB := x_t1 59 rfl rfl
theorem tw_61 : (Jvm.Cond.fieldLink "FileBuilder$Graph" (21 : Nat) "FileBuilder$Graph" "readBy" "[I") ∈ xTB := x_t1 61 rfl rfl
theorem tw_63 : (Jvm.Cond.fieldLink "FileBuilder$Graph" (26 : Nat) "FileBuilder$Graph" "links" "[[I") ∈ xTB := x_t1 63 rfl rfl
theorem tw_65 : (Jvm.Cond.fieldLink "FileBuilder$Graph" (29 : Nat) "FileBuilder$Graph" "count" "I") ∈ xTB := x_t1 65 rfl rfl
theorem tw_67 : (Jvm.Cond.laysFinal "FileBuilder$Graph" "FileBuilder$Graph" "commands" "[I") ∈ xTB := x_t1 67 rfl rfl
theorem tw_69 : (Jvm.Cond.laysFinal "FileBuilder$Graph" "FileBuilder$Graph" "flags" "[I") ∈ xTB := x_t1 69 rfl rfl
theorem tw_71 : (Jvm.Cond.laysFinal "FileBuilder$Graph" "FileBuilder$Graph" "pools" "[I") ∈ xTB := x_t1 71 rfl rfl
theorem tw_73 : (Jvm.Cond.laysFinal "FileBuilder$Graph" "FileBuilder$Graph" "readBy" "[I") ∈ xTB := x_t1 73 rfl rfl
theorem tw_75 : (Jvm.Cond.laysFinal "FileBuilder$Graph" "FileBuilder$Graph" "links" "[[I") ∈ xTB := x_t1 75 rfl rfl
theorem tw_77 : (Jvm.Cond.lays "FileBuilder$Graph" "FileBuilder$Graph" "count" "I") ∈ xTB := x_t1 77 rfl rfl
theorem tw_80 : (Jvm.Cond.classLink "FileBuilder" (23 : Nat) "FileBuilder$Readings") ∈ xTB := x_t1 80 rfl rfl
theorem tw_81 : (Jvm.Cond.instantiable "FileBuilder$Readings" (2 : Nat)) ∈ xTB := x_t1 81 rfl rfl
theorem tw_83 : (Jvm.Cond.instanceMethod ({ cls := "FileBuilder$Readings", name := "<init>", desc := "()V" } : Jvm.MethodName)) ∈ xTB := x_t1 83 rfl rfl
theorem tw_84 : (Jvm.Cond.code ({ cls := "FileBuilder$Readings", name := "<init>", desc := "()V" } : Jvm.MethodName) prog_5_method_1_code (1 : Nat) (Option.none : Option Jvm.ClassFile.FieldType)) ∈ xTB := x_t1 84 rfl rfl
theorem tw_85 : (Jvm.Cond.methodLink "FileBuilder$Readings" (3 : Nat) ({ cls := "java/lang/Object", name := "<init>", desc := "()V" } : Jvm.MethodName)) ∈ xTB := x_t1 85 rfl rfl
theorem tw_86 : (Jvm.Cond.fieldLink "FileBuilder$Readings" (9 : Nat) "FileBuilder$Readings" "recorded" "[I") ∈ xTB := x_t1 86 rfl rfl
theorem tw_88 : (Jvm.Cond.fieldLink "FileBuilder$Readings" (15 : Nat) "FileBuilder$Readings" "known" "[Z") ∈ xTB := x_t1 88 rfl rfl
theorem tw_90 : (Jvm.Cond.laysFinal "FileBuilder$Readings" "FileBuilder$Readings" "recorded" "[I") ∈ xTB := x_t1 90 rfl rfl
theorem tw_92 : (Jvm.Cond.laysFinal "FileBuilder$Readings" "FileBuilder$Readings" "known" "[Z") ∈ xTB := x_t1 92 rfl rfl
theorem tw_95 : (Jvm.Cond.arrayClass Jvm.ClassFile.FieldType.boolean) ∈ xTB := x_t1 95 rfl rfl
theorem tw_96 : (Jvm.Cond.classLink "FileBuilder" (30 : Nat) "FileBuilder$RecordLog") ∈ xTB := x_t1 96 rfl rfl
theorem tw_97 : (Jvm.Cond.instantiable "FileBuilder$RecordLog" (4 : Nat)) ∈ xTB := x_t1 97 rfl rfl
theorem tw_99 : (Jvm.Cond.instanceMethod ({ cls := "FileBuilder$RecordLog", name := "<init>", desc := "()V" } : Jvm.MethodName)) ∈ xTB := x_t1 99 rfl rfl
theorem tw_100 : (Jvm.Cond.code ({ cls := "FileBuilder$RecordLog", name := "<init>", desc := "()V" } : Jvm.MethodName) prog_6_method_1_code (1 : Nat) (Option.none : Option Jvm.ClassFile.FieldType)) ∈ xTB := x_t1 100 rfl rfl
theorem tw_101 : (Jvm.Cond.methodLink "FileBuilder$RecordLog" (5 : Nat) ({ cls := "java/lang/Object", name := "<init>", desc := "()V" } : Jvm.MethodName)) ∈ xTB := x_t1 101 rfl rfl
theorem tw_102 : (Jvm.Cond.methodLink "FileBuilder$RecordLog" (21 : Nat) ({ cls := "java/util/Arrays", name := "fill", desc := "([II)V" } : Jvm.MethodName)) ∈ xTB := x_t1 102 rfl rfl
theorem tw_103 : (Jvm.Cond.static ({ cls := "java/util/Arrays", name := "fill", desc := "([II)V" } : Jvm.MethodName)) ∈ xTB := x_t1 103 rfl rfl
theorem tw_104 : (Jvm.Cond.code ({ cls := "java/util/Arrays", name := "fill", desc := "([II)V" } : Jvm.MethodName) prog_17_method_103_code (4 : Nat) (Option.none : Option Jvm.ClassFile.FieldType)) ∈ xTB := x_t1 104 rfl rfl
theorem tw_105 : (Jvm.Cond.fieldLink "FileBuilder$RecordLog" (11 : Nat) "FileBuilder$RecordLog" "bytes" "[I") ∈ xTB := x_t1 105 rfl rfl
theorem tw_107 : (Jvm.Cond.fieldLink "FileBuilder$RecordLog" (15 : Nat) "FileBuilder$RecordLog" "commands" "[I") ∈ xTB := x_t1 107 rfl rfl
theorem tw_109 : (Jvm.Cond.fieldLink "FileBuilder$RecordLog" (18 : Nat) "FileBuilder$RecordLog" "times" "[I") ∈ xTB := x_t1 109 rfl rfl
theorem tw_111 : (Jvm.Cond.fieldLink "FileBuilder$RecordLog" (27 : Nat) "FileBuilder$RecordLog" "length" "I") ∈ xTB := x_t1 111 rfl rfl
theorem tw_113 : (Jvm.Cond.laysFinal "FileBuilder$RecordLog" "FileBuilder$RecordLog" "bytes" "[I") ∈ xTB := x_t1 113 rfl rfl
theorem tw_115 : (Jvm.Cond.laysFinal "FileBuilder$RecordLog" "FileBuilder$RecordLog" "commands" "[I") ∈ xTB := x_t1 115 rfl rfl
theorem tw_117 : (Jvm.Cond.laysFinal "FileBuilder$RecordLog" "FileBuilder$RecordLog" "times" "[I") ∈ xTB := x_t1 117 rfl rfl
theorem tw_119 : (Jvm.Cond.lays "FileBuilder$RecordLog" "FileBuilder$RecordLog" "length" "I") ∈ xTB := x_t1 119 rfl rfl
theorem tw_122 : (Jvm.Cond.classLink "FileBuilder" (37 : Nat) "FileBuilder$Build") ∈ xTB := x_t1 122 rfl rfl
theorem tw_123 : (Jvm.Cond.instantiable "FileBuilder$Build" (4 : Nat)) ∈ xTB := x_t1 123 rfl rfl
theorem tw_125 : (Jvm.Cond.instanceMethod ({ cls := "FileBuilder$Build", name := "<init>", desc := "()V" } : Jvm.MethodName)) ∈ xTB := x_t1 125 rfl rfl
theorem tw_126 : (Jvm.Cond.code ({ cls := "FileBuilder$Build", name := "<init>", desc := "()V" } : Jvm.MethodName) prog_2_method_1_code (1 : Nat) (Option.none : Option Jvm.ClassFile.FieldType)) ∈ xTB := x_t1 126 rfl rfl
theorem tw_127 : (Jvm.Cond.methodLink "FileBuilder$Build" (3 : Nat) ({ cls := "java/lang/Object", name := "<init>", desc := "()V" } : Jvm.MethodName)) ∈ xTB := x_t1 127 rfl rfl
theorem tw_128 : (Jvm.Cond.fieldLink "FileBuilder$Build" (9 : Nat) "FileBuilder$Build" "steps" "[I") ∈ xTB := x_t1 128 rfl rfl
theorem tw_130 : (Jvm.Cond.fieldLink "FileBuilder$Build" (25 : Nat) "FileBuilder$Build" "jobs" "I") ∈ xTB := x_t1 130 rfl rfl
theorem tw_132 : (Jvm.Cond.fieldLink "FileBuilder$Build" (28 : Nat) "FileBuilder$Build" "fail" "I") ∈ xTB := x_t1 132 rfl rfl
theorem tw_134 : (Jvm.Cond.fieldLink "FileBuilder$Build" (15 : Nat) "FileBuilder$Build" "stage" "I") ∈ xTB := x_t1 134 rfl rfl
theorem tw_136 : (Jvm.Cond.laysFinal "FileBuilder$Build" "FileBuilder$Build" "steps" "[I") ∈ xTB := x_t1 136 rfl rfl
theorem tw_138 : (Jvm.Cond.lays "FileBuilder$Build" "FileBuilder$Build" "jobs" "I") ∈ xTB := x_t1 138 rfl rfl
theorem tw_140 : (Jvm.Cond.lays "FileBuilder$Build" "FileBuilder$Build" "fail" "I") ∈ xTB := x_t1 140 rfl rfl
theorem tw_142 : (Jvm.Cond.lays "FileBuilder$Build" "FileBuilder$Build" "stage" "I") ∈ xTB := x_t1 142 rfl rfl
theorem tw_145 : (Jvm.Cond.methodLink "FileBuilder" (48 : Nat) ({ cls := "java/util/Arrays", name := "fill", desc := "([II)V" } : Jvm.MethodName)) ∈ xTB := x_t1 145 rfl rfl
theorem tw_146 : (Jvm.Cond.fieldLink "FileBuilder" (12 : Nat) "FileBuilder" "disk" "LFileBuilder$Disk;") ∈ xTB := x_t1 146 rfl rfl
theorem tw_147 : (Jvm.Cond.fieldLink "FileBuilder" (19 : Nat) "FileBuilder" "graph" "LFileBuilder$Graph;") ∈ xTB := x_t1 147 rfl rfl
theorem tw_148 : (Jvm.Cond.fieldLink "FileBuilder" (26 : Nat) "FileBuilder" "readings" "LFileBuilder$Readings;") ∈ xTB := x_t1 148 rfl rfl
theorem tw_149 : (Jvm.Cond.fieldLink "FileBuilder" (33 : Nat) "FileBuilder" "records" "LFileBuilder$RecordLog;") ∈ xTB := x_t1 149 rfl rfl
theorem tw_150 : (Jvm.Cond.fieldLink "FileBuilder" (40 : Nat) "FileBuilder" "build" "LFileBuilder$Build;") ∈ xTB := x_t1 150 rfl rfl
theorem tw_151 : (Jvm.Cond.fieldLink "FileBuilder" (44 : Nat) "FileBuilder" "depths" "[I") ∈ xTB := x_t1 151 rfl rfl
theorem tw_152 : (Jvm.Cond.laysFinal "FileBuilder" "FileBuilder" "disk" "LFileBuilder$Disk;") ∈ xTB := x_t1 152 rfl rfl
theorem tw_154 : (Jvm.Cond.laysFinal "FileBuilder" "FileBuilder" "graph" "LFileBuilder$Graph;") ∈ xTB := x_t1 154 rfl rfl
theorem tw_156 : (Jvm.Cond.laysFinal "FileBuilder" "FileBuilder" "readings" "LFileBuilder$Readings;") ∈ xTB := x_t1 156 rfl rfl
theorem tw_158 : (Jvm.Cond.laysFinal "FileBuilder" "FileBuilder" "records" "LFileBuilder$RecordLog;") ∈ xTB := x_t1 158 rfl rfl
theorem tw_160 : (Jvm.Cond.laysFinal "FileBuilder" "FileBuilder" "build" "LFileBuilder$Build;") ∈ xTB := x_t1 160 rfl rfl
theorem tw_162 : (Jvm.Cond.laysFinal "FileBuilder" "FileBuilder" "depths" "[I") ∈ xTB := x_t1 162 rfl rfl
theorem tw_165 : (Jvm.Cond.methodLink "FileBuilderLaw" (103 : Nat) ({ cls := "FileBuilder", name := "start", desc := "()I" } : Jvm.MethodName)) ∈ xTB := x_t1 165 rfl rfl
theorem tw_166 : (Jvm.Cond.instanceMethod ({ cls := "FileBuilder", name := "start", desc := "()I" } : Jvm.MethodName)) ∈ xTB := x_t1 166 rfl rfl
theorem tw_167 : (Jvm.Cond.selects "FileBuilder" ({ cls := "FileBuilder", name := "start", desc := "()I" } : Jvm.MethodName) ({ cls := "FileBuilder", name := "start", desc := "()I" } : Jvm.MethodName)) ∈ xTB := x_t1 167 rfl rfl
theorem tw_168 : (Jvm.Cond.code ({ cls := "FileBuilder", name := "start", desc := "()I" } : Jvm.MethodName) prog_1_method_10_code (2 : Nat) (Option.some Jvm.ClassFile.FieldType.int)) ∈ xTB := x_t1 168 rfl rfl
theorem tw_171 : (Jvm.Cond.instanceMethod ({ cls := "FileBuilder$Build", name := "isUnderWay", desc := "()Z" } : Jvm.MethodName)) ∈ xTB := x_t1 171 rfl rfl
theorem tw_172 : (Jvm.Cond.code ({ cls := "FileBuilder$Build", name := "isUnderWay", desc := "()Z" } : Jvm.MethodName) prog_2_method_2_code (1 : Nat) (Option.some Jvm.ClassFile.FieldType.boolean)) ∈ xTB := x_t1 172 rfl rfl
theorem tw_173 : (Jvm.Cond.methodLink "FileBuilder" (193 : Nat) ({ cls := "FileBuilder", name := "nextToBegin", desc := "()I" } : Jvm.MethodName)) ∈ xTB := x_t1 173 rfl rfl
theorem tw_175 : (Jvm.Cond.instanceMethod ({ cls := "FileBuilder", name := "nextToBegin", desc := "()I" } : Jvm.MethodName)) ∈ xTB := x_t1 175 rfl rfl
theorem tw_176 : (Jvm.Cond.code ({ cls := "FileBuilder", name := "nextToBegin", desc := "()I" } : Jvm.MethodName) prog_1_method_35_code (2 : Nat) (Option.some Jvm.ClassFile.FieldType.int)) ∈ xTB := x_t1 176 rfl rfl
theorem tw_179 : (Jvm.Cond.instanceMethod ({ cls := "FileBuilder$Build", name := "countAt", desc := "(I)I" } : Jvm.MethodName)) ∈ xTB := x_t1 179 rfl rfl
theorem tw_180 : (Jvm.Cond.code ({ cls := "FileBuilder$Build", name := "countAt", desc := "(I)I" } : Jvm.MethodName) prog_2_method_4_code (4 : Nat) (Option.some Jvm.ClassFile.FieldType.int)) ∈ xTB := x_t1 180 rfl rfl
theorem tw_181 : (Jvm.Cond.methodLink "FileBuilder" (304 : Nat) ({ cls := "FileBuilder", name := "hasRoomInPool", desc := "(I)Z" } : Jvm.MethodName)) ∈ xTB := x_t1 181 rfl rfl
theorem tw_183 : (Jvm.Cond.instanceMethod ({ cls := "FileBuilder", name := "hasRoomInPool", desc := "(I)Z" } : Jvm.MethodName)) ∈ xTB := x_t1 183 rfl rfl
theorem tw_184 : (Jvm.Cond.code ({ cls := "FileBuilder", name := "hasRoomInPool", desc := "(I)Z" } : Jvm.MethodName) prog_1_method_36_code (5 : Nat) (Option.some Jvm.ClassFile.FieldType.boolean)) ∈ xTB := x_t1 184 rfl rfl
theorem tw_187 : (Jvm.Cond.instanceMethod ({ cls := "FileBuilder$Graph", name := "behind", desc := "(IZ)I" } : Jvm.MethodName)) ∈ xTB := x_t1 187 rfl rfl
theorem tw_188 : (Jvm.Cond.code ({ cls := "FileBuilder$Graph", name := "behind", desc := "(IZ)I" } : Jvm.MethodName) prog_4_method_12_code (7 : Nat) (Option.some Jvm.ClassFile.FieldType.int)) ∈ xTB := x_t1 188 rfl rfl
theorem tw_189 : (Jvm.Cond.methodLink "FileBuilder$Graph" (49 : Nat) ({ cls := "FileBuilder$Graph", name := "waits", desc := "(I)I" } : Jvm.MethodName)) ∈ xTB := x_t1 189 rfl rfl
theorem tw_191 : (Jvm.Cond.instanceMethod ({ cls := "FileBuilder$Graph", name := "waits", desc := "(I)I" } : Jvm.MethodName)) ∈ xTB := x_t1 191 rfl rfl
theorem tw_192 : (Jvm.Cond.code ({ cls := "FileBuilder$Graph", name := "waits", desc := "(I)I" } : Jvm.MethodName) prog_4_method_8_code (2 : Nat) (Option.some Jvm.ClassFile.FieldType.int)) ∈ xTB := x_t1 192 rfl rfl
theorem tw_193 : (Jvm.Cond.methodLink "FileBuilder$Graph" (41 : Nat) ({ cls := "FileBuilder$Graph", name := "needs", desc := "(I)I" } : Jvm.MethodName)) ∈ xTB := x_t1 193 rfl rfl
theorem tw_195 : (Jvm.Cond.instanceMethod ({ cls := "FileBuilder$Graph", name := "needs", desc := "(I)I" } : Jvm.MethodName)) ∈ xTB := x_t1 195 rfl rfl
theorem tw_196 : (Jvm.Cond.code ({ cls := "FileBuilder$Graph", name := "needs", desc := "(I)I" } : Jvm.MethodName) prog_4_method_7_code (2 : Nat) (Option.some Jvm.ClassFile.FieldType.int)) ∈ xTB := x_t1 196 rfl rfl
theorem tw_197 : (Jvm.Cond.methodLink "FileBuilder$Graph" (45 : Nat) ({ cls := "FileBuilder$Graph", name := "isPhony", desc := "(I)Z" } : Jvm.MethodName)) ∈ xTB := x_t1 197 rfl rfl
theorem tw_199 : (Jvm.Cond.instanceMethod ({ cls := "FileBuilder$Graph", name := "isPhony", desc := "(I)Z" } : Jvm.MethodName)) ∈ xTB := x_t1 199 rfl rfl
theorem tw_200 : (Jvm.Cond.code ({ cls := "FileBuilder$Graph", name := "isPhony", desc := "(I)Z" } : Jvm.MethodName) prog_4_method_5_code (2 : Nat) (Option.some Jvm.ClassFile.FieldType.boolean)) ∈ xTB := x_t1 200 rfl rfl
theorem tw_201 : (Jvm.Cond.methodLink "FileBuilder$Graph" (37 : Nat) ({ cls := "FileBuilder$Graph", name := "hasFlag", desc := "(II)Z" } : Jvm.MethodName)) ∈ xTB := x_t1 201 rfl rfl
theorem tw_203 : (Jvm.Cond.instanceMethod ({ cls := "FileBuilder$Graph", name := "hasFlag", desc := "(II)Z" } : Jvm.MethodName)) ∈ xTB := x_t1 203 rfl rfl
theorem tw_204 : (Jvm.Cond.code ({ cls := "FileBuilder$Graph", name := "hasFlag", desc := "(II)Z" } : Jvm.MethodName) prog_4_method_4_code (3 : Nat) (Option.some Jvm.ClassFile.FieldType.boolean)) ∈ xTB := x_t1 204 rfl rfl
theorem tw_205 : (Jvm.Cond.methodLink "FileBuilder" (263 : Nat) ({ cls := "FileBuilder", name := "isMadeByPending", desc := "(I)Z" } : Jvm.MethodName)) ∈ xTB := x_t1 205 rfl rfl
theorem tw_207 : (Jvm.Cond.instanceMethod ({ cls := "FileBuilder", name := "isMadeByPending", desc := "(I)Z" } : Jvm.MethodName)) ∈ xTB := x_t1 207 rfl rfl
theorem tw_208 : (Jvm.Cond.code ({ cls := "FileBuilder", name := "isMadeByPending", desc := "(I)Z" } : Jvm.MethodName) prog_1_method_34_code (3 : Nat) (Option.some Jvm.ClassFile.FieldType.boolean)) ∈ xTB := x_t1 208 rfl rfl
theorem tw_211 : (Jvm.Cond.instanceMethod ({ cls := "FileBuilder$Build", name := "isPending", desc := "(I)Z" } : Jvm.MethodName)) ∈ xTB := x_t1 211 rfl rfl
theorem tw_212 : (Jvm.Cond.code ({ cls := "FileBuilder$Build", name := "isPending", desc := "(I)Z" } : Jvm.MethodName) prog_2_method_3_code (2 : Nat) (Option.some Jvm.ClassFile.FieldType.boolean)) ∈ xTB := x_t1 212 rfl rfl
theorem tw_213 : (Jvm.Cond.methodLink "FileBuilderLaw" (111 : Nat) ({ cls := "FileBuilder", name := "state", desc := "()I" } : Jvm.MethodName)) ∈ xTB := x_t1 213 rfl rfl
theorem tw_214 : (Jvm.Cond.instanceMethod ({ cls := "FileBuilder", name := "state", desc := "()I" } : Jvm.MethodName)) ∈ xTB := x_t1 214 rfl rfl
theorem tw_215 : (Jvm.Cond.selects "FileBuilder" ({ cls := "FileBuilder", name := "state", desc := "()I" } : Jvm.MethodName) ({ cls := "FileBuilder", name := "state", desc := "()I" } : Jvm.MethodName)) ∈ xTB := x_t1 215 rfl rfl
theorem tw_216 : (Jvm.Cond.code ({ cls := "FileBuilder", name := "state", desc := "()I" } : Jvm.MethodName) prog_1_method_12_code (1 : Nat) (Option.some Jvm.ClassFile.FieldType.int)) ∈ xTB := x_t1 216 rfl rfl
theorem tw_217 : (Jvm.Cond.methodLink "FileBuilderLaw" (126 : Nat) ({ cls := "FileBuilder", name := "log", desc := "(I)I" } : Jvm.MethodName)) ∈ xTB := x_t1 217 rfl rfl
theorem tw_218 : (Jvm.Cond.instanceMethod ({ cls := "FileBuilder", name := "log", desc := "(I)I" } : Jvm.MethodName)) ∈ xTB := x_t1 218 rfl rfl
theorem tw_219 : (Jvm.Cond.selects "FileBuilder" ({ cls := "FileBuilder", name := "log", desc := "(I)I" } : Jvm.MethodName) ({ cls := "FileBuilder", name := "log", desc := "(I)I" } : Jvm.MethodName)) ∈ xTB := x_t1 219 rfl rfl
theorem tw_220 : (Jvm.Cond.code ({ cls := "FileBuilder", name := "log", desc := "(I)I" } : Jvm.MethodName) prog_1_method_16_code (2 : Nat) (Option.some Jvm.ClassFile.FieldType.int)) ∈ xTB := x_t1 220 rfl rfl
theorem tw_223 : (Jvm.Cond.instanceMethod ({ cls := "FileBuilder$RecordLog", name := "hasByte", desc := "(I)Z" } : Jvm.MethodName)) ∈ xTB := x_t1 223 rfl rfl
theorem tw_224 : (Jvm.Cond.code ({ cls := "FileBuilder$RecordLog", name := "hasByte", desc := "(I)Z" } : Jvm.MethodName) prog_6_method_2_code (2 : Nat) (Option.some Jvm.ClassFile.FieldType.boolean)) ∈ xTB := x_t1 224 rfl rfl
theorem tw_226 : (Jvm.Cond.static ({ cls := "FileBuilder", name := "isIn", desc := "(III)Z" } : Jvm.MethodName)) ∈ xTB := x_t1 226 rfl rfl
theorem tw_227 : (Jvm.Cond.code ({ cls := "FileBuilder", name := "isIn", desc := "(III)Z" } : Jvm.MethodName) prog_1_method_19_code (3 : Nat) (Option.some Jvm.ClassFile.FieldType.boolean)) ∈ xTB := x_t1 227 rfl rfl
theorem tw_228 : (Jvm.Cond.methodLink "FileBuilderLaw" (133 : Nat) ({ cls := "FileBuilder", name := "spoil", desc := "(II)Z" } : Jvm.MethodName)) ∈ xTB := x_t1 228 rfl rfl
theorem tw_229 : (Jvm.Cond.instanceMethod ({ cls := "FileBuilder", name := "spoil", desc := "(II)Z" } : Jvm.MethodName)) ∈ xTB := x_t1 229 rfl rfl
theorem tw_230 : (Jvm.Cond.selects "FileBuilder" ({ cls := "FileBuilder", name := "spoil", desc := "(II)Z" } : Jvm.MethodName) ({ cls := "FileBuilder", name := "spoil", desc := "(II)Z" } : Jvm.MethodName)) ∈ xTB := x_t1 230 rfl rfl
theorem tw_231 : (Jvm.Cond.code ({ cls := "FileBuilder", name := "spoil", desc := "(II)Z" } : Jvm.MethodName) prog_1_method_18_code (3 : Nat) (Option.some Jvm.ClassFile.FieldType.boolean)) ∈ xTB := x_t1 231 rfl rfl
theorem tw_232 : (Jvm.Cond.methodLink "FileBuilderLaw" (68 : Nat) ({ cls := "FileBuilderLaw", name := "edge", desc := "(LFileBuilder;III[J)I" } : Jvm.MethodName)) ∈ xTB := x_t1 232 rfl rfl
theorem tw_233 : (Jvm.Cond.static ({ cls := "FileBuilderLaw", name := "edge", desc := "(LFileBuilder;III[J)I" } : Jvm.MethodName)) ∈ xTB := x_t1 233 rfl rfl
theorem tw_234 : (Jvm.Cond.codeWith ({ cls := "FileBuilderLaw", name := "edge", desc := "(LFileBuilder;III[J)I" } : Jvm.MethodName) method_3_code (6 : Nat) (Option.some Jvm.ClassFile.FieldType.int) [((0 : Nat), (12 : Nat), (15 : Nat), (13 : Nat)), ((0 : Nat), (12 : Nat), (19 : Nat), (15 : Nat))]) ∈ xTB := x_t1 234 rfl rfl
theorem tw_235 : (Jvm.Cond.classLink "FileBuilderLaw" (13 : Nat) "java/lang/IllegalArgumentException") ∈ xTB := x_t1 235 rfl rfl
theorem tw_236 : (Jvm.Cond.classLink "FileBuilderLaw" (15 : Nat) "java/lang/IllegalStateException") ∈ xTB := x_t1 236 rfl rfl
theorem tw_237 : (Jvm.Cond.methodLink "FileBuilderLaw" (7 : Nat) ({ cls := "FileBuilder", name := "edge", desc := "(III)I" } : Jvm.MethodName)) ∈ xTB := x_t1 237 rfl rfl
theorem tw_238 : (Jvm.Cond.instanceMethod ({ cls := "FileBuilder", name := "edge", desc := "(III)I" } : Jvm.MethodName)) ∈ xTB := x_t1 238 rfl rfl
theorem tw_239 : (Jvm.Cond.selects "FileBuilder" ({ cls := "FileBuilder", name := "edge", desc := "(III)I" } : Jvm.MethodName) ({ cls := "FileBuilder", name := "edge", desc := "(III)I" } : Jvm.MethodName)) ∈ xTB := x_t1 239 rfl rfl
theorem tw_240 : (Jvm.Cond.code ({ cls := "FileBuilder", name := "edge", desc := "(III)I" } : Jvm.MethodName) prog_1_method_2_code (4 : Nat) (Option.some Jvm.ClassFile.FieldType.int)) ∈ xTB := x_t2 0 rfl rfl
theorem tw_241 : (Jvm.Cond.methodLink "FileBuilder" (54 : Nat) ({ cls := "FileBuilder", name := "isCommand", desc := "(I)Z" } : Jvm.MethodName)) ∈ xTB := x_t2 1 rfl rfl
theorem tw_242 : (Jvm.Cond.static ({ cls := "FileBuilder", name := "isCommand", desc := "(I)Z" } : Jvm.MethodName)) ∈ xTB := x_t2 2 rfl rfl
theorem tw_243 : (Jvm.Cond.code ({ cls := "FileBuilder", name := "isCommand", desc := "(I)Z" } : Jvm.MethodName) prog_1_method_21_code (1 : Nat) (Option.some Jvm.ClassFile.FieldType.boolean)) ∈ xTB := x_t2 3 rfl rfl
theorem tw_244 : (Jvm.Cond.constant "FileBuilder" (127 : Nat) (65535 : Int32)) ∈ xTB := x_t2 4 rfl rfl
theorem tw_245 : (Jvm.Cond.methodLink "FileBuilder" (61 : Nat) ({ cls := "FileBuilder", name := "isIn", desc := "(III)Z" } : Jvm.MethodName)) ∈ xTB := x_t2 5 rfl rfl
theorem tw_246 : (Jvm.Cond.methodLink "FileBuilder" (58 : Nat) ({ cls := "FileBuilder", name := "areFlags", desc := "(I)Z" } : Jvm.MethodName)) ∈ xTB := x_t2 6 rfl rfl
theorem tw_247 : (Jvm.Cond.static ({ cls := "FileBuilder", name := "areFlags", desc := "(I)Z" } : Jvm.MethodName)) ∈ xTB := x_t2 7 rfl rfl
theorem tw_248 : (Jvm.Cond.code ({ cls := "FileBuilder", name := "areFlags", desc := "(I)Z" } : Jvm.MethodName) prog_1_method_22_code (1 : Nat) (Option.some Jvm.ClassFile.FieldType.boolean)) ∈ xTB := x_t2 8 rfl rfl
theorem tw_249 : (Jvm.Cond.classLink "FileBuilder" (65 : Nat) "java/lang/IllegalArgumentException") ∈ xTB := x_t2 9 rfl rfl
theorem tw_250 : (Jvm.Cond.instantiable "java/lang/IllegalArgumentException" (6 : Nat)) ∈ xTB := x_t2 10 rfl rfl
theorem tw_258 : (Jvm.Cond.selects "java/lang/IllegalArgumentException" ({ cls := "java/lang/Throwable", name := "fillInStackTrace", desc := "(I)Ljava/lang/Throwable;" } : Jvm.MethodName) ({ cls := "java/lang/Throwable", name := "fillInStackTrace", desc := "(I)Ljava/lang/Throwable;" } : Jvm.MethodName)) ∈ xTB := x_t2 18 rfl rfl
theorem tw_259 : (Jvm.Cond.selects "java/lang/IllegalArgumentException" ({ cls := "java/lang/Throwable", name := "fillInStackTrace", desc := "()Ljava/lang/Throwable;" } : Jvm.MethodName) ({ cls := "java/lang/Throwable", name := "fillInStackTrace", desc := "()Ljava/lang/Throwable;" } : Jvm.MethodName)) ∈ xTB := x_t2 19 rfl rfl
theorem tw_260 : (Jvm.Cond.lays "java/lang/IllegalArgumentException" "java/lang/Throwable" "cause" "Ljava/lang/Throwable;") ∈ xTB := x_t2 20 rfl rfl
theorem tw_261 : (Jvm.Cond.lays "java/lang/Throwable" "java/lang/Throwable" "cause" "Ljava/lang/Throwable;") ∈ xTB := x_t2 21 rfl rfl
theorem tw_262 : (Jvm.Cond.lays "java/lang/IllegalArgumentException" "java/lang/Throwable" "stackTrace" "[Ljava/lang/StackTraceElement;") ∈ xTB := x_t2 22 rfl rfl
theorem tw_263 : (Jvm.Cond.lays "java/lang/Throwable" "java/lang/Throwable" "stackTrace" "[Ljava/lang/StackTraceElement;") ∈ xTB := x_t2 23 rfl rfl
theorem tw_264 : (Jvm.Cond.lays "java/lang/IllegalArgumentException" "java/lang/Throwable" "suppressedExceptions" "Ljava/util/List;") ∈ xTB := x_t2 24 rfl rfl
theorem tw_265 : (Jvm.Cond.lays "java/lang/Throwable" "java/lang/Throwable" "suppressedExceptions" "Ljava/util/List;") ∈ xTB := x_t2 25 rfl rfl
theorem tw_266 : (Jvm.Cond.lays "java/lang/IllegalArgumentException" "java/lang/Throwable" "detailMessage" "Ljava/lang/String;") ∈ xTB := x_t2 26 rfl rfl
theorem tw_267 : (Jvm.Cond.lays "java/lang/Throwable" "java/lang/Throwable" "detailMessage" "Ljava/lang/String;") ∈ xTB := x_t2 27 rfl rfl
theorem tw_268 : (Jvm.Cond.lays "java/lang/IllegalArgumentException" "java/lang/Throwable" "backtrace" "Ljava/lang/Object;") ∈ xTB := x_t2 28 rfl rfl
theorem tw_269 : (Jvm.Cond.lays "java/lang/Throwable" "java/lang/Throwable" "backtrace" "Ljava/lang/Object;") ∈ xTB := x_t2 29 rfl rfl
theorem tw_270 : (Jvm.Cond.fieldLink "java/lang/Throwable" (198 : Nat) "java/lang/Throwable" "backtrace" "Ljava/lang/Object;") ∈ xTB := x_t2 30 rfl rfl
theorem tw_272 : (Jvm.Cond.instanceMethod ({ cls := "java/lang/Throwable", name := "<init>", desc := "()V" } : Jvm.MethodName)) ∈ xTB := x_t2 32 rfl rfl
theorem tw_273 : (Jvm.Cond.code ({ cls := "java/lang/Throwable", name := "<init>", desc := "()V" } : Jvm.MethodName) prog_15_method_1_code (1 : Nat) (Option.none : Option Jvm.ClassFile.FieldType)) ∈ xTB := x_t2 33 rfl rfl
theorem tw_274 : (Jvm.Cond.methodLink "java/lang/Throwable" (1 : Nat) ({ cls := "java/lang/Object", name := "<init>", desc := "()V" } : Jvm.MethodName)) ∈ xTB := x_t2 34 rfl rfl
theorem tw_275 : (Jvm.Cond.fieldLink "java/lang/Throwable" (13 : Nat) "java/lang/Throwable" "UNASSIGNED_STACK" "[Ljava/lang/StackTraceElement;") ∈ xTB := x_t2 35 rfl rfl
theorem tw_277 : (Jvm.Cond.fieldLink "java/lang/Throwable" (20 : Nat) "java/lang/Throwable" "SUPPRESSED_SENTINEL" "Ljava/util/List;") ∈ xTB := x_t2 37 rfl rfl
theorem tw_279 : (Jvm.Cond.methodLink "java/lang/Throwable" (27 : Nat) ({ cls := "java/lang/Throwable", name := "fillInStackTrace", desc := "()Ljava/lang/Throwable;" } : Jvm.MethodName)) ∈ xTB := x_t2 39 rfl rfl
theorem tw_280 : (Jvm.Cond.instanceMethod ({ cls := "java/lang/Throwable", name := "fillInStackTrace", desc := "()Ljava/lang/Throwable;" } : Jvm.MethodName)) ∈ xTB := x_t2 40 rfl rfl
theorem tw_281 : (Jvm.Cond.sameMethod "java/lang/Throwable" "java/lang/Throwable" "fillInStackTrace" "()Ljava/lang/Throwable;") ∈ xTB := x_t2 41 rfl rfl
theorem tw_282 : (Jvm.Cond.selects "java/lang/IllegalStateException" ({ cls := "java/lang/Throwable", name := "fillInStackTrace", desc := "()Ljava/lang/Throwable;" } : Jvm.MethodName) ({ cls := "java/lang/Throwable", name := "fillInStackTrace", desc := "()Ljava/lang/Throwable;" } : Jvm.MethodName)) ∈ xTB := x_t2 42 rfl rfl
theorem tw_283 : (Jvm.Cond.selects "java/lang/UnsupportedOperationException" ({ cls := "java/lang/Throwable", name := "fillInStackTrace", desc := "()Ljava/lang/Throwable;" } : Jvm.MethodName) ({ cls := "java/lang/Throwable", name := "fillInStackTrace", desc := "()Ljava/lang/Throwable;" } : Jvm.MethodName)) ∈ xTB := x_t2 43 rfl rfl
theorem tw_284 : (Jvm.Cond.selects "java/util/NoSuchElementException" ({ cls := "java/lang/Throwable", name := "fillInStackTrace", desc := "()Ljava/lang/Throwable;" } : Jvm.MethodName) ({ cls := "java/lang/Throwable", name := "fillInStackTrace", desc := "()Ljava/lang/Throwable;" } : Jvm.MethodName)) ∈ xTB := x_t2 44 rfl rfl
theorem tw_285 : (Jvm.Cond.codeSync ({ cls := "java/lang/Throwable", name := "fillInStackTrace", desc := "()Ljava/lang/Throwable;" } : Jvm.MethodName) prog_15_method_18_code (1 : Nat) (Option.some (Jvm.ClassFile.FieldType.object "java/lang/Throwable"))) ∈ xTB := x_t2 45 rfl rfl
theorem tw_286 : (Jvm.Cond.methodLink "java/lang/Throwable" (202 : Nat) ({ cls := "java/lang/Throwable", name := "fillInStackTrace", desc := "(I)Ljava/lang/Throwable;" } : Jvm.MethodName)) ∈ xTB := x_t2 46 rfl rfl
theorem tw_288 : (Jvm.Cond.instanceMethod ({ cls := "java/lang/Throwable", name := "fillInStackTrace", desc := "(I)Ljava/lang/Throwable;" } : Jvm.MethodName)) ∈ xTB := x_t2 48 rfl rfl
theorem tw_289 : (Jvm.Cond.instantiable "java/lang/Throwable" (6 : Nat)) ∈ xTB := x_t2 49 rfl rfl
theorem tw_290 : (Jvm.Cond.native ({ cls := "java/lang/Throwable", name := "fillInStackTrace", desc := "(I)Ljava/lang/Throwable;" } : Jvm.MethodName)) ∈ xTB := x_t2 50 rfl rfl
theorem tw_292 : (Jvm.Cond.methodLink "FileBuilder" (69 : Nat) ({ cls := "java/lang/IllegalArgumentException", name := "<init>", desc := "(Ljava/lang/String;)V" } : Jvm.MethodName)) ∈ xTB := x_t2 52 rfl rfl
theorem tw_293 : (Jvm.Cond.instanceMethod ({ cls := "java/lang/IllegalArgumentException", name := "<init>", desc := "(Ljava/lang/String;)V" } : Jvm.MethodName)) ∈ xTB := x_t2 53 rfl rfl
theorem tw_294 : (Jvm.Cond.code ({ cls := "java/lang/IllegalArgumentException", name := "<init>", desc := "(Ljava/lang/String;)V" } : Jvm.MethodName) prog_10_method_2_code (2 : Nat) (Option.none : Option Jvm.ClassFile.FieldType)) ∈ xTB := x_t2 54 rfl rfl
theorem tw_295 : (Jvm.Cond.methodLink "java/lang/IllegalArgumentException" (7 : Nat) ({ cls := "java/lang/RuntimeException", name := "<init>", desc := "(Ljava/lang/String;)V" } : Jvm.MethodName)) ∈ xTB := x_t2 55 rfl rfl
theorem tw_296 : (Jvm.Cond.instanceMethod ({ cls := "java/lang/RuntimeException", name := "<init>", desc := "(Ljava/lang/String;)V" } : Jvm.MethodName)) ∈ xTB := x_t2 56 rfl rfl
theorem tw_297 : (Jvm.Cond.code ({ cls := "java/lang/RuntimeException", name := "<init>", desc := "(Ljava/lang/String;)V" } : Jvm.MethodName) prog_13_method_2_code (2 : Nat) (Option.none : Option Jvm.ClassFile.FieldType)) ∈ xTB := x_t2 57 rfl rfl
theorem tw_298 : (Jvm.Cond.methodLink "java/lang/RuntimeException" (7 : Nat) ({ cls := "java/lang/Exception", name := "<init>", desc := "(Ljava/lang/String;)V" } : Jvm.MethodName)) ∈ xTB := x_t2 58 rfl rfl
theorem tw_299 : (Jvm.Cond.instanceMethod ({ cls := "java/lang/Exception", name := "<init>", desc := "(Ljava/lang/String;)V" } : Jvm.MethodName)) ∈ xTB := x_t2 59 rfl rfl
theorem tw_300 : (Jvm.Cond.code ({ cls := "java/lang/Exception", name := "<init>", desc := "(Ljava/lang/String;)V" } : Jvm.MethodName) prog_9_method_2_code (2 : Nat) (Option.none : Option Jvm.ClassFile.FieldType)) ∈ xTB := x_t2 60 rfl rfl
theorem tw_301 : (Jvm.Cond.methodLink "java/lang/Exception" (7 : Nat) ({ cls := "java/lang/Throwable", name := "<init>", desc := "(Ljava/lang/String;)V" } : Jvm.MethodName)) ∈ xTB := x_t2 61 rfl rfl
theorem tw_302 : (Jvm.Cond.instanceMethod ({ cls := "java/lang/Throwable", name := "<init>", desc := "(Ljava/lang/String;)V" } : Jvm.MethodName)) ∈ xTB := x_t2 62 rfl rfl
theorem tw_303 : (Jvm.Cond.code ({ cls := "java/lang/Throwable", name := "<init>", desc := "(Ljava/lang/String;)V" } : Jvm.MethodName) prog_15_method_2_code (2 : Nat) (Option.none : Option Jvm.ClassFile.FieldType)) ∈ xTB := x_t2 63 rfl rfl
theorem tw_304 : (Jvm.Cond.fieldLink "java/lang/Throwable" (198 : Nat) "java/lang/Throwable" "backtrace" "Ljava/lang/Object;") ∈ xTB := x_t2 64 rfl rfl
theorem tw_305 : (Jvm.Cond.fieldLink "java/lang/Throwable" (31 : Nat) "java/lang/Throwable" "detailMessage" "Ljava/lang/String;") ∈ xTB := x_t2 65 rfl rfl
theorem tw_306 : (Jvm.Cond.fieldLink "java/lang/Throwable" (7 : Nat) "java/lang/Throwable" "cause" "Ljava/lang/Throwable;") ∈ xTB := x_t2 66 rfl rfl
theorem tw_307 : (Jvm.Cond.fieldLink "java/lang/Throwable" (17 : Nat) "java/lang/Throwable" "stackTrace" "[Ljava/lang/StackTraceElement;") ∈ xTB := x_t2 67 rfl rfl
theorem tw_308 : (Jvm.Cond.fieldLink "java/lang/Throwable" (24 : Nat) "java/lang/Throwable" "suppressedExceptions" "Ljava/util/List;") ∈ xTB := x_t2 68 rfl rfl
theorem tw_313 : (Jvm.Cond.lays "java/lang/IllegalArgumentException" "java/lang/Throwable" "depth" "I") ∈ xTB := x_t2 73 rfl rfl
theorem tw_317 : (Jvm.Cond.arrayClass Jvm.ClassFile.FieldType.byte) ∈ xTB := x_t2 77 rfl rfl
theorem tw_318 : (Jvm.Cond.classLink "FileBuilder" (80 : Nat) "java/lang/IllegalStateException") ∈ xTB := x_t2 78 rfl rfl
theorem tw_319 : (Jvm.Cond.instantiable "java/lang/IllegalStateException" (6 : Nat)) ∈ xTB := x_t2 79 rfl rfl
theorem tw_321 : (Jvm.Cond.selects "java/lang/IllegalStateException" ({ cls := "java/lang/Throwable", name := "fillInStackTrace", desc := "(I)Ljava/lang/Throwable;" } : Jvm.MethodName) ({ cls := "java/lang/Throwable", name := "fillInStackTrace", desc := "(I)Ljava/lang/Throwable;" } : Jvm.MethodName)) ∈ xTB := x_t2 81 rfl rfl
theorem tw_322 : (Jvm.Cond.lays "java/lang/IllegalStateException" "java/lang/Throwable" "cause" "Ljava/lang/Throwable;") ∈ xTB := x_t2 82 rfl rfl
theorem tw_323 : (Jvm.Cond.lays "java/lang/IllegalStateException" "java/lang/Throwable" "stackTrace" "[Ljava/lang/StackTraceElement;") ∈ xTB := x_t2 83 rfl rfl
theorem tw_324 : (Jvm.Cond.lays "java/lang/IllegalStateException" "java/lang/Throwable" "suppressedExceptions" "Ljava/util/List;") ∈ xTB := x_t2 84 rfl rfl
theorem tw_325 : (Jvm.Cond.lays "java/lang/IllegalStateException" "java/lang/Throwable" "detailMessage" "Ljava/lang/String;") ∈ xTB := x_t2 85 rfl rfl
theorem tw_326 : (Jvm.Cond.lays "java/lang/IllegalStateException" "java/lang/Throwable" "backtrace" "Ljava/lang/Object;") ∈ xTB := x_t2 86 rfl rfl
theorem tw_328 : (Jvm.Cond.methodLink "FileBuilder" (84 : Nat) ({ cls := "java/lang/IllegalStateException", name := "<init>", desc := "(Ljava/lang/String;)V" } : Jvm.MethodName)) ∈ xTB := x_t2 88 rfl rfl
theorem tw_329 : (Jvm.Cond.instanceMethod ({ cls := "java/lang/IllegalStateException", name := "<init>", desc := "(Ljava/lang/String;)V" } : Jvm.MethodName)) ∈ xTB := x_t2 89 rfl rfl
theorem tw_330 : (Jvm.Cond.code ({ cls := "java/lang/IllegalStateException", name := "<init>", desc := "(Ljava/lang/String;)V" } : Jvm.MethodName) prog_11_method_2_code (2 : Nat) (Option.none : Option Jvm.ClassFile.FieldType)) ∈ xTB := x_t2 90 rfl rfl
theorem tw_331 : (Jvm.Cond.methodLink "java/lang/IllegalStateException" (7 : Nat) ({ cls := "java/lang/RuntimeException", name := "<init>", desc := "(Ljava/lang/String;)V" } : Jvm.MethodName)) ∈ xTB := x_t2 91 rfl rfl
theorem tw_332 : (Jvm.Cond.lays "java/lang/IllegalStateException" "java/lang/Throwable" "depth" "I") ∈ xTB := x_t2 92 rfl rfl
theorem tw_336 : (Jvm.Cond.instanceMethod ({ cls := "FileBuilder$Graph", name := "addEdge", desc := "(III)I" } : Jvm.MethodName)) ∈ xTB := x_t2 96 rfl rfl
theorem tw_337 : (Jvm.Cond.code ({ cls := "FileBuilder$Graph", name := "addEdge", desc := "(III)I" } : Jvm.MethodName) prog_4_method_2_code (5 : Nat) (Option.some Jvm.ClassFile.FieldType.int)) ∈ xTB := x_t2 97 rfl rfl
theorem tw_338 : (Jvm.Cond.methodLink "FileBuilderLaw" (78 : Nat) ({ cls := "FileBuilderLaw", name := "link", desc := "(LFileBuilder;III)I" } : Jvm.MethodName)) ∈ xTB := x_t2 98 rfl rfl
theorem tw_339 : (Jvm.Cond.static ({ cls := "FileBuilderLaw", name := "link", desc := "(LFileBuilder;III)I" } : Jvm.MethodName)) ∈ xTB := x_t2 99 rfl rfl
theorem tw_340 : (Jvm.Cond.codeWith ({ cls := "FileBuilderLaw", name := "link", desc := "(LFileBuilder;III)I" } : Jvm.MethodName) method_4_code (5 : Nat) (Option.some Jvm.ClassFile.FieldType.int) [((0 : Nat), (7 : Nat), (10 : Nat), (13 : Nat)), ((0 : Nat), (7 : Nat), (14 : Nat), (15 : Nat))]) ∈ xTB := x_t2 100 rfl rfl
theorem tw_341 : (Jvm.Cond.methodLink "FileBuilderLaw" (17 : Nat) ({ cls := "FileBuilder", name := "link", desc := "(III)V" } : Jvm.MethodName)) ∈ xTB := x_t2 101 rfl rfl
theorem tw_342 : (Jvm.Cond.instanceMethod ({ cls := "FileBuilder", name := "link", desc := "(III)V" } : Jvm.MethodName)) ∈ xTB := x_t2 102 rfl rfl
theorem tw_343 : (Jvm.Cond.selects "FileBuilder" ({ cls := "FileBuilder", name := "link", desc := "(III)V" } : Jvm.MethodName) ({ cls := "FileBuilder", name := "link", desc := "(III)V" } : Jvm.MethodName)) ∈ xTB := x_t2 103 rfl rfl
theorem tw_344 : (Jvm.Cond.code ({ cls := "FileBuilder", name := "link", desc := "(III)V" } : Jvm.MethodName) prog_1_method_3_code (4 : Nat) (Option.none : Option Jvm.ClassFile.FieldType)) ∈ xTB := x_t2 104 rfl rfl
theorem tw_347 : (Jvm.Cond.instanceMethod ({ cls := "FileBuilder$Graph", name := "hasEdge", desc := "(I)Z" } : Jvm.MethodName)) ∈ xTB := x_t2 107 rfl rfl
theorem tw_348 : (Jvm.Cond.code ({ cls := "FileBuilder$Graph", name := "hasEdge", desc := "(I)Z" } : Jvm.MethodName) prog_4_method_3_code (2 : Nat) (Option.some Jvm.ClassFile.FieldType.boolean)) ∈ xTB := x_t2 108 rfl rfl
theorem tw_350 : (Jvm.Cond.methodLink "FileBuilder" (92 : Nat) ({ cls := "FileBuilder", name := "isFile", desc := "(I)Z" } : Jvm.MethodName)) ∈ xTB := x_t2 110 rfl rfl
theorem tw_351 : (Jvm.Cond.static ({ cls := "FileBuilder", name := "isFile", desc := "(I)Z" } : Jvm.MethodName)) ∈ xTB := x_t2 111 rfl rfl
theorem tw_352 : (Jvm.Cond.code ({ cls := "FileBuilder", name := "isFile", desc := "(I)Z" } : Jvm.MethodName) prog_1_method_20_code (1 : Nat) (Option.some Jvm.ClassFile.FieldType.boolean)) ∈ xTB := x_t2 112 rfl rfl
theorem tw_354 : (Jvm.Cond.methodLink "FileBuilder" (97 : Nat) ({ cls := "FileBuilder", name := "mayBecomeOutput", desc := "(II)Z" } : Jvm.MethodName)) ∈ xTB := x_t2 114 rfl rfl
theorem tw_356 : (Jvm.Cond.instanceMethod ({ cls := "FileBuilder", name := "mayBecomeOutput", desc := "(II)Z" } : Jvm.MethodName)) ∈ xTB := x_t2 116 rfl rfl
theorem tw_357 : (Jvm.Cond.code ({ cls := "FileBuilder", name := "mayBecomeOutput", desc := "(II)Z" } : Jvm.MethodName) prog_1_method_27_code (3 : Nat) (Option.some Jvm.ClassFile.FieldType.boolean)) ∈ xTB := x_t2 117 rfl rfl
theorem tw_360 : (Jvm.Cond.instanceMethod ({ cls := "FileBuilder$Graph", name := "made", desc := "()I" } : Jvm.MethodName)) ∈ xTB := x_t2 120 rfl rfl
theorem tw_361 : (Jvm.Cond.code ({ cls := "FileBuilder$Graph", name := "made", desc := "()I" } : Jvm.MethodName) prog_4_method_9_code (3 : Nat) (Option.some Jvm.ClassFile.FieldType.int)) ∈ xTB := x_t2 121 rfl rfl
theorem tw_362 : (Jvm.Cond.methodLink "FileBuilder" (116 : Nat) ({ cls := "FileBuilder", name := "has", desc := "(II)Z" } : Jvm.MethodName)) ∈ xTB := x_t2 122 rfl rfl
theorem tw_363 : (Jvm.Cond.static ({ cls := "FileBuilder", name := "has", desc := "(II)Z" } : Jvm.MethodName)) ∈ xTB := x_t2 123 rfl rfl
theorem tw_364 : (Jvm.Cond.code ({ cls := "FileBuilder", name := "has", desc := "(II)Z" } : Jvm.MethodName) prog_1_method_23_code (2 : Nat) (Option.some Jvm.ClassFile.FieldType.boolean)) ∈ xTB := x_t2 124 rfl rfl
theorem tw_367 : (Jvm.Cond.instanceMethod ({ cls := "FileBuilder$Graph", name := "read", desc := "()I" } : Jvm.MethodName)) ∈ xTB := x_t2 127 rfl rfl
theorem tw_368 : (Jvm.Cond.code ({ cls := "FileBuilder$Graph", name := "read", desc := "()I" } : Jvm.MethodName) prog_4_method_11_code (3 : Nat) (Option.some Jvm.ClassFile.FieldType.int)) ∈ xTB := x_t2 128 rfl rfl
theorem tw_373 : (Jvm.Cond.instanceMethod ({ cls := "FileBuilder$Graph", name := "join", desc := "(III)V" } : Jvm.MethodName)) ∈ xTB := x_t2 133 rfl rfl
theorem tw_374 : (Jvm.Cond.code ({ cls := "FileBuilder$Graph", name := "join", desc := "(III)V" } : Jvm.MethodName) prog_4_method_6_code (5 : Nat) (Option.none : Option Jvm.ClassFile.FieldType)) ∈ xTB := x_t2 134 rfl rfl
theorem tw_375 : (Jvm.Cond.methodLink "FileBuilderLaw" (82 : Nat) ({ cls := "FileBuilderLaw", name := "reads", desc := "(LFileBuilder;IIZ)I" } : Jvm.MethodName)) ∈ xTB := x_t2 135 rfl rfl
theorem tw_376 : (Jvm.Cond.static ({ cls := "FileBuilderLaw", name := "reads", desc := "(LFileBuilder;IIZ)I" } : Jvm.MethodName)) ∈ xTB := x_t2 136 rfl rfl
theorem tw_377 : (Jvm.Cond.codeWith ({ cls := "FileBuilderLaw", name := "reads", desc := "(LFileBuilder;IIZ)I" } : Jvm.MethodName) method_5_code (5 : Nat) (Option.some Jvm.ClassFile.FieldType.int) [((0 : Nat), (7 : Nat), (10 : Nat), (13 : Nat)), ((0 : Nat), (7 : Nat), (14 : Nat), (15 : Nat))]) ∈ xTB := x_t2 137 rfl rfl
theorem tw_378 : (Jvm.Cond.methodLink "FileBuilderLaw" (21 : Nat) ({ cls := "FileBuilder", name := "reads", desc := "(IIZ)V" } : Jvm.MethodName)) ∈ xTB := x_t2 138 rfl rfl
theorem tw_379 : (Jvm.Cond.instanceMethod ({ cls := "FileBuilder", name := "reads", desc := "(IIZ)V" } : Jvm.MethodName)) ∈ xTB := x_t2 139 rfl rfl
theorem tw_380 : (Jvm.Cond.selects "FileBuilder" ({ cls := "FileBuilder", name := "reads", desc := "(IIZ)V" } : Jvm.MethodName) ({ cls := "FileBuilder", name := "reads", desc := "(IIZ)V" } : Jvm.MethodName)) ∈ xTB := x_t2 140 rfl rfl
theorem tw_381 : (Jvm.Cond.code ({ cls := "FileBuilder", name := "reads", desc := "(IIZ)V" } : Jvm.MethodName) prog_1_method_4_code (4 : Nat) (Option.none : Option Jvm.ClassFile.FieldType)) ∈ xTB := x_t2 141 rfl rfl
theorem tw_384 : (Jvm.Cond.methodLink "FileBuilderLaw" (86 : Nat) ({ cls := "FileBuilderLaw", name := "command", desc := "(LFileBuilder;II)I" } : Jvm.MethodName)) ∈ xTB := x_t2 144 rfl rfl
theorem tw_385 : (Jvm.Cond.static ({ cls := "FileBuilderLaw", name := "command", desc := "(LFileBuilder;II)I" } : Jvm.MethodName)) ∈ xTB := x_t2 145 rfl rfl
theorem tw_386 : (Jvm.Cond.codeWith ({ cls := "FileBuilderLaw", name := "command", desc := "(LFileBuilder;II)I" } : Jvm.MethodName) method_6_code (4 : Nat) (Option.some Jvm.ClassFile.FieldType.int) [((0 : Nat), (6 : Nat), (9 : Nat), (13 : Nat)), ((0 : Nat), (6 : Nat), (12 : Nat), (15 : Nat))]) ∈ xTB := x_t2 146 rfl rfl
theorem tw_387 : (Jvm.Cond.methodLink "FileBuilderLaw" (25 : Nat) ({ cls := "FileBuilder", name := "command", desc := "(II)V" } : Jvm.MethodName)) ∈ xTB := x_t2 147 rfl rfl
theorem tw_388 : (Jvm.Cond.instanceMethod ({ cls := "FileBuilder", name := "command", desc := "(II)V" } : Jvm.MethodName)) ∈ xTB := x_t2 148 rfl rfl
theorem tw_389 : (Jvm.Cond.selects "FileBuilder" ({ cls := "FileBuilder", name := "command", desc := "(II)V" } : Jvm.MethodName) ({ cls := "FileBuilder", name := "command", desc := "(II)V" } : Jvm.MethodName)) ∈ xTB := x_t2 149 rfl rfl
theorem tw_390 : (Jvm.Cond.code ({ cls := "FileBuilder", name := "command", desc := "(II)V" } : Jvm.MethodName) prog_1_method_5_code (3 : Nat) (Option.none : Option Jvm.ClassFile.FieldType)) ∈ xTB := x_t2 150 rfl rfl
theorem tw_392 : (Jvm.Cond.methodLink "FileBuilder" (130 : Nat) ({ cls := "FileBuilder", name := "refuseUnderWay", desc := "()V" } : Jvm.MethodName)) ∈ xTB := x_t2 152 rfl rfl
theorem tw_394 : (Jvm.Cond.instanceMethod ({ cls := "FileBuilder", name := "refuseUnderWay", desc := "()V" } : Jvm.MethodName)) ∈ xTB := x_t2 154 rfl rfl
theorem tw_395 : (Jvm.Cond.code ({ cls := "FileBuilder", name := "refuseUnderWay", desc := "()V" } : Jvm.MethodName) prog_1_method_25_code (1 : Nat) (Option.none : Option Jvm.ClassFile.FieldType)) ∈ xTB := x_t2 155 rfl rfl
theorem tw_397 : (Jvm.Cond.methodLink "FileBuilderLaw" (90 : Nat) ({ cls := "FileBuilderLaw", name := "pool", desc := "(LFileBuilder;II)I" } : Jvm.MethodName)) ∈ xTB := x_t2 157 rfl rfl
theorem tw_398 : (Jvm.Cond.static ({ cls := "FileBuilderLaw", name := "pool", desc := "(LFileBuilder;II)I" } : Jvm.MethodName)) ∈ xTB := x_t2 158 rfl rfl
theorem tw_399 : (Jvm.Cond.codeWith ({ cls := "FileBuilderLaw", name := "pool", desc := "(LFileBuilder;II)I" } : Jvm.MethodName) method_7_code (4 : Nat) (Option.some Jvm.ClassFile.FieldType.int) [((0 : Nat), (6 : Nat), (9 : Nat), (13 : Nat)), ((0 : Nat), (6 : Nat), (12 : Nat), (15 : Nat))]) ∈ xTB := x_t2 159 rfl rfl
theorem tw_400 : (Jvm.Cond.methodLink "FileBuilderLaw" (29 : Nat) ({ cls := "FileBuilder", name := "pool", desc := "(II)V" } : Jvm.MethodName)) ∈ xTB := x_t2 160 rfl rfl
theorem tw_401 : (Jvm.Cond.instanceMethod ({ cls := "FileBuilder", name := "pool", desc := "(II)V" } : Jvm.MethodName)) ∈ xTB := x_t2 161 rfl rfl
theorem tw_402 : (Jvm.Cond.selects "FileBuilder" ({ cls := "FileBuilder", name := "pool", desc := "(II)V" } : Jvm.MethodName) ({ cls := "FileBuilder", name := "pool", desc := "(II)V" } : Jvm.MethodName)) ∈ xTB := x_t2 162 rfl rfl
theorem tw_403 : (Jvm.Cond.code ({ cls := "FileBuilder", name := "pool", desc := "(II)V" } : Jvm.MethodName) prog_1_method_6_code (3 : Nat) (Option.none : Option Jvm.ClassFile.FieldType)) ∈ xTB := x_t2 163 rfl rfl
theorem tw_405 : (Jvm.Cond.methodLink "FileBuilderLaw" (93 : Nat) ({ cls := "FileBuilderLaw", name := "write", desc := "(LFileBuilder;II)I" } : Jvm.MethodName)) ∈ xTB := x_t2 165 rfl rfl
theorem tw_406 : (Jvm.Cond.static ({ cls := "FileBuilderLaw", name := "write", desc := "(LFileBuilder;II)I" } : Jvm.MethodName)) ∈ xTB := x_t2 166 rfl rfl
theorem tw_407 : (Jvm.Cond.codeWith ({ cls := "FileBuilderLaw", name := "write", desc := "(LFileBuilder;II)I" } : Jvm.MethodName) method_8_code (4 : Nat) (Option.some Jvm.ClassFile.FieldType.int) [((0 : Nat), (6 : Nat), (9 : Nat), (13 : Nat)), ((0 : Nat), (6 : Nat), (12 : Nat), (15 : Nat))]) ∈ xTB := x_t2 167 rfl rfl
theorem tw_408 : (Jvm.Cond.methodLink "FileBuilderLaw" (32 : Nat) ({ cls := "FileBuilder", name := "write", desc := "(II)V" } : Jvm.MethodName)) ∈ xTB := x_t2 168 rfl rfl
theorem tw_409 : (Jvm.Cond.instanceMethod ({ cls := "FileBuilder", name := "write", desc := "(II)V" } : Jvm.MethodName)) ∈ xTB := x_t2 169 rfl rfl
theorem tw_410 : (Jvm.Cond.selects "FileBuilder" ({ cls := "FileBuilder", name := "write", desc := "(II)V" } : Jvm.MethodName) ({ cls := "FileBuilder", name := "write", desc := "(II)V" } : Jvm.MethodName)) ∈ xTB := x_t2 170 rfl rfl
theorem tw_411 : (Jvm.Cond.code ({ cls := "FileBuilder", name := "write", desc := "(II)V" } : Jvm.MethodName) prog_1_method_7_code (3 : Nat) (Option.none : Option Jvm.ClassFile.FieldType)) ∈ xTB := x_t2 171 rfl rfl
theorem tw_414 : (Jvm.Cond.instanceMethod ({ cls := "FileBuilder$Graph", name := "madeByPhonies", desc := "()I" } : Jvm.MethodName)) ∈ xTB := x_t2 174 rfl rfl
theorem tw_415 : (Jvm.Cond.code ({ cls := "FileBuilder$Graph", name := "madeByPhonies", desc := "()I" } : Jvm.MethodName) prog_4_method_10_code (3 : Nat) (Option.some Jvm.ClassFile.FieldType.int)) ∈ xTB := x_t2 175 rfl rfl
theorem tw_419 : (Jvm.Cond.instanceMethod ({ cls := "FileBuilder$Disk", name := "put", desc := "(II)V" } : Jvm.MethodName)) ∈ xTB := x_t2 179 rfl rfl
theorem tw_420 : (Jvm.Cond.code ({ cls := "FileBuilder$Disk", name := "put", desc := "(II)V" } : Jvm.MethodName) prog_3_method_2_code (3 : Nat) (Option.none : Option Jvm.ClassFile.FieldType)) ∈ xTB := x_t2 180 rfl rfl
theorem tw_421 : (Jvm.Cond.methodLink "FileBuilderLaw" (96 : Nat) ({ cls := "FileBuilderLaw", name := "remove", desc := "(LFileBuilder;I)I" } : Jvm.MethodName)) ∈ xTB := x_t2 181 rfl rfl
theorem tw_422 : (Jvm.Cond.static ({ cls := "FileBuilderLaw", name := "remove", desc := "(LFileBuilder;I)I" } : Jvm.MethodName)) ∈ xTB := x_t2 182 rfl rfl
theorem tw_423 : (Jvm.Cond.codeWith ({ cls := "FileBuilderLaw", name := "remove", desc := "(LFileBuilder;I)I" } : Jvm.MethodName) method_9_code (3 : Nat) (Option.some Jvm.ClassFile.FieldType.int) [((0 : Nat), (5 : Nat), (8 : Nat), (13 : Nat)), ((0 : Nat), (5 : Nat), (11 : Nat), (39 : Nat)), ((0 : Nat), (5 : Nat), (14 : Nat), (15 : Nat))]) ∈ xTB := x_t2 183 rfl rfl
theorem tw_424 : (Jvm.Cond.classLink "FileBuilderLaw" (39 : Nat) "java/util/NoSuchElementException") ∈ xTB := x_t2 184 rfl rfl
theorem tw_425 : (Jvm.Cond.methodLink "FileBuilderLaw" (35 : Nat) ({ cls := "FileBuilder", name := "remove", desc := "(I)V" } : Jvm.MethodName)) ∈ xTB := x_t2 185 rfl rfl
theorem tw_426 : (Jvm.Cond.instanceMethod ({ cls := "FileBuilder", name := "remove", desc := "(I)V" } : Jvm.MethodName)) ∈ xTB := x_t2 186 rfl rfl
theorem tw_427 : (Jvm.Cond.selects "FileBuilder" ({ cls := "FileBuilder", name := "remove", desc := "(I)V" } : Jvm.MethodName) ({ cls := "FileBuilder", name := "remove", desc := "(I)V" } : Jvm.MethodName)) ∈ xTB := x_t2 187 rfl rfl
theorem tw_428 : (Jvm.Cond.code ({ cls := "FileBuilder", name := "remove", desc := "(I)V" } : Jvm.MethodName) prog_1_method_8_code (2 : Nat) (Option.none : Option Jvm.ClassFile.FieldType)) ∈ xTB := x_t2 188 rfl rfl
theorem tw_430 : (Jvm.Cond.classLink "FileBuilder" (149 : Nat) "java/util/NoSuchElementException") ∈ xTB := x_t2 190 rfl rfl
theorem tw_431 : (Jvm.Cond.instantiable "java/util/NoSuchElementException" (6 : Nat)) ∈ xTB := x_t2 191 rfl rfl
theorem tw_433 : (Jvm.Cond.selects "java/util/NoSuchElementException" ({ cls := "java/lang/Throwable", name := "fillInStackTrace", desc := "(I)Ljava/lang/Throwable;" } : Jvm.MethodName) ({ cls := "java/lang/Throwable", name := "fillInStackTrace", desc := "(I)Ljava/lang/Throwable;" } : Jvm.MethodName)) ∈ xTB := x_t2 193 rfl rfl
theorem tw_434 : (Jvm.Cond.lays "java/util/NoSuchElementException" "java/lang/Throwable" "cause" "Ljava/lang/Throwable;") ∈ xTB := x_t2 194 rfl rfl
theorem tw_435 : (Jvm.Cond.lays "java/util/NoSuchElementException" "java/lang/Throwable" "stackTrace" "[Ljava/lang/StackTraceElement;") ∈ xTB := x_t2 195 rfl rfl
theorem tw_436 : (Jvm.Cond.lays "java/util/NoSuchElementException" "java/lang/Throwable" "suppressedExceptions" "Ljava/util/List;") ∈ xTB := x_t2 196 rfl rfl
theorem tw_437 : (Jvm.Cond.lays "java/util/NoSuchElementException" "java/lang/Throwable" "detailMessage" "Ljava/lang/String;") ∈ xTB := x_t2 197 rfl rfl
theorem tw_438 : (Jvm.Cond.lays "java/util/NoSuchElementException" "java/lang/Throwable" "backtrace" "Ljava/lang/Object;") ∈ xTB := x_t2 198 rfl rfl
theorem tw_440 : (Jvm.Cond.methodLink "FileBuilder" (153 : Nat) ({ cls := "java/util/NoSuchElementException", name := "<init>", desc := "(Ljava/lang/String;)V" } : Jvm.MethodName)) ∈ xTB := x_t2 200 rfl rfl
theorem tw_441 : (Jvm.Cond.instanceMethod ({ cls := "java/util/NoSuchElementException", name := "<init>", desc := "(Ljava/lang/String;)V" } : Jvm.MethodName)) ∈ xTB := x_t2 201 rfl rfl
theorem tw_442 : (Jvm.Cond.code ({ cls := "java/util/NoSuchElementException", name := "<init>", desc := "(Ljava/lang/String;)V" } : Jvm.MethodName) prog_18_method_4_code (2 : Nat) (Option.none : Option Jvm.ClassFile.FieldType)) ∈ xTB := x_t2 202 rfl rfl
theorem tw_443 : (Jvm.Cond.methodLink "java/util/NoSuchElementException" (13 : Nat) ({ cls := "java/lang/RuntimeException", name := "<init>", desc := "(Ljava/lang/String;)V" } : Jvm.MethodName)) ∈ xTB := x_t2 203 rfl rfl
theorem tw_444 : (Jvm.Cond.lays "java/util/NoSuchElementException" "java/lang/Throwable" "depth" "I") ∈ xTB := x_t2 204 rfl rfl
theorem tw_448 : (Jvm.Cond.instanceMethod ({ cls := "FileBuilder$Disk", name := "erase", desc := "(I)V" } : Jvm.MethodName)) ∈ xTB := x_t2 208 rfl rfl
theorem tw_449 : (Jvm.Cond.code ({ cls := "FileBuilder$Disk", name := "erase", desc := "(I)V" } : Jvm.MethodName) prog_3_method_3_code (2 : Nat) (Option.none : Option Jvm.ClassFile.FieldType)) ∈ xTB := x_t2 209 rfl rfl
theorem tw_450 : (Jvm.Cond.methodLink "FileBuilderLaw" (100 : Nat) ({ cls := "FileBuilderLaw", name := "begin", desc := "(LFileBuilder;III[J)I" } : Jvm.MethodName)) ∈ xTB := x_t2 210 rfl rfl
theorem tw_451 : (Jvm.Cond.static ({ cls := "FileBuilderLaw", name := "begin", desc := "(LFileBuilder;III[J)I" } : Jvm.MethodName)) ∈ xTB := x_t2 211 rfl rfl
theorem tw_452 : (Jvm.Cond.codeWith ({ cls := "FileBuilderLaw", name := "begin", desc := "(LFileBuilder;III[J)I" } : Jvm.MethodName) method_10_code (6 : Nat) (Option.some Jvm.ClassFile.FieldType.int) [((0 : Nat), (12 : Nat), (15 : Nat), (13 : Nat)), ((0 : Nat), (12 : Nat), (19 : Nat), (15 : Nat)), ((0 : Nat), (12 : Nat), (23 : Nat), (44 : Nat)), ((0 : Nat), (12 : Nat), (27 : Nat), (39 : Nat))]) ∈ xTB := x_t2 212 rfl rfl
theorem tw_453 : (Jvm.Cond.classLink "FileBuilderLaw" (44 : Nat) "java/lang/UnsupportedOperationException") ∈ xTB := x_t2 213 rfl rfl
theorem tw_454 : (Jvm.Cond.methodLink "FileBuilderLaw" (41 : Nat) ({ cls := "FileBuilder", name := "begin", desc := "(III)I" } : Jvm.MethodName)) ∈ xTB := x_t2 214 rfl rfl
theorem tw_455 : (Jvm.Cond.instanceMethod ({ cls := "FileBuilder", name := "begin", desc := "(III)I" } : Jvm.MethodName)) ∈ xTB := x_t2 215 rfl rfl
theorem tw_456 : (Jvm.Cond.selects "FileBuilder" ({ cls := "FileBuilder", name := "begin", desc := "(III)I" } : Jvm.MethodName) ({ cls := "FileBuilder", name := "begin", desc := "(III)I" } : Jvm.MethodName)) ∈ xTB := x_t2 216 rfl rfl
theorem tw_457 : (Jvm.Cond.code ({ cls := "FileBuilder", name := "begin", desc := "(III)I" } : Jvm.MethodName) prog_1_method_9_code (5 : Nat) (Option.some Jvm.ClassFile.FieldType.int)) ∈ xTB := x_t2 217 rfl rfl
theorem tw_458 : (Jvm.Cond.constant "FileBuilder" (158 : Nat) (-16777216 : Int32)) ∈ xTB := x_t2 218 rfl rfl
theorem tw_462 : (Jvm.Cond.instanceMethod ({ cls := "FileBuilder$Graph", name := "reachedFrom", desc := "(I)I" } : Jvm.MethodName)) ∈ xTB := x_t2 222 rfl rfl
theorem tw_463 : (Jvm.Cond.code ({ cls := "FileBuilder$Graph", name := "reachedFrom", desc := "(I)I" } : Jvm.MethodName) prog_4_method_15_code (4 : Nat) (Option.some Jvm.ClassFile.FieldType.int)) ∈ xTB := x_t2 223 rfl rfl
theorem tw_464 : (Jvm.Cond.methodLink "FileBuilder$Graph" (55 : Nat) ({ cls := "FileBuilder$Graph", name := "makersOf", desc := "(I)I" } : Jvm.MethodName)) ∈ xTB := x_t2 224 rfl rfl
theorem tw_466 : (Jvm.Cond.instanceMethod ({ cls := "FileBuilder$Graph", name := "makersOf", desc := "(I)I" } : Jvm.MethodName)) ∈ xTB := x_t2 226 rfl rfl
theorem tw_467 : (Jvm.Cond.code ({ cls := "FileBuilder$Graph", name := "makersOf", desc := "(I)I" } : Jvm.MethodName) prog_4_method_13_code (4 : Nat) (Option.some Jvm.ClassFile.FieldType.int)) ∈ xTB := x_t2 227 rfl rfl
theorem tw_468 : (Jvm.Cond.methodLink "FileBuilder$Graph" (58 : Nat) ({ cls := "FileBuilder$Graph", name := "waitedForBy", desc := "(I)I" } : Jvm.MethodName)) ∈ xTB := x_t2 228 rfl rfl
theorem tw_470 : (Jvm.Cond.instanceMethod ({ cls := "FileBuilder$Graph", name := "waitedForBy", desc := "(I)I" } : Jvm.MethodName)) ∈ xTB := x_t2 230 rfl rfl
theorem tw_471 : (Jvm.Cond.code ({ cls := "FileBuilder$Graph", name := "waitedForBy", desc := "(I)I" } : Jvm.MethodName) prog_4_method_14_code (4 : Nat) (Option.some Jvm.ClassFile.FieldType.int)) ∈ xTB := x_t2 231 rfl rfl
theorem tw_475 : (Jvm.Cond.instanceMethod ({ cls := "FileBuilder$Graph", name := "hasCycle", desc := "(I)Z" } : Jvm.MethodName)) ∈ xTB := x_t2 235 rfl rfl
theorem tw_476 : (Jvm.Cond.code ({ cls := "FileBuilder$Graph", name := "hasCycle", desc := "(I)Z" } : Jvm.MethodName) prog_4_method_17_code (5 : Nat) (Option.some Jvm.ClassFile.FieldType.boolean)) ∈ xTB := x_t2 236 rfl rfl
theorem tw_477 : (Jvm.Cond.methodLink "FileBuilder$Graph" (61 : Nat) ({ cls := "FileBuilder$Graph", name := "nextToLookAt", desc := "(II)I" } : Jvm.MethodName)) ∈ xTB := x_t2 237 rfl rfl
theorem tw_479 : (Jvm.Cond.instanceMethod ({ cls := "FileBuilder$Graph", name := "nextToLookAt", desc := "(II)I" } : Jvm.MethodName)) ∈ xTB := x_t2 239 rfl rfl
theorem tw_480 : (Jvm.Cond.code ({ cls := "FileBuilder$Graph", name := "nextToLookAt", desc := "(II)I" } : Jvm.MethodName) prog_4_method_16_code (4 : Nat) (Option.some Jvm.ClassFile.FieldType.int)) ∈ xTB := x_t3 0 rfl rfl
theorem tw_481 : (Jvm.Cond.classLink "FileBuilder" (168 : Nat) "java/lang/UnsupportedOperationException") ∈ xTB := x_t3 1 rfl rfl
theorem tw_482 : (Jvm.Cond.instantiable "java/lang/UnsupportedOperationException" (6 : Nat)) ∈ xTB := x_t3 2 rfl rfl
theorem tw_484 : (Jvm.Cond.selects "java/lang/UnsupportedOperationException" ({ cls := "java/lang/Throwable", name := "fillInStackTrace", desc := "(I)Ljava/lang/Throwable;" } : Jvm.MethodName) ({ cls := "java/lang/Throwable", name := "fillInStackTrace", desc := "(I)Ljava/lang/Throwable;" } : Jvm.MethodName)) ∈ xTB := x_t3 4 rfl rfl
theorem tw_485 : (Jvm.Cond.lays "java/lang/UnsupportedOperationException" "java/lang/Throwable" "cause" "Ljava/lang/Throwable;") ∈ xTB := x_t3 5 rfl rfl
theorem tw_486 : (Jvm.Cond.lays "java/lang/UnsupportedOperationException" "java/lang/Throwable" "stackTrace" "[Ljava/lang/StackTraceElement;") ∈ xTB := x_t3 6 rfl rfl
theorem tw_487 : (Jvm.Cond.lays "java/lang/UnsupportedOperationException" "java/lang/Throwable" "suppressedExceptions" "Ljava/util/List;") ∈ xTB := x_t3 7 rfl rfl
theorem tw_488 : (Jvm.Cond.lays "java/lang/UnsupportedOperationException" "java/lang/Throwable" "detailMessage" "Ljava/lang/String;") ∈ xTB := x_t3 8 rfl rfl
theorem tw_489 : (Jvm.Cond.lays "java/lang/UnsupportedOperationException" "java/lang/Throwable" "backtrace" "Ljava/lang/Object;") ∈ xTB := x_t3 9 rfl rfl
theorem tw_491 : (Jvm.Cond.methodLink "FileBuilder" (172 : Nat) ({ cls := "java/lang/UnsupportedOperationException", name := "<init>", desc := "(Ljava/lang/String;)V" } : Jvm.MethodName)) ∈ xTB := x_t3 11 rfl rfl
theorem tw_492 : (Jvm.Cond.instanceMethod ({ cls := "java/lang/UnsupportedOperationException", name := "<init>", desc := "(Ljava/lang/String;)V" } : Jvm.MethodName)) ∈ xTB := x_t3 12 rfl rfl
theorem tw_493 : (Jvm.Cond.code ({ cls := "java/lang/UnsupportedOperationException", name := "<init>", desc := "(Ljava/lang/String;)V" } : Jvm.MethodName) prog_16_method_2_code (2 : Nat) (Option.none : Option Jvm.ClassFile.FieldType)) ∈ xTB := x_t3 13 rfl rfl
theorem tw_494 : (Jvm.Cond.methodLink "java/lang/UnsupportedOperationException" (7 : Nat) ({ cls := "java/lang/RuntimeException", name := "<init>", desc := "(Ljava/lang/String;)V" } : Jvm.MethodName)) ∈ xTB := x_t3 14 rfl rfl
theorem tw_495 : (Jvm.Cond.lays "java/lang/UnsupportedOperationException" "java/lang/Throwable" "depth" "I") ∈ xTB := x_t3 15 rfl rfl
theorem tw_498 : (Jvm.Cond.methodLink "FileBuilder" (176 : Nat) ({ cls := "FileBuilder", name := "isMissing", desc := "(I)Z" } : Jvm.MethodName)) ∈ xTB := x_t3 18 rfl rfl
theorem tw_500 : (Jvm.Cond.instanceMethod ({ cls := "FileBuilder", name := "isMissing", desc := "(I)Z" } : Jvm.MethodName)) ∈ xTB := x_t3 20 rfl rfl
theorem tw_501 : (Jvm.Cond.code ({ cls := "FileBuilder", name := "isMissing", desc := "(I)Z" } : Jvm.MethodName) prog_1_method_28_code (2 : Nat) (Option.some Jvm.ClassFile.FieldType.boolean)) ∈ xTB := x_t3 21 rfl rfl
theorem tw_505 : (Jvm.Cond.instanceMethod ({ cls := "FileBuilder$Build", name := "renew", desc := "(II)V" } : Jvm.MethodName)) ∈ xTB := x_t3 25 rfl rfl
theorem tw_506 : (Jvm.Cond.code ({ cls := "FileBuilder$Build", name := "renew", desc := "(II)V" } : Jvm.MethodName) prog_2_method_5_code (3 : Nat) (Option.none : Option Jvm.ClassFile.FieldType)) ∈ xTB := x_t3 26 rfl rfl
theorem tw_507 : (Jvm.Cond.methodLink "FileBuilder$Build" (19 : Nat) ({ cls := "java/util/Arrays", name := "fill", desc := "([II)V" } : Jvm.MethodName)) ∈ xTB := x_t3 27 rfl rfl
theorem tw_508 : (Jvm.Cond.methodLink "FileBuilder" (184 : Nat) ({ cls := "FileBuilder", name := "findWhatIsToRun", desc := "(I)V" } : Jvm.MethodName)) ∈ xTB := x_t3 28 rfl rfl
theorem tw_510 : (Jvm.Cond.instanceMethod ({ cls := "FileBuilder", name := "findWhatIsToRun", desc := "(I)V" } : Jvm.MethodName)) ∈ xTB := x_t3 30 rfl rfl
theorem tw_511 : (Jvm.Cond.code ({ cls := "FileBuilder", name := "findWhatIsToRun", desc := "(I)V" } : Jvm.MethodName) prog_1_method_29_code (5 : Nat) (Option.none : Option Jvm.ClassFile.FieldType)) ∈ xTB := x_t3 31 rfl rfl
theorem tw_513 : (Jvm.Cond.methodLink "FileBuilder" (256 : Nat) ({ cls := "FileBuilder", name := "isOutOfDate", desc := "(I)Z" } : Jvm.MethodName)) ∈ xTB := x_t3 33 rfl rfl
theorem tw_515 : (Jvm.Cond.instanceMethod ({ cls := "FileBuilder", name := "isOutOfDate", desc := "(I)Z" } : Jvm.MethodName)) ∈ xTB := x_t3 35 rfl rfl
theorem tw_516 : (Jvm.Cond.code ({ cls := "FileBuilder", name := "isOutOfDate", desc := "(I)Z" } : Jvm.MethodName) prog_1_method_30_code (2 : Nat) (Option.some Jvm.ClassFile.FieldType.boolean)) ∈ xTB := x_t3 36 rfl rfl
theorem tw_518 : (Jvm.Cond.methodLink "FileBuilder" (280 : Nat) ({ cls := "FileBuilder", name := "isUnknownToLog", desc := "(I)Z" } : Jvm.MethodName)) ∈ xTB := x_t3 38 rfl rfl
theorem tw_520 : (Jvm.Cond.instanceMethod ({ cls := "FileBuilder", name := "isUnknownToLog", desc := "(I)Z" } : Jvm.MethodName)) ∈ xTB := x_t3 40 rfl rfl
theorem tw_521 : (Jvm.Cond.code ({ cls := "FileBuilder", name := "isUnknownToLog", desc := "(I)Z" } : Jvm.MethodName) prog_1_method_31_code (3 : Nat) (Option.some Jvm.ClassFile.FieldType.boolean)) ∈ xTB := x_t3 41 rfl rfl
theorem tw_522 : (Jvm.Cond.methodLink "FileBuilder" (283 : Nat) ({ cls := "FileBuilder", name := "newest", desc := "(I)I" } : Jvm.MethodName)) ∈ xTB := x_t3 42 rfl rfl
theorem tw_524 : (Jvm.Cond.instanceMethod ({ cls := "FileBuilder", name := "newest", desc := "(I)I" } : Jvm.MethodName)) ∈ xTB := x_t3 44 rfl rfl
theorem tw_525 : (Jvm.Cond.code ({ cls := "FileBuilder", name := "newest", desc := "(I)I" } : Jvm.MethodName) prog_1_method_33_code (2 : Nat) (Option.some Jvm.ClassFile.FieldType.int)) ∈ xTB := x_t3 45 rfl rfl
theorem tw_528 : (Jvm.Cond.instanceMethod ({ cls := "FileBuilder$Disk", name := "greatestTime", desc := "(I)I" } : Jvm.MethodName)) ∈ xTB := x_t3 48 rfl rfl
theorem tw_529 : (Jvm.Cond.code ({ cls := "FileBuilder$Disk", name := "greatestTime", desc := "(I)I" } : Jvm.MethodName) prog_3_method_4_code (4 : Nat) (Option.some Jvm.ClassFile.FieldType.int)) ∈ xTB := x_t3 49 rfl rfl
theorem tw_531 : (Jvm.Cond.methodLink "FileBuilder$Disk" (29 : Nat) ({ cls := "java/lang/Math", name := "max", desc := "(II)I" } : Jvm.MethodName)) ∈ xTB := x_t3 51 rfl rfl
theorem tw_532 : (Jvm.Cond.static ({ cls := "java/lang/Math", name := "max", desc := "(II)I" } : Jvm.MethodName)) ∈ xTB := x_t3 52 rfl rfl
theorem tw_533 : (Jvm.Cond.code ({ cls := "java/lang/Math", name := "max", desc := "(II)I" } : Jvm.MethodName) prog_12_method_65_code (2 : Nat) (Option.some Jvm.ClassFile.FieldType.int)) ∈ xTB := x_t3 53 rfl rfl
theorem tw_534 : (Jvm.Cond.methodLink "FileBuilder" (286 : Nat) ({ cls := "FileBuilder", name := "isOlderThan", desc := "(II)Z" } : Jvm.MethodName)) ∈ xTB := x_t3 54 rfl rfl
theorem tw_536 : (Jvm.Cond.instanceMethod ({ cls := "FileBuilder", name := "isOlderThan", desc := "(II)Z" } : Jvm.MethodName)) ∈ xTB := x_t3 56 rfl rfl
theorem tw_537 : (Jvm.Cond.code ({ cls := "FileBuilder", name := "isOlderThan", desc := "(II)Z" } : Jvm.MethodName) prog_1_method_32_code (4 : Nat) (Option.some Jvm.ClassFile.FieldType.boolean)) ∈ xTB := x_t3 57 rfl rfl
theorem tw_540 : (Jvm.Cond.instanceMethod ({ cls := "FileBuilder$RecordLog", name := "reaches", desc := "(II)Z" } : Jvm.MethodName)) ∈ xTB := x_t3 60 rfl rfl
theorem tw_541 : (Jvm.Cond.code ({ cls := "FileBuilder$RecordLog", name := "reaches", desc := "(II)Z" } : Jvm.MethodName) prog_6_method_4_code (3 : Nat) (Option.some Jvm.ClassFile.FieldType.boolean)) ∈ xTB := x_t3 61 rfl rfl
theorem tw_542 : (Jvm.Cond.methodLink "FileBuilder$RecordLog" (35 : Nat) ({ cls := "FileBuilder$RecordLog", name := "hasRecord", desc := "(I)Z" } : Jvm.MethodName)) ∈ xTB := x_t3 62 rfl rfl
theorem tw_544 : (Jvm.Cond.instanceMethod ({ cls := "FileBuilder$RecordLog", name := "hasRecord", desc := "(I)Z" } : Jvm.MethodName)) ∈ xTB := x_t3 64 rfl rfl
theorem tw_545 : (Jvm.Cond.code ({ cls := "FileBuilder$RecordLog", name := "hasRecord", desc := "(I)Z" } : Jvm.MethodName) prog_6_method_3_code (2 : Nat) (Option.some Jvm.ClassFile.FieldType.boolean)) ∈ xTB := x_t3 65 rfl rfl
theorem tw_546 : (Jvm.Cond.methodLink "FileBuilder" (187 : Nat) ({ cls := "FileBuilder", name := "settle", desc := "()V" } : Jvm.MethodName)) ∈ xTB := x_t3 66 rfl rfl
theorem tw_548 : (Jvm.Cond.instanceMethod ({ cls := "FileBuilder", name := "settle", desc := "()V" } : Jvm.MethodName)) ∈ xTB := x_t3 68 rfl rfl
theorem tw_549 : (Jvm.Cond.code ({ cls := "FileBuilder", name := "settle", desc := "()V" } : Jvm.MethodName) prog_1_method_37_code (1 : Nat) (Option.none : Option Jvm.ClassFile.FieldType)) ∈ xTB := x_t3 69 rfl rfl
theorem tw_550 : (Jvm.Cond.methodLink "FileBuilderLaw" (107 : Nat) ({ cls := "FileBuilderLaw", name := "finish", desc := "(LFileBuilder;IZ[J)I" } : Jvm.MethodName)) ∈ xTB := x_t3 70 rfl rfl
theorem tw_551 : (Jvm.Cond.static ({ cls := "FileBuilderLaw", name := "finish", desc := "(LFileBuilder;IZ[J)I" } : Jvm.MethodName)) ∈ xTB := x_t3 71 rfl rfl
theorem tw_552 : (Jvm.Cond.codeWith ({ cls := "FileBuilderLaw", name := "finish", desc := "(LFileBuilder;IZ[J)I" } : Jvm.MethodName) method_11_code (5 : Nat) (Option.some Jvm.ClassFile.FieldType.int) [((0 : Nat), (10 : Nat), (13 : Nat), (39 : Nat))]) ∈ xTB := x_t3 72 rfl rfl
theorem tw_553 : (Jvm.Cond.methodLink "FileBuilderLaw" (46 : Nat) ({ cls := "FileBuilder", name := "finish", desc := "(IZ)I" } : Jvm.MethodName)) ∈ xTB := x_t3 73 rfl rfl
theorem tw_554 : (Jvm.Cond.instanceMethod ({ cls := "FileBuilder", name := "finish", desc := "(IZ)I" } : Jvm.MethodName)) ∈ xTB := x_t3 74 rfl rfl
theorem tw_555 : (Jvm.Cond.selects "FileBuilder" ({ cls := "FileBuilder", name := "finish", desc := "(IZ)I" } : Jvm.MethodName) ({ cls := "FileBuilder", name := "finish", desc := "(IZ)I" } : Jvm.MethodName)) ∈ xTB := x_t3 75 rfl rfl
theorem tw_556 : (Jvm.Cond.code ({ cls := "FileBuilder", name := "finish", desc := "(IZ)I" } : Jvm.MethodName) prog_1_method_11_code (4 : Nat) (Option.some Jvm.ClassFile.FieldType.int)) ∈ xTB := x_t3 76 rfl rfl
theorem tw_558 : (Jvm.Cond.methodLink "FileBuilder" (201 : Nat) ({ cls := "FileBuilder", name := "endWell", desc := "(I)V" } : Jvm.MethodName)) ∈ xTB := x_t3 78 rfl rfl
theorem tw_560 : (Jvm.Cond.instanceMethod ({ cls := "FileBuilder", name := "endWell", desc := "(I)V" } : Jvm.MethodName)) ∈ xTB := x_t3 80 rfl rfl
theorem tw_561 : (Jvm.Cond.code ({ cls := "FileBuilder", name := "endWell", desc := "(I)V" } : Jvm.MethodName) prog_1_method_38_code (4 : Nat) (Option.none : Option Jvm.ClassFile.FieldType)) ∈ xTB := x_t3 81 rfl rfl
theorem tw_562 : (Jvm.Cond.methodLink "FileBuilder" (310 : Nat) ({ cls := "FileBuilder", name := "writeOutputs", desc := "(I)V" } : Jvm.MethodName)) ∈ xTB := x_t3 82 rfl rfl
theorem tw_564 : (Jvm.Cond.instanceMethod ({ cls := "FileBuilder", name := "writeOutputs", desc := "(I)V" } : Jvm.MethodName)) ∈ xTB := x_t3 84 rfl rfl
theorem tw_565 : (Jvm.Cond.code ({ cls := "FileBuilder", name := "writeOutputs", desc := "(I)V" } : Jvm.MethodName) prog_1_method_39_code (6 : Nat) (Option.none : Option Jvm.ClassFile.FieldType)) ∈ xTB := x_t3 85 rfl rfl
theorem tw_566 : (Jvm.Cond.methodLink "FileBuilder" (319 : Nat) ({ cls := "FileBuilder", name := "mixOfWhatIsRead", desc := "(I)I" } : Jvm.MethodName)) ∈ xTB := x_t3 86 rfl rfl
theorem tw_568 : (Jvm.Cond.instanceMethod ({ cls := "FileBuilder", name := "mixOfWhatIsRead", desc := "(I)I" } : Jvm.MethodName)) ∈ xTB := x_t3 88 rfl rfl
theorem tw_569 : (Jvm.Cond.code ({ cls := "FileBuilder", name := "mixOfWhatIsRead", desc := "(I)I" } : Jvm.MethodName) prog_1_method_40_code (5 : Nat) (Option.some Jvm.ClassFile.FieldType.int)) ∈ xTB := x_t3 89 rfl rfl
theorem tw_571 : (Jvm.Cond.methodLink "FileBuilder" (322 : Nat) ({ cls := "FileBuilder", name := "mix", desc := "(II)I" } : Jvm.MethodName)) ∈ xTB := x_t3 91 rfl rfl
theorem tw_572 : (Jvm.Cond.static ({ cls := "FileBuilder", name := "mix", desc := "(II)I" } : Jvm.MethodName)) ∈ xTB := x_t3 92 rfl rfl
theorem tw_573 : (Jvm.Cond.code ({ cls := "FileBuilder", name := "mix", desc := "(II)I" } : Jvm.MethodName) prog_1_method_24_code (3 : Nat) (Option.some Jvm.ClassFile.FieldType.int)) ∈ xTB := x_t3 93 rfl rfl
theorem tw_574 : (Jvm.Cond.constant "FileBuilder" (244 : Nat) (73244475 : Int32)) ∈ xTB := x_t3 94 rfl rfl
theorem tw_577 : (Jvm.Cond.instanceMethod ({ cls := "FileBuilder$Readings", name := "keep", desc := "(II)V" } : Jvm.MethodName)) ∈ xTB := x_t3 97 rfl rfl
theorem tw_578 : (Jvm.Cond.code ({ cls := "FileBuilder$Readings", name := "keep", desc := "(II)V" } : Jvm.MethodName) prog_5_method_2_code (3 : Nat) (Option.none : Option Jvm.ClassFile.FieldType)) ∈ xTB := x_t3 98 rfl rfl
theorem tw_581 : (Jvm.Cond.instanceMethod ({ cls := "FileBuilder$RecordLog", name := "append", desc := "(III)V" } : Jvm.MethodName)) ∈ xTB := x_t3 101 rfl rfl
theorem tw_582 : (Jvm.Cond.code ({ cls := "FileBuilder$RecordLog", name := "append", desc := "(III)V" } : Jvm.MethodName) prog_6_method_5_code (4 : Nat) (Option.none : Option Jvm.ClassFile.FieldType)) ∈ xTB := x_t3 102 rfl rfl
theorem tw_583 : (Jvm.Cond.methodLink "FileBuilder$RecordLog" (39 : Nat) ({ cls := "FileBuilder$RecordLog", name := "writeAnew", desc := "()V" } : Jvm.MethodName)) ∈ xTB := x_t3 103 rfl rfl
theorem tw_585 : (Jvm.Cond.instanceMethod ({ cls := "FileBuilder$RecordLog", name := "writeAnew", desc := "()V" } : Jvm.MethodName)) ∈ xTB := x_t3 105 rfl rfl
theorem tw_586 : (Jvm.Cond.code ({ cls := "FileBuilder$RecordLog", name := "writeAnew", desc := "()V" } : Jvm.MethodName) prog_6_method_6_code (2 : Nat) (Option.none : Option Jvm.ClassFile.FieldType)) ∈ xTB := x_t3 106 rfl rfl
theorem tw_587 : (Jvm.Cond.methodLink "FileBuilder$RecordLog" (42 : Nat) ({ cls := "FileBuilder$RecordLog", name := "addBytes", desc := "(I)V" } : Jvm.MethodName)) ∈ xTB := x_t3 107 rfl rfl
theorem tw_589 : (Jvm.Cond.instanceMethod ({ cls := "FileBuilder$RecordLog", name := "addBytes", desc := "(I)V" } : Jvm.MethodName)) ∈ xTB := x_t3 109 rfl rfl
theorem tw_590 : (Jvm.Cond.code ({ cls := "FileBuilder$RecordLog", name := "addBytes", desc := "(I)V" } : Jvm.MethodName) prog_6_method_7_code (2 : Nat) (Option.none : Option Jvm.ClassFile.FieldType)) ∈ xTB := x_t3 110 rfl rfl
theorem tw_591 : (Jvm.Cond.methodLink "FileBuilder$RecordLog" (46 : Nat) ({ cls := "FileBuilder$RecordLog", name := "checkOf", desc := "(I)I" } : Jvm.MethodName)) ∈ xTB := x_t3 111 rfl rfl
theorem tw_593 : (Jvm.Cond.instanceMethod ({ cls := "FileBuilder$RecordLog", name := "checkOf", desc := "(I)I" } : Jvm.MethodName)) ∈ xTB := x_t3 113 rfl rfl
theorem tw_594 : (Jvm.Cond.code ({ cls := "FileBuilder$RecordLog", name := "checkOf", desc := "(I)I" } : Jvm.MethodName) prog_6_method_8_code (4 : Nat) (Option.some Jvm.ClassFile.FieldType.int)) ∈ xTB := x_t3 114 rfl rfl
theorem tw_595 : (Jvm.Cond.methodLink "FileBuilder" (204 : Nat) ({ cls := "FileBuilder", name := "letGo", desc := "()I" } : Jvm.MethodName)) ∈ xTB := x_t3 115 rfl rfl
theorem tw_597 : (Jvm.Cond.instanceMethod ({ cls := "FileBuilder", name := "letGo", desc := "()I" } : Jvm.MethodName)) ∈ xTB := x_t3 117 rfl rfl
theorem tw_598 : (Jvm.Cond.code ({ cls := "FileBuilder", name := "letGo", desc := "()I" } : Jvm.MethodName) prog_1_method_41_code (5 : Nat) (Option.some Jvm.ClassFile.FieldType.int)) ∈ xTB := x_t3 118 rfl rfl
theorem tw_599 : (Jvm.Cond.methodLink "FileBuilderLaw" (115 : Nat) ({ cls := "FileBuilderLaw", name := "about", desc := "(LFileBuilder;I[J)I" } : Jvm.MethodName)) ∈ xTB := x_t3 119 rfl rfl
theorem tw_600 : (Jvm.Cond.static ({ cls := "FileBuilderLaw", name := "about", desc := "(LFileBuilder;I[J)I" } : Jvm.MethodName)) ∈ xTB := x_t3 120 rfl rfl
theorem tw_601 : (Jvm.Cond.codeWith ({ cls := "FileBuilderLaw", name := "about", desc := "(LFileBuilder;I[J)I" } : Jvm.MethodName) method_12_code (4 : Nat) (Option.some Jvm.ClassFile.FieldType.int) [((0 : Nat), (9 : Nat), (12 : Nat), (13 : Nat))]) ∈ xTB := x_t3 121 rfl rfl
theorem tw_602 : (Jvm.Cond.methodLink "FileBuilderLaw" (50 : Nat) ({ cls := "FileBuilder", name := "about", desc := "(I)I" } : Jvm.MethodName)) ∈ xTB := x_t3 122 rfl rfl
theorem tw_603 : (Jvm.Cond.instanceMethod ({ cls := "FileBuilder", name := "about", desc := "(I)I" } : Jvm.MethodName)) ∈ xTB := x_t3 123 rfl rfl
theorem tw_604 : (Jvm.Cond.selects "FileBuilder" ({ cls := "FileBuilder", name := "about", desc := "(I)I" } : Jvm.MethodName) ({ cls := "FileBuilder", name := "about", desc := "(I)I" } : Jvm.MethodName)) ∈ xTB := x_t3 124 rfl rfl
theorem tw_605 : (Jvm.Cond.code ({ cls := "FileBuilder", name := "about", desc := "(I)I" } : Jvm.MethodName) prog_1_method_13_code (2 : Nat) (Option.some Jvm.ClassFile.FieldType.int)) ∈ xTB := x_t3 125 rfl rfl
theorem tw_606 : (Jvm.Cond.methodLink "FileBuilder" (210 : Nat) ({ cls := "FileBuilder", name := "refuseUnknownEdge", desc := "(I)V" } : Jvm.MethodName)) ∈ xTB := x_t3 126 rfl rfl
theorem tw_608 : (Jvm.Cond.instanceMethod ({ cls := "FileBuilder", name := "refuseUnknownEdge", desc := "(I)V" } : Jvm.MethodName)) ∈ xTB := x_t3 128 rfl rfl
theorem tw_609 : (Jvm.Cond.code ({ cls := "FileBuilder", name := "refuseUnknownEdge", desc := "(I)V" } : Jvm.MethodName) prog_1_method_26_code (2 : Nat) (Option.none : Option Jvm.ClassFile.FieldType)) ∈ xTB := x_t3 129 rfl rfl
theorem tw_611 : (Jvm.Cond.methodLink "FileBuilderLaw" (119 : Nat) ({ cls := "FileBuilderLaw", name := "file", desc := "(LFileBuilder;II[J)I" } : Jvm.MethodName)) ∈ xTB := x_t3 131 rfl rfl
theorem tw_612 : (Jvm.Cond.static ({ cls := "FileBuilderLaw", name := "file", desc := "(LFileBuilder;II[J)I" } : Jvm.MethodName)) ∈ xTB := x_t3 132 rfl rfl
theorem tw_613 : (Jvm.Cond.codeWith ({ cls := "FileBuilderLaw", name := "file", desc := "(LFileBuilder;II[J)I" } : Jvm.MethodName) method_13_code (5 : Nat) (Option.some Jvm.ClassFile.FieldType.int) [((0 : Nat), (10 : Nat), (13 : Nat), (13 : Nat))]) ∈ xTB := x_t3 133 rfl rfl
theorem tw_614 : (Jvm.Cond.methodLink "FileBuilderLaw" (54 : Nat) ({ cls := "FileBuilder", name := "file", desc := "(II)I" } : Jvm.MethodName)) ∈ xTB := x_t3 134 rfl rfl
theorem tw_615 : (Jvm.Cond.instanceMethod ({ cls := "FileBuilder", name := "file", desc := "(II)I" } : Jvm.MethodName)) ∈ xTB := x_t3 135 rfl rfl
theorem tw_616 : (Jvm.Cond.selects "FileBuilder" ({ cls := "FileBuilder", name := "file", desc := "(II)I" } : Jvm.MethodName) ({ cls := "FileBuilder", name := "file", desc := "(II)I" } : Jvm.MethodName)) ∈ xTB := x_t3 136 rfl rfl
theorem tw_617 : (Jvm.Cond.code ({ cls := "FileBuilder", name := "file", desc := "(II)I" } : Jvm.MethodName) prog_1_method_14_code (3 : Nat) (Option.some Jvm.ClassFile.FieldType.int)) ∈ xTB := x_t3 137 rfl rfl
theorem tw_620 : (Jvm.Cond.methodLink "FileBuilderLaw" (123 : Nat) ({ cls := "FileBuilderLaw", name := "commandOf", desc := "(LFileBuilder;I[J)I" } : Jvm.MethodName)) ∈ xTB := x_t3 140 rfl rfl
theorem tw_621 : (Jvm.Cond.static ({ cls := "FileBuilderLaw", name := "commandOf", desc := "(LFileBuilder;I[J)I" } : Jvm.MethodName)) ∈ xTB := x_t3 141 rfl rfl
theorem tw_622 : (Jvm.Cond.codeWith ({ cls := "FileBuilderLaw", name := "commandOf", desc := "(LFileBuilder;I[J)I" } : Jvm.MethodName) method_14_code (4 : Nat) (Option.some Jvm.ClassFile.FieldType.int) [((0 : Nat), (9 : Nat), (12 : Nat), (13 : Nat))]) ∈ xTB := x_t3 142 rfl rfl
theorem tw_623 : (Jvm.Cond.methodLink "FileBuilderLaw" (58 : Nat) ({ cls := "FileBuilder", name := "commandOf", desc := "(I)I" } : Jvm.MethodName)) ∈ xTB := x_t3 143 rfl rfl
theorem tw_624 : (Jvm.Cond.instanceMethod ({ cls := "FileBuilder", name := "commandOf", desc := "(I)I" } : Jvm.MethodName)) ∈ xTB := x_t3 144 rfl rfl
theorem tw_625 : (Jvm.Cond.selects "FileBuilder" ({ cls := "FileBuilder", name := "commandOf", desc := "(I)I" } : Jvm.MethodName) ({ cls := "FileBuilder", name := "commandOf", desc := "(I)I" } : Jvm.MethodName)) ∈ xTB := x_t3 145 rfl rfl
theorem tw_626 : (Jvm.Cond.code ({ cls := "FileBuilder", name := "commandOf", desc := "(I)I" } : Jvm.MethodName) prog_1_method_15_code (2 : Nat) (Option.some Jvm.ClassFile.FieldType.int)) ∈ xTB := x_t3 146 rfl rfl
theorem tw_627 : (Jvm.Cond.methodLink "FileBuilderLaw" (130 : Nat) ({ cls := "FileBuilderLaw", name := "cut", desc := "(LFileBuilder;I[J)I" } : Jvm.MethodName)) ∈ xTB := x_t3 147 rfl rfl
theorem tw_628 : (Jvm.Cond.static ({ cls := "FileBuilderLaw", name := "cut", desc := "(LFileBuilder;I[J)I" } : Jvm.MethodName)) ∈ xTB := x_t3 148 rfl rfl
theorem tw_629 : (Jvm.Cond.codeWith ({ cls := "FileBuilderLaw", name := "cut", desc := "(LFileBuilder;I[J)I" } : Jvm.MethodName) method_15_code (4 : Nat) (Option.some Jvm.ClassFile.FieldType.int) [((0 : Nat), (9 : Nat), (12 : Nat), (13 : Nat)), ((0 : Nat), (9 : Nat), (15 : Nat), (15 : Nat))]) ∈ xTB := x_t3 149 rfl rfl
theorem tw_630 : (Jvm.Cond.methodLink "FileBuilderLaw" (61 : Nat) ({ cls := "FileBuilder", name := "cut", desc := "(I)I" } : Jvm.MethodName)) ∈ xTB := x_t3 150 rfl rfl
theorem tw_631 : (Jvm.Cond.instanceMethod ({ cls := "FileBuilder", name := "cut", desc := "(I)I" } : Jvm.MethodName)) ∈ xTB := x_t3 151 rfl rfl
theorem tw_632 : (Jvm.Cond.selects "FileBuilder" ({ cls := "FileBuilder", name := "cut", desc := "(I)I" } : Jvm.MethodName) ({ cls := "FileBuilder", name := "cut", desc := "(I)I" } : Jvm.MethodName)) ∈ xTB := x_t3 152 rfl rfl
theorem tw_633 : (Jvm.Cond.code ({ cls := "FileBuilder", name := "cut", desc := "(I)I" } : Jvm.MethodName) prog_1_method_17_code (2 : Nat) (Option.some Jvm.ClassFile.FieldType.int)) ∈ xTB := x_t3 153 rfl rfl
theorem tw_637 : (Jvm.Cond.instanceMethod ({ cls := "FileBuilder$RecordLog", name := "readAgain", desc := "(I)V" } : Jvm.MethodName)) ∈ xTB := x_t3 157 rfl rfl
theorem tw_638 : (Jvm.Cond.code ({ cls := "FileBuilder$RecordLog", name := "readAgain", desc := "(I)V" } : Jvm.MethodName) prog_6_method_10_code (4 : Nat) (Option.none : Option Jvm.ClassFile.FieldType)) ∈ xTB := x_t3 158 rfl rfl
theorem tw_639 : (Jvm.Cond.methodLink "FileBuilder$RecordLog" (53 : Nat) ({ cls := "java/lang/Math", name := "min", desc := "(II)I" } : Jvm.MethodName)) ∈ xTB := x_t3 159 rfl rfl
theorem tw_640 : (Jvm.Cond.static ({ cls := "java/lang/Math", name := "min", desc := "(II)I" } : Jvm.MethodName)) ∈ xTB := x_t3 160 rfl rfl
theorem tw_641 : (Jvm.Cond.code ({ cls := "java/lang/Math", name := "min", desc := "(II)I" } : Jvm.MethodName) prog_12_method_69_code (2 : Nat) (Option.some Jvm.ClassFile.FieldType.int)) ∈ xTB := x_t3 161 rfl rfl
theorem tw_642 : (Jvm.Cond.methodLink "FileBuilder$RecordLog" (59 : Nat) ({ cls := "FileBuilder$RecordLog", name := "isRight", desc := "(I)Z" } : Jvm.MethodName)) ∈ xTB := x_t3 162 rfl rfl
theorem tw_644 : (Jvm.Cond.instanceMethod ({ cls := "FileBuilder$RecordLog", name := "isRight", desc := "(I)Z" } : Jvm.MethodName)) ∈ xTB := x_t3 164 rfl rfl
theorem tw_645 : (Jvm.Cond.code ({ cls := "FileBuilder$RecordLog", name := "isRight", desc := "(I)Z" } : Jvm.MethodName) prog_6_method_9_code (2 : Nat) (Option.some Jvm.ClassFile.FieldType.boolean)) ∈ xTB := x_t3 165 rfl rfl
theorem tw_647 : (Jvm.Cond.methodLink "FileBuilder$RecordLog" (62 : Nat) ({ cls := "FileBuilder$RecordLog", name := "takeIn", desc := "(I)V" } : Jvm.MethodName)) ∈ xTB := x_t3 167 rfl rfl
theorem tw_649 : (Jvm.Cond.instanceMethod ({ cls := "FileBuilder$RecordLog", name := "takeIn", desc := "(I)V" } : Jvm.MethodName)) ∈ xTB := x_t3 169 rfl rfl
theorem tw_650 : (Jvm.Cond.code ({ cls := "FileBuilder$RecordLog", name := "takeIn", desc := "(I)V" } : Jvm.MethodName) prog_6_method_11_code (3 : Nat) (Option.none : Option Jvm.ClassFile.FieldType)) ∈ xTB := x_t3 170 rfl rfl
theorem tw_653 : (Jvm.Cond.instanceMethod ({ cls := "FileBuilder$Readings", name := "forget", desc := "()V" } : Jvm.MethodName)) ∈ xTB := x_t3 173 rfl rfl
theorem tw_654 : (Jvm.Cond.code ({ cls := "FileBuilder$Readings", name := "forget", desc := "()V" } : Jvm.MethodName) prog_5_method_3_code (2 : Nat) (Option.none : Option Jvm.ClassFile.FieldType)) ∈ xTB := x_t3 174 rfl rfl
theorem tw_657 : (Jvm.Cond.instanceMethod ({ cls := "FileBuilder$Build", name := "forget", desc := "()V" } : Jvm.MethodName)) ∈ xTB := x_t3 177 rfl rfl
theorem tw_658 : (Jvm.Cond.code ({ cls := "FileBuilder$Build", name := "forget", desc := "()V" } : Jvm.MethodName) prog_2_method_6_code (1 : Nat) (Option.none : Option Jvm.ClassFile.FieldType)) ∈ xTB := x_t3 178 rfl rfl
theorem tw_659 : (Jvm.Cond.classLink "FileBuilderLaw" (65 : Nat) "FileBuilderModel") ∈ xTB := x_t3 179 rfl rfl
theorem tw_660 : (Jvm.Cond.instantiable "FileBuilderModel" (30 : Nat)) ∈ xTB := x_t3 180 rfl rfl
theorem tw_661 : (Jvm.Cond.methodLink "FileBuilderLaw" (67 : Nat) ({ cls := "FileBuilderModel", name := "<init>", desc := "()V" } : Jvm.MethodName)) ∈ xTB := x_t3 181 rfl rfl
theorem tw_662 : (Jvm.Cond.instanceMethod ({ cls := "FileBuilderModel", name := "<init>", desc := "()V" } : Jvm.MethodName)) ∈ xTB := x_t3 182 rfl rfl
theorem tw_663 : (Jvm.Cond.code ({ cls := "FileBuilderModel", name := "<init>", desc := "()V" } : Jvm.MethodName) prog_8_method_1_code (1 : Nat) (Option.none : Option Jvm.ClassFile.FieldType)) ∈ xTB := x_t3 183 rfl rfl
theorem tw_664 : (Jvm.Cond.methodLink "FileBuilderModel" (1 : Nat) ({ cls := "java/lang/Object", name := "<init>", desc := "()V" } : Jvm.MethodName)) ∈ xTB := x_t3 184 rfl rfl
theorem tw_665 : (Jvm.Cond.fieldLink "FileBuilderModel" (75 : Nat) "FileBuilderModel" "code" "I") ∈ xTB := x_t3 185 rfl rfl
theorem tw_666 : (Jvm.Cond.fieldLink "FileBuilderModel" (79 : Nat) "FileBuilderModel" "many" "I") ∈ xTB := x_t3 186 rfl rfl
theorem tw_667 : (Jvm.Cond.fieldLink "FileBuilderModel" (7 : Nat) "FileBuilderModel" "command" "[I") ∈ xTB := x_t3 187 rfl rfl
theorem tw_668 : (Jvm.Cond.fieldLink "FileBuilderModel" (13 : Nat) "FileBuilderModel" "flags" "[I") ∈ xTB := x_t3 188 rfl rfl
theorem tw_669 : (Jvm.Cond.fieldLink "FileBuilderModel" (16 : Nat) "FileBuilderModel" "pool" "[I") ∈ xTB := x_t3 189 rfl rfl
theorem tw_670 : (Jvm.Cond.fieldLink "FileBuilderModel" (19 : Nat) "FileBuilderModel" "outputs" "[I") ∈ xTB := x_t3 190 rfl rfl
theorem tw_671 : (Jvm.Cond.fieldLink "FileBuilderModel" (22 : Nat) "FileBuilderModel" "links" "[I") ∈ xTB := x_t3 191 rfl rfl
theorem tw_672 : (Jvm.Cond.fieldLink "FileBuilderModel" (25 : Nat) "FileBuilderModel" "reads" "[I") ∈ xTB := x_t3 192 rfl rfl
theorem tw_673 : (Jvm.Cond.fieldLink "FileBuilderModel" (28 : Nat) "FileBuilderModel" "recorded" "[I") ∈ xTB := x_t3 193 rfl rfl
theorem tw_674 : (Jvm.Cond.fieldLink "FileBuilderModel" (31 : Nat) "FileBuilderModel" "known" "[Z") ∈ xTB := x_t3 194 rfl rfl
theorem tw_675 : (Jvm.Cond.fieldLink "FileBuilderModel" (35 : Nat) "FileBuilderModel" "step" "[I") ∈ xTB := x_t3 195 rfl rfl
theorem tw_676 : (Jvm.Cond.fieldLink "FileBuilderModel" (109 : Nat) "FileBuilderModel" "clock" "I") ∈ xTB := x_t3 196 rfl rfl
theorem tw_677 : (Jvm.Cond.fieldLink "FileBuilderModel" (38 : Nat) "FileBuilderModel" "content" "[I") ∈ xTB := x_t3 197 rfl rfl
theorem tw_678 : (Jvm.Cond.fieldLink "FileBuilderModel" (41 : Nat) "FileBuilderModel" "time" "[I") ∈ xTB := x_t3 198 rfl rfl
theorem tw_679 : (Jvm.Cond.fieldLink "FileBuilderModel" (44 : Nat) "FileBuilderModel" "maker" "[I") ∈ xTB := x_t3 199 rfl rfl
theorem tw_680 : (Jvm.Cond.fieldLink "FileBuilderModel" (47 : Nat) "FileBuilderModel" "logs" "[Z") ∈ xTB := x_t3 200 rfl rfl
theorem tw_681 : (Jvm.Cond.fieldLink "FileBuilderModel" (50 : Nat) "FileBuilderModel" "logged" "[I") ∈ xTB := x_t3 201 rfl rfl
theorem tw_682 : (Jvm.Cond.fieldLink "FileBuilderModel" (53 : Nat) "FileBuilderModel" "newestLogged" "[I") ∈ xTB := x_t3 202 rfl rfl
theorem tw_683 : (Jvm.Cond.fieldLink "FileBuilderModel" (187 : Nat) "FileBuilderModel" "size" "I") ∈ xTB := x_t3 203 rfl rfl
theorem tw_684 : (Jvm.Cond.fieldLink "FileBuilderModel" (56 : Nat) "FileBuilderModel" "log" "[I") ∈ xTB := x_t3 204 rfl rfl
theorem tw_685 : (Jvm.Cond.fieldLink "FileBuilderModel" (59 : Nat) "FileBuilderModel" "depthOne" "I") ∈ xTB := x_t3 205 rfl rfl
theorem tw_686 : (Jvm.Cond.fieldLink "FileBuilderModel" (63 : Nat) "FileBuilderModel" "depthTwo" "I") ∈ xTB := x_t3 206 rfl rfl
theorem tw_687 : (Jvm.Cond.fieldLink "FileBuilderModel" (119 : Nat) "FileBuilderModel" "reached" "I") ∈ xTB := x_t3 207 rfl rfl
theorem tw_688 : (Jvm.Cond.fieldLink "FileBuilderModel" (66 : Nat) "FileBuilderModel" "order" "[I") ∈ xTB := x_t3 208 rfl rfl
theorem tw_689 : (Jvm.Cond.fieldLink "FileBuilderModel" (69 : Nat) "FileBuilderModel" "newest" "[I") ∈ xTB := x_t3 209 rfl rfl
theorem tw_690 : (Jvm.Cond.fieldLink "FileBuilderModel" (72 : Nat) "FileBuilderModel" "marks" "[Z") ∈ xTB := x_t3 210 rfl rfl
theorem tw_691 : (Jvm.Cond.fieldLink "FileBuilderModel" (153 : Nat) "FileBuilderModel" "jobs" "I") ∈ xTB := x_t3 211 rfl rfl
theorem tw_692 : (Jvm.Cond.fieldLink "FileBuilderModel" (156 : Nat) "FileBuilderModel" "fail" "I") ∈ xTB := x_t3 212 rfl rfl
theorem tw_693 : (Jvm.Cond.fieldLink "FileBuilderModel" (165 : Nat) "FileBuilderModel" "begun" "Z") ∈ xTB := x_t3 213 rfl rfl
theorem tw_694 : (Jvm.Cond.fieldLink "FileBuilderModel" (91 : Nat) "FileBuilderModel" "under" "Z") ∈ xTB := x_t3 214 rfl rfl
theorem tw_695 : (Jvm.Cond.lays "FileBuilderModel" "FileBuilderModel" "code" "I") ∈ xTB := x_t3 215 rfl rfl
theorem tw_697 : (Jvm.Cond.lays "FileBuilderModel" "FileBuilderModel" "many" "I") ∈ xTB := x_t3 217 rfl rfl
theorem tw_699 : (Jvm.Cond.laysFinal "FileBuilderModel" "FileBuilderModel" "command" "[I") ∈ xTB := x_t3 219 rfl rfl
theorem tw_701 : (Jvm.Cond.laysFinal "FileBuilderModel" "FileBuilderModel" "flags" "[I") ∈ xTB := x_t3 221 rfl rfl
theorem tw_703 : (Jvm.Cond.laysFinal "FileBuilderModel" "FileBuilderModel" "pool" "[I") ∈ xTB := x_t3 223 rfl rfl
theorem tw_705 : (Jvm.Cond.laysFinal "FileBuilderModel" "FileBuilderModel" "outputs" "[I") ∈ xTB := x_t3 225 rfl rfl
theorem tw_707 : (Jvm.Cond.laysFinal "FileBuilderModel" "FileBuilderModel" "links" "[I") ∈ xTB := x_t3 227 rfl rfl
theorem tw_709 : (Jvm.Cond.laysFinal "FileBuilderModel" "FileBuilderModel" "reads" "[I") ∈ xTB := x_t3 229 rfl rfl
theorem tw_711 : (Jvm.Cond.laysFinal "FileBuilderModel" "FileBuilderModel" "recorded" "[I") ∈ xTB := x_t3 231 rfl rfl
theorem tw_713 : (Jvm.Cond.laysFinal "FileBuilderModel" "FileBuilderModel" "known" "[Z") ∈ xTB := x_t3 233 rfl rfl
theorem tw_715 : (Jvm.Cond.laysFinal "FileBuilderModel" "FileBuilderModel" "step" "[I") ∈ xTB := x_t3 235 rfl rfl
theorem tw_717 : (Jvm.Cond.lays "FileBuilderModel" "FileBuilderModel" "clock" "I") ∈ xTB := x_t3 237 rfl rfl
theorem tw_719 : (Jvm.Cond.laysFinal "FileBuilderModel" "FileBuilderModel" "content" "[I") ∈ xTB := x_t3 239 rfl rfl
theorem tw_721 : (Jvm.Cond.laysFinal "FileBuilderModel" "FileBuilderModel" "time" "[I") ∈ xTB := x_t4 1 rfl rfl
theorem tw_723 : (Jvm.Cond.laysFinal "FileBuilderModel" "FileBuilderModel" "maker" "[I") ∈ xTB := x_t4 3 rfl rfl
theorem tw_725 : (Jvm.Cond.laysFinal "FileBuilderModel" "FileBuilderModel" "logs" "[Z") ∈ xTB := x_t4 5 rfl rfl
theorem tw_727 : (Jvm.Cond.laysFinal "FileBuilderModel" "FileBuilderModel" "logged" "[I") ∈ xTB := x_t4 7 rfl rfl
theorem tw_729 : (Jvm.Cond.laysFinal "FileBuilderModel" "FileBuilderModel" "newestLogged" "[I") ∈ xTB := x_t4 9 rfl rfl
theorem tw_731 : (Jvm.Cond.lays "FileBuilderModel" "FileBuilderModel" "size" "I") ∈ xTB := x_t4 11 rfl rfl
theorem tw_733 : (Jvm.Cond.laysFinal "FileBuilderModel" "FileBuilderModel" "log" "[I") ∈ xTB := x_t4 13 rfl rfl
theorem tw_735 : (Jvm.Cond.lays "FileBuilderModel" "FileBuilderModel" "depthOne" "I") ∈ xTB := x_t4 15 rfl rfl
theorem tw_737 : (Jvm.Cond.lays "FileBuilderModel" "FileBuilderModel" "depthTwo" "I") ∈ xTB := x_t4 17 rfl rfl
theorem tw_739 : (Jvm.Cond.lays "FileBuilderModel" "FileBuilderModel" "reached" "I") ∈ xTB := x_t4 19 rfl rfl
theorem tw_741 : (Jvm.Cond.laysFinal "FileBuilderModel" "FileBuilderModel" "order" "[I") ∈ xTB := x_t4 21 rfl rfl
theorem tw_743 : (Jvm.Cond.laysFinal "FileBuilderModel" "FileBuilderModel" "newest" "[I") ∈ xTB := x_t4 23 rfl rfl
theorem tw_745 : (Jvm.Cond.laysFinal "FileBuilderModel" "FileBuilderModel" "marks" "[Z") ∈ xTB := x_t4 25 rfl rfl
theorem tw_747 : (Jvm.Cond.lays "FileBuilderModel" "FileBuilderModel" "jobs" "I") ∈ xTB := x_t4 27 rfl rfl
theorem tw_749 : (Jvm.Cond.lays "FileBuilderModel" "FileBuilderModel" "fail" "I") ∈ xTB := x_t4 29 rfl rfl
theorem tw_751 : (Jvm.Cond.lays "FileBuilderModel" "FileBuilderModel" "begun" "Z") ∈ xTB := x_t4 31 rfl rfl
theorem tw_753 : (Jvm.Cond.lays "FileBuilderModel" "FileBuilderModel" "under" "Z") ∈ xTB := x_t4 33 rfl rfl
theorem tw_756 : (Jvm.Cond.methodLink "FileBuilderLaw" (74 : Nat) ({ cls := "FileBuilderModel", name := "thrown", desc := "()I" } : Jvm.MethodName)) ∈ xTB := x_t4 36 rfl rfl
theorem tw_757 : (Jvm.Cond.instanceMethod ({ cls := "FileBuilderModel", name := "thrown", desc := "()I" } : Jvm.MethodName)) ∈ xTB := x_t4 37 rfl rfl
theorem tw_758 : (Jvm.Cond.selects "FileBuilderModel" ({ cls := "FileBuilderModel", name := "thrown", desc := "()I" } : Jvm.MethodName) ({ cls := "FileBuilderModel", name := "thrown", desc := "()I" } : Jvm.MethodName)) ∈ xTB := x_t4 38 rfl rfl
theorem tw_759 : (Jvm.Cond.code ({ cls := "FileBuilderModel", name := "thrown", desc := "()I" } : Jvm.MethodName) prog_8_method_2_code (1 : Nat) (Option.some Jvm.ClassFile.FieldType.int)) ∈ xTB := x_t4 39 rfl rfl
theorem tw_760 : (Jvm.Cond.methodLink "FileBuilderLaw" (73 : Nat) ({ cls := "FileBuilderModel", name := "edge", desc := "(III)I" } : Jvm.MethodName)) ∈ xTB := x_t4 40 rfl rfl
theorem tw_761 : (Jvm.Cond.instanceMethod ({ cls := "FileBuilderModel", name := "edge", desc := "(III)I" } : Jvm.MethodName)) ∈ xTB := x_t4 41 rfl rfl
theorem tw_762 : (Jvm.Cond.selects "FileBuilderModel" ({ cls := "FileBuilderModel", name := "edge", desc := "(III)I" } : Jvm.MethodName) ({ cls := "FileBuilderModel", name := "edge", desc := "(III)I" } : Jvm.MethodName)) ∈ xTB := x_t4 42 rfl rfl
theorem tw_763 : (Jvm.Cond.code ({ cls := "FileBuilderModel", name := "edge", desc := "(III)I" } : Jvm.MethodName) prog_8_method_12_code (5 : Nat) (Option.some Jvm.ClassFile.FieldType.int)) ∈ xTB := x_t4 43 rfl rfl
theorem tw_764 : (Jvm.Cond.constant "FileBuilderModel" (90 : Nat) (65535 : Int32)) ∈ xTB := x_t4 44 rfl rfl
theorem tw_765 : (Jvm.Cond.methodLink "FileBuilderModel" (82 : Nat) ({ cls := "FileBuilderModel", name := "outside", desc := "(III)Z" } : Jvm.MethodName)) ∈ xTB := x_t4 45 rfl rfl
theorem tw_766 : (Jvm.Cond.static ({ cls := "FileBuilderModel", name := "outside", desc := "(III)Z" } : Jvm.MethodName)) ∈ xTB := x_t4 46 rfl rfl
theorem tw_767 : (Jvm.Cond.code ({ cls := "FileBuilderModel", name := "outside", desc := "(III)Z" } : Jvm.MethodName) prog_8_method_4_code (3 : Nat) (Option.some Jvm.ClassFile.FieldType.boolean)) ∈ xTB := x_t4 47 rfl rfl
theorem tw_768 : (Jvm.Cond.methodLink "FileBuilderLaw" (81 : Nat) ({ cls := "FileBuilderModel", name := "link", desc := "(III)V" } : Jvm.MethodName)) ∈ xTB := x_t4 48 rfl rfl
theorem tw_769 : (Jvm.Cond.instanceMethod ({ cls := "FileBuilderModel", name := "link", desc := "(III)V" } : Jvm.MethodName)) ∈ xTB := x_t4 49 rfl rfl
theorem tw_770 : (Jvm.Cond.selects "FileBuilderModel" ({ cls := "FileBuilderModel", name := "link", desc := "(III)V" } : Jvm.MethodName) ({ cls := "FileBuilderModel", name := "link", desc := "(III)V" } : Jvm.MethodName)) ∈ xTB := x_t4 50 rfl rfl
theorem tw_771 : (Jvm.Cond.code ({ cls := "FileBuilderModel", name := "link", desc := "(III)V" } : Jvm.MethodName) prog_8_method_13_code (7 : Nat) (Option.none : Option Jvm.ClassFile.FieldType)) ∈ xTB := x_t4 51 rfl rfl
theorem tw_772 : (Jvm.Cond.methodLink "FileBuilderModel" (95 : Nat) ({ cls := "FileBuilderModel", name := "isFile", desc := "(I)Z" } : Jvm.MethodName)) ∈ xTB := x_t4 52 rfl rfl
theorem tw_773 : (Jvm.Cond.static ({ cls := "FileBuilderModel", name := "isFile", desc := "(I)Z" } : Jvm.MethodName)) ∈ xTB := x_t4 53 rfl rfl
theorem tw_774 : (Jvm.Cond.code ({ cls := "FileBuilderModel", name := "isFile", desc := "(I)Z" } : Jvm.MethodName) prog_8_method_8_code (1 : Nat) (Option.some Jvm.ClassFile.FieldType.boolean)) ∈ xTB := x_t4 54 rfl rfl
theorem tw_775 : (Jvm.Cond.methodLink "FileBuilderModel" (99 : Nat) ({ cls := "FileBuilderModel", name := "isEdge", desc := "(I)Z" } : Jvm.MethodName)) ∈ xTB := x_t4 55 rfl rfl
theorem tw_777 : (Jvm.Cond.instanceMethod ({ cls := "FileBuilderModel", name := "isEdge", desc := "(I)Z" } : Jvm.MethodName)) ∈ xTB := x_t4 57 rfl rfl
theorem tw_778 : (Jvm.Cond.code ({ cls := "FileBuilderModel", name := "isEdge", desc := "(I)Z" } : Jvm.MethodName) prog_8_method_7_code (2 : Nat) (Option.some Jvm.ClassFile.FieldType.boolean)) ∈ xTB := x_t4 58 rfl rfl
theorem tw_779 : (Jvm.Cond.methodLink "FileBuilderModel" (102 : Nat) ({ cls := "FileBuilderModel", name := "is", desc := "(II)Z" } : Jvm.MethodName)) ∈ xTB := x_t4 59 rfl rfl
theorem tw_781 : (Jvm.Cond.instanceMethod ({ cls := "FileBuilderModel", name := "is", desc := "(II)Z" } : Jvm.MethodName)) ∈ xTB := x_t4 61 rfl rfl
theorem tw_782 : (Jvm.Cond.code ({ cls := "FileBuilderModel", name := "is", desc := "(II)Z" } : Jvm.MethodName) prog_8_method_9_code (3 : Nat) (Option.some Jvm.ClassFile.FieldType.boolean)) ∈ xTB := x_t4 62 rfl rfl
theorem tw_783 : (Jvm.Cond.methodLink "FileBuilderModel" (106 : Nat) ({ cls := "FileBuilderModel", name := "in", desc := "(II)Z" } : Jvm.MethodName)) ∈ xTB := x_t4 63 rfl rfl
theorem tw_784 : (Jvm.Cond.static ({ cls := "FileBuilderModel", name := "in", desc := "(II)Z" } : Jvm.MethodName)) ∈ xTB := x_t4 64 rfl rfl
theorem tw_785 : (Jvm.Cond.code ({ cls := "FileBuilderModel", name := "in", desc := "(II)Z" } : Jvm.MethodName) prog_8_method_5_code (2 : Nat) (Option.some Jvm.ClassFile.FieldType.boolean)) ∈ xTB := x_t4 65 rfl rfl
theorem tw_786 : (Jvm.Cond.methodLink "FileBuilderLaw" (85 : Nat) ({ cls := "FileBuilderModel", name := "reads", desc := "(IIZ)V" } : Jvm.MethodName)) ∈ xTB := x_t4 66 rfl rfl
theorem tw_787 : (Jvm.Cond.instanceMethod ({ cls := "FileBuilderModel", name := "reads", desc := "(IIZ)V" } : Jvm.MethodName)) ∈ xTB := x_t4 67 rfl rfl
theorem tw_788 : (Jvm.Cond.selects "FileBuilderModel" ({ cls := "FileBuilderModel", name := "reads", desc := "(IIZ)V" } : Jvm.MethodName) ({ cls := "FileBuilderModel", name := "reads", desc := "(IIZ)V" } : Jvm.MethodName)) ∈ xTB := x_t4 68 rfl rfl
theorem tw_789 : (Jvm.Cond.code ({ cls := "FileBuilderModel", name := "reads", desc := "(IIZ)V" } : Jvm.MethodName) prog_8_method_14_code (4 : Nat) (Option.none : Option Jvm.ClassFile.FieldType)) ∈ xTB := x_t4 69 rfl rfl
theorem tw_790 : (Jvm.Cond.methodLink "FileBuilderLaw" (89 : Nat) ({ cls := "FileBuilderModel", name := "command", desc := "(II)V" } : Jvm.MethodName)) ∈ xTB := x_t4 70 rfl rfl
theorem tw_791 : (Jvm.Cond.instanceMethod ({ cls := "FileBuilderModel", name := "command", desc := "(II)V" } : Jvm.MethodName)) ∈ xTB := x_t4 71 rfl rfl
theorem tw_792 : (Jvm.Cond.selects "FileBuilderModel" ({ cls := "FileBuilderModel", name := "command", desc := "(II)V" } : Jvm.MethodName) ({ cls := "FileBuilderModel", name := "command", desc := "(II)V" } : Jvm.MethodName)) ∈ xTB := x_t4 72 rfl rfl
theorem tw_793 : (Jvm.Cond.code ({ cls := "FileBuilderModel", name := "command", desc := "(II)V" } : Jvm.MethodName) prog_8_method_15_code (3 : Nat) (Option.none : Option Jvm.ClassFile.FieldType)) ∈ xTB := x_t4 73 rfl rfl
theorem tw_794 : (Jvm.Cond.methodLink "FileBuilderLaw" (92 : Nat) ({ cls := "FileBuilderModel", name := "pool", desc := "(II)V" } : Jvm.MethodName)) ∈ xTB := x_t4 74 rfl rfl
theorem tw_795 : (Jvm.Cond.instanceMethod ({ cls := "FileBuilderModel", name := "pool", desc := "(II)V" } : Jvm.MethodName)) ∈ xTB := x_t4 75 rfl rfl
theorem tw_796 : (Jvm.Cond.selects "FileBuilderModel" ({ cls := "FileBuilderModel", name := "pool", desc := "(II)V" } : Jvm.MethodName) ({ cls := "FileBuilderModel", name := "pool", desc := "(II)V" } : Jvm.MethodName)) ∈ xTB := x_t4 76 rfl rfl
theorem tw_797 : (Jvm.Cond.code ({ cls := "FileBuilderModel", name := "pool", desc := "(II)V" } : Jvm.MethodName) prog_8_method_16_code (3 : Nat) (Option.none : Option Jvm.ClassFile.FieldType)) ∈ xTB := x_t4 77 rfl rfl
theorem tw_798 : (Jvm.Cond.methodLink "FileBuilderLaw" (95 : Nat) ({ cls := "FileBuilderModel", name := "write", desc := "(II)V" } : Jvm.MethodName)) ∈ xTB := x_t4 78 rfl rfl
theorem tw_799 : (Jvm.Cond.instanceMethod ({ cls := "FileBuilderModel", name := "write", desc := "(II)V" } : Jvm.MethodName)) ∈ xTB := x_t4 79 rfl rfl
theorem tw_800 : (Jvm.Cond.selects "FileBuilderModel" ({ cls := "FileBuilderModel", name := "write", desc := "(II)V" } : Jvm.MethodName) ({ cls := "FileBuilderModel", name := "write", desc := "(II)V" } : Jvm.MethodName)) ∈ xTB := x_t4 80 rfl rfl
theorem tw_801 : (Jvm.Cond.code ({ cls := "FileBuilderModel", name := "write", desc := "(II)V" } : Jvm.MethodName) prog_8_method_19_code (3 : Nat) (Option.none : Option Jvm.ClassFile.FieldType)) ∈ xTB := x_t4 81 rfl rfl
theorem tw_802 : (Jvm.Cond.methodLink "FileBuilderModel" (112 : Nat) ({ cls := "FileBuilderModel", name := "byPhony", desc := "(I)Z" } : Jvm.MethodName)) ∈ xTB := x_t4 82 rfl rfl
theorem tw_804 : (Jvm.Cond.instanceMethod ({ cls := "FileBuilderModel", name := "byPhony", desc := "(I)Z" } : Jvm.MethodName)) ∈ xTB := x_t4 84 rfl rfl
theorem tw_805 : (Jvm.Cond.code ({ cls := "FileBuilderModel", name := "byPhony", desc := "(I)Z" } : Jvm.MethodName) prog_8_method_17_code (2 : Nat) (Option.some Jvm.ClassFile.FieldType.boolean)) ∈ xTB := x_t4 85 rfl rfl
theorem tw_806 : (Jvm.Cond.methodLink "FileBuilderModel" (115 : Nat) ({ cls := "FileBuilderModel", name := "put", desc := "(II)V" } : Jvm.MethodName)) ∈ xTB := x_t4 86 rfl rfl
theorem tw_808 : (Jvm.Cond.instanceMethod ({ cls := "FileBuilderModel", name := "put", desc := "(II)V" } : Jvm.MethodName)) ∈ xTB := x_t4 88 rfl rfl
theorem tw_809 : (Jvm.Cond.code ({ cls := "FileBuilderModel", name := "put", desc := "(II)V" } : Jvm.MethodName) prog_8_method_18_code (3 : Nat) (Option.none : Option Jvm.ClassFile.FieldType)) ∈ xTB := x_t4 89 rfl rfl
theorem tw_810 : (Jvm.Cond.methodLink "FileBuilderLaw" (99 : Nat) ({ cls := "FileBuilderModel", name := "remove", desc := "(I)V" } : Jvm.MethodName)) ∈ xTB := x_t4 90 rfl rfl
theorem tw_811 : (Jvm.Cond.instanceMethod ({ cls := "FileBuilderModel", name := "remove", desc := "(I)V" } : Jvm.MethodName)) ∈ xTB := x_t4 91 rfl rfl
theorem tw_812 : (Jvm.Cond.selects "FileBuilderModel" ({ cls := "FileBuilderModel", name := "remove", desc := "(I)V" } : Jvm.MethodName) ({ cls := "FileBuilderModel", name := "remove", desc := "(I)V" } : Jvm.MethodName)) ∈ xTB := x_t4 92 rfl rfl
theorem tw_813 : (Jvm.Cond.code ({ cls := "FileBuilderModel", name := "remove", desc := "(I)V" } : Jvm.MethodName) prog_8_method_20_code (2 : Nat) (Option.none : Option Jvm.ClassFile.FieldType)) ∈ xTB := x_t4 93 rfl rfl
theorem tw_814 : (Jvm.Cond.methodLink "FileBuilderLaw" (102 : Nat) ({ cls := "FileBuilderModel", name := "begin", desc := "(III)I" } : Jvm.MethodName)) ∈ xTB := x_t4 94 rfl rfl
theorem tw_815 : (Jvm.Cond.instanceMethod ({ cls := "FileBuilderModel", name := "begin", desc := "(III)I" } : Jvm.MethodName)) ∈ xTB := x_t4 95 rfl rfl
theorem tw_816 : (Jvm.Cond.selects "FileBuilderModel" ({ cls := "FileBuilderModel", name := "begin", desc := "(III)I" } : Jvm.MethodName) ({ cls := "FileBuilderModel", name := "begin", desc := "(III)I" } : Jvm.MethodName)) ∈ xTB := x_t4 96 rfl rfl
theorem tw_817 : (Jvm.Cond.code ({ cls := "FileBuilderModel", name := "begin", desc := "(III)I" } : Jvm.MethodName) prog_8_method_32_code (9 : Nat) (Option.some Jvm.ClassFile.FieldType.int)) ∈ xTB := x_t4 97 rfl rfl
theorem tw_818 : (Jvm.Cond.constant "FileBuilderModel" (140 : Nat) (16777215 : Int32)) ∈ xTB := x_t4 98 rfl rfl
theorem tw_819 : (Jvm.Cond.methodLink "FileBuilderModel" (141 : Nat) ({ cls := "FileBuilderModel", name := "reach", desc := "(I)I" } : Jvm.MethodName)) ∈ xTB := x_t4 99 rfl rfl
theorem tw_821 : (Jvm.Cond.instanceMethod ({ cls := "FileBuilderModel", name := "reach", desc := "(I)I" } : Jvm.MethodName)) ∈ xTB := x_t4 101 rfl rfl
theorem tw_822 : (Jvm.Cond.code ({ cls := "FileBuilderModel", name := "reach", desc := "(I)I" } : Jvm.MethodName) prog_8_method_30_code (5 : Nat) (Option.some Jvm.ClassFile.FieldType.int)) ∈ xTB := x_t4 102 rfl rfl
theorem tw_823 : (Jvm.Cond.methodLink "FileBuilderModel" (137 : Nat) ({ cls := "FileBuilderModel", name := "makersOf", desc := "(I)I" } : Jvm.MethodName)) ∈ xTB := x_t4 103 rfl rfl
theorem tw_825 : (Jvm.Cond.instanceMethod ({ cls := "FileBuilderModel", name := "makersOf", desc := "(I)I" } : Jvm.MethodName)) ∈ xTB := x_t4 105 rfl rfl
theorem tw_826 : (Jvm.Cond.code ({ cls := "FileBuilderModel", name := "makersOf", desc := "(I)I" } : Jvm.MethodName) prog_8_method_28_code (4 : Nat) (Option.some Jvm.ClassFile.FieldType.int)) ∈ xTB := x_t4 106 rfl rfl
theorem tw_827 : (Jvm.Cond.methodLink "FileBuilderModel" (128 : Nat) ({ cls := "FileBuilderModel", name := "waits", desc := "(I)I" } : Jvm.MethodName)) ∈ xTB := x_t4 107 rfl rfl
theorem tw_829 : (Jvm.Cond.instanceMethod ({ cls := "FileBuilderModel", name := "waits", desc := "(I)I" } : Jvm.MethodName)) ∈ xTB := x_t4 109 rfl rfl
theorem tw_830 : (Jvm.Cond.code ({ cls := "FileBuilderModel", name := "waits", desc := "(I)I" } : Jvm.MethodName) prog_8_method_11_code (2 : Nat) (Option.some Jvm.ClassFile.FieldType.int)) ∈ xTB := x_t4 110 rfl rfl
theorem tw_831 : (Jvm.Cond.methodLink "FileBuilderModel" (86 : Nat) ({ cls := "FileBuilderModel", name := "needs", desc := "(I)I" } : Jvm.MethodName)) ∈ xTB := x_t4 111 rfl rfl
theorem tw_833 : (Jvm.Cond.instanceMethod ({ cls := "FileBuilderModel", name := "needs", desc := "(I)I" } : Jvm.MethodName)) ∈ xTB := x_t4 113 rfl rfl
theorem tw_834 : (Jvm.Cond.code ({ cls := "FileBuilderModel", name := "needs", desc := "(I)I" } : Jvm.MethodName) prog_8_method_10_code (2 : Nat) (Option.some Jvm.ClassFile.FieldType.int)) ∈ xTB := x_t4 114 rfl rfl
theorem tw_835 : (Jvm.Cond.methodLink "FileBuilderModel" (144 : Nat) ({ cls := "FileBuilderModel", name := "lay", desc := "(I)Z" } : Jvm.MethodName)) ∈ xTB := x_t4 115 rfl rfl
theorem tw_837 : (Jvm.Cond.instanceMethod ({ cls := "FileBuilderModel", name := "lay", desc := "(I)Z" } : Jvm.MethodName)) ∈ xTB := x_t4 117 rfl rfl
theorem tw_838 : (Jvm.Cond.code ({ cls := "FileBuilderModel", name := "lay", desc := "(I)Z" } : Jvm.MethodName) prog_8_method_31_code (5 : Nat) (Option.some Jvm.ClassFile.FieldType.boolean)) ∈ xTB := x_t4 118 rfl rfl
theorem tw_839 : (Jvm.Cond.methodLink "FileBuilderModel" (147 : Nat) ({ cls := "FileBuilderModel", name := "refuse", desc := "(I)I" } : Jvm.MethodName)) ∈ xTB := x_t4 119 rfl rfl
theorem tw_841 : (Jvm.Cond.instanceMethod ({ cls := "FileBuilderModel", name := "refuse", desc := "(I)I" } : Jvm.MethodName)) ∈ xTB := x_t4 121 rfl rfl
theorem tw_842 : (Jvm.Cond.code ({ cls := "FileBuilderModel", name := "refuse", desc := "(I)I" } : Jvm.MethodName) prog_8_method_3_code (2 : Nat) (Option.some Jvm.ClassFile.FieldType.int)) ∈ xTB := x_t4 122 rfl rfl
theorem tw_843 : (Jvm.Cond.methodLink "FileBuilderModel" (150 : Nat) ({ cls := "FileBuilderModel", name := "isMissing", desc := "(I)Z" } : Jvm.MethodName)) ∈ xTB := x_t4 123 rfl rfl
theorem tw_845 : (Jvm.Cond.instanceMethod ({ cls := "FileBuilderModel", name := "isMissing", desc := "(I)Z" } : Jvm.MethodName)) ∈ xTB := x_t4 125 rfl rfl
theorem tw_846 : (Jvm.Cond.code ({ cls := "FileBuilderModel", name := "isMissing", desc := "(I)Z" } : Jvm.MethodName) prog_8_method_29_code (4 : Nat) (Option.some Jvm.ClassFile.FieldType.boolean)) ∈ xTB := x_t4 126 rfl rfl
theorem tw_847 : (Jvm.Cond.methodLink "FileBuilderModel" (159 : Nat) ({ cls := "FileBuilderModel", name := "findNewest", desc := "()V" } : Jvm.MethodName)) ∈ xTB := x_t4 127 rfl rfl
theorem tw_849 : (Jvm.Cond.instanceMethod ({ cls := "FileBuilderModel", name := "findNewest", desc := "()V" } : Jvm.MethodName)) ∈ xTB := x_t4 129 rfl rfl
theorem tw_850 : (Jvm.Cond.code ({ cls := "FileBuilderModel", name := "findNewest", desc := "()V" } : Jvm.MethodName) prog_8_method_22_code (2 : Nat) (Option.none : Option Jvm.ClassFile.FieldType)) ∈ xTB := x_t4 130 rfl rfl
theorem tw_851 : (Jvm.Cond.methodLink "FileBuilderModel" (122 : Nat) ({ cls := "FileBuilderModel", name := "newestOf", desc := "(I)I" } : Jvm.MethodName)) ∈ xTB := x_t4 131 rfl rfl
theorem tw_853 : (Jvm.Cond.instanceMethod ({ cls := "FileBuilderModel", name := "newestOf", desc := "(I)I" } : Jvm.MethodName)) ∈ xTB := x_t4 133 rfl rfl
theorem tw_854 : (Jvm.Cond.code ({ cls := "FileBuilderModel", name := "newestOf", desc := "(I)I" } : Jvm.MethodName) prog_8_method_21_code (6 : Nat) (Option.some Jvm.ClassFile.FieldType.int)) ∈ xTB := x_t4 134 rfl rfl
theorem tw_855 : (Jvm.Cond.methodLink "FileBuilderModel" (131 : Nat) ({ cls := "FileBuilderModel", name := "any", desc := "(I)Z" } : Jvm.MethodName)) ∈ xTB := x_t4 135 rfl rfl
theorem tw_857 : (Jvm.Cond.instanceMethod ({ cls := "FileBuilderModel", name := "any", desc := "(I)Z" } : Jvm.MethodName)) ∈ xTB := x_t4 137 rfl rfl
theorem tw_858 : (Jvm.Cond.code ({ cls := "FileBuilderModel", name := "any", desc := "(I)Z" } : Jvm.MethodName) prog_8_method_24_code (4 : Nat) (Option.some Jvm.ClassFile.FieldType.boolean)) ∈ xTB := x_t4 138 rfl rfl
theorem tw_859 : (Jvm.Cond.methodLink "FileBuilderModel" (125 : Nat) ({ cls := "FileBuilderModel", name := "open", desc := "(I)Z" } : Jvm.MethodName)) ∈ xTB := x_t4 139 rfl rfl
theorem tw_861 : (Jvm.Cond.instanceMethod ({ cls := "FileBuilderModel", name := "open", desc := "(I)Z" } : Jvm.MethodName)) ∈ xTB := x_t4 141 rfl rfl
theorem tw_862 : (Jvm.Cond.code ({ cls := "FileBuilderModel", name := "open", desc := "(I)Z" } : Jvm.MethodName) prog_8_method_23_code (2 : Nat) (Option.some Jvm.ClassFile.FieldType.boolean)) ∈ xTB := x_t4 142 rfl rfl
theorem tw_863 : (Jvm.Cond.methodLink "FileBuilderModel" (162 : Nat) ({ cls := "FileBuilderModel", name := "outOfDate", desc := "(I)Z" } : Jvm.MethodName)) ∈ xTB := x_t4 143 rfl rfl
theorem tw_865 : (Jvm.Cond.instanceMethod ({ cls := "FileBuilderModel", name := "outOfDate", desc := "(I)Z" } : Jvm.MethodName)) ∈ xTB := x_t4 145 rfl rfl
theorem tw_866 : (Jvm.Cond.code ({ cls := "FileBuilderModel", name := "outOfDate", desc := "(I)Z" } : Jvm.MethodName) prog_8_method_27_code (4 : Nat) (Option.some Jvm.ClassFile.FieldType.boolean)) ∈ xTB := x_t4 146 rfl rfl
theorem tw_867 : (Jvm.Cond.methodLink "FileBuilderModel" (134 : Nat) ({ cls := "FileBuilderModel", name := "old", desc := "(II)Z" } : Jvm.MethodName)) ∈ xTB := x_t4 147 rfl rfl
theorem tw_869 : (Jvm.Cond.instanceMethod ({ cls := "FileBuilderModel", name := "old", desc := "(II)Z" } : Jvm.MethodName)) ∈ xTB := x_t4 149 rfl rfl
theorem tw_870 : (Jvm.Cond.code ({ cls := "FileBuilderModel", name := "old", desc := "(II)Z" } : Jvm.MethodName) prog_8_method_26_code (5 : Nat) (Option.some Jvm.ClassFile.FieldType.boolean)) ∈ xTB := x_t4 150 rfl rfl
theorem tw_871 : (Jvm.Cond.methodLink "FileBuilderLaw" (106 : Nat) ({ cls := "FileBuilderModel", name := "start", desc := "()I" } : Jvm.MethodName)) ∈ xTB := x_t4 151 rfl rfl
theorem tw_872 : (Jvm.Cond.instanceMethod ({ cls := "FileBuilderModel", name := "start", desc := "()I" } : Jvm.MethodName)) ∈ xTB := x_t4 152 rfl rfl
theorem tw_873 : (Jvm.Cond.selects "FileBuilderModel" ({ cls := "FileBuilderModel", name := "start", desc := "()I" } : Jvm.MethodName) ({ cls := "FileBuilderModel", name := "start", desc := "()I" } : Jvm.MethodName)) ∈ xTB := x_t4 153 rfl rfl
theorem tw_874 : (Jvm.Cond.code ({ cls := "FileBuilderModel", name := "start", desc := "()I" } : Jvm.MethodName) prog_8_method_35_code (2 : Nat) (Option.some Jvm.ClassFile.FieldType.int)) ∈ xTB := x_t4 154 rfl rfl
theorem tw_875 : (Jvm.Cond.methodLink "FileBuilderModel" (176 : Nat) ({ cls := "FileBuilderModel", name := "next", desc := "()I" } : Jvm.MethodName)) ∈ xTB := x_t4 155 rfl rfl
theorem tw_877 : (Jvm.Cond.instanceMethod ({ cls := "FileBuilderModel", name := "next", desc := "()I" } : Jvm.MethodName)) ∈ xTB := x_t4 157 rfl rfl
theorem tw_878 : (Jvm.Cond.code ({ cls := "FileBuilderModel", name := "next", desc := "()I" } : Jvm.MethodName) prog_8_method_34_code (3 : Nat) (Option.some Jvm.ClassFile.FieldType.int)) ∈ xTB := x_t4 158 rfl rfl
theorem tw_879 : (Jvm.Cond.methodLink "FileBuilderModel" (168 : Nat) ({ cls := "FileBuilderModel", name := "count", desc := "(II)I" } : Jvm.MethodName)) ∈ xTB := x_t4 159 rfl rfl
theorem tw_881 : (Jvm.Cond.instanceMethod ({ cls := "FileBuilderModel", name := "count", desc := "(II)I" } : Jvm.MethodName)) ∈ xTB := x_t4 161 rfl rfl
theorem tw_882 : (Jvm.Cond.code ({ cls := "FileBuilderModel", name := "count", desc := "(II)I" } : Jvm.MethodName) prog_8_method_33_code (5 : Nat) (Option.some Jvm.ClassFile.FieldType.int)) ∈ xTB := x_t4 162 rfl rfl
theorem tw_883 : (Jvm.Cond.methodLink "FileBuilderModel" (172 : Nat) ({ cls := "FileBuilderModel", name := "markPhonies", desc := "(Z)V" } : Jvm.MethodName)) ∈ xTB := x_t4 163 rfl rfl
theorem tw_885 : (Jvm.Cond.instanceMethod ({ cls := "FileBuilderModel", name := "markPhonies", desc := "(Z)V" } : Jvm.MethodName)) ∈ xTB := x_t4 165 rfl rfl
theorem tw_886 : (Jvm.Cond.code ({ cls := "FileBuilderModel", name := "markPhonies", desc := "(Z)V" } : Jvm.MethodName) prog_8_method_25_code (4 : Nat) (Option.none : Option Jvm.ClassFile.FieldType)) ∈ xTB := x_t4 166 rfl rfl
theorem tw_887 : (Jvm.Cond.methodLink "FileBuilderLaw" (110 : Nat) ({ cls := "FileBuilderModel", name := "finish", desc := "(IZ)I" } : Jvm.MethodName)) ∈ xTB := x_t4 167 rfl rfl
theorem tw_888 : (Jvm.Cond.instanceMethod ({ cls := "FileBuilderModel", name := "finish", desc := "(IZ)I" } : Jvm.MethodName)) ∈ xTB := x_t4 168 rfl rfl
theorem tw_889 : (Jvm.Cond.selects "FileBuilderModel" ({ cls := "FileBuilderModel", name := "finish", desc := "(IZ)I" } : Jvm.MethodName) ({ cls := "FileBuilderModel", name := "finish", desc := "(IZ)I" } : Jvm.MethodName)) ∈ xTB := x_t4 169 rfl rfl
theorem tw_890 : (Jvm.Cond.code ({ cls := "FileBuilderModel", name := "finish", desc := "(IZ)I" } : Jvm.MethodName) prog_8_method_40_code (4 : Nat) (Option.some Jvm.ClassFile.FieldType.int)) ∈ xTB := x_t4 170 rfl rfl
theorem tw_891 : (Jvm.Cond.methodLink "FileBuilderModel" (194 : Nat) ({ cls := "FileBuilderModel", name := "make", desc := "(I)V" } : Jvm.MethodName)) ∈ xTB := x_t4 171 rfl rfl
theorem tw_893 : (Jvm.Cond.instanceMethod ({ cls := "FileBuilderModel", name := "make", desc := "(I)V" } : Jvm.MethodName)) ∈ xTB := x_t4 173 rfl rfl
theorem tw_894 : (Jvm.Cond.code ({ cls := "FileBuilderModel", name := "make", desc := "(I)V" } : Jvm.MethodName) prog_8_method_36_code (5 : Nat) (Option.none : Option Jvm.ClassFile.FieldType)) ∈ xTB := x_t4 174 rfl rfl
theorem tw_895 : (Jvm.Cond.methodLink "FileBuilderModel" (180 : Nat) ({ cls := "FileBuilderModel", name := "mix", desc := "(II)I" } : Jvm.MethodName)) ∈ xTB := x_t4 175 rfl rfl
theorem tw_896 : (Jvm.Cond.static ({ cls := "FileBuilderModel", name := "mix", desc := "(II)I" } : Jvm.MethodName)) ∈ xTB := x_t4 176 rfl rfl
theorem tw_897 : (Jvm.Cond.code ({ cls := "FileBuilderModel", name := "mix", desc := "(II)I" } : Jvm.MethodName) prog_8_method_6_code (3 : Nat) (Option.some Jvm.ClassFile.FieldType.int)) ∈ xTB := x_t4 177 rfl rfl
theorem tw_898 : (Jvm.Cond.constant "FileBuilderModel" (78 : Nat) (73244475 : Int32)) ∈ xTB := x_t4 178 rfl rfl
theorem tw_899 : (Jvm.Cond.methodLink "FileBuilderModel" (183 : Nat) ({ cls := "FileBuilderModel", name := "record", desc := "(III)V" } : Jvm.MethodName)) ∈ xTB := x_t4 179 rfl rfl
theorem tw_901 : (Jvm.Cond.instanceMethod ({ cls := "FileBuilderModel", name := "record", desc := "(III)V" } : Jvm.MethodName)) ∈ xTB := x_t4 181 rfl rfl
theorem tw_902 : (Jvm.Cond.code ({ cls := "FileBuilderModel", name := "record", desc := "(III)V" } : Jvm.MethodName) prog_8_method_38_code (5 : Nat) (Option.none : Option Jvm.ClassFile.FieldType)) ∈ xTB := x_t4 182 rfl rfl
theorem tw_903 : (Jvm.Cond.methodLink "FileBuilderModel" (190 : Nat) ({ cls := "FileBuilderModel", name := "append", desc := "(I)V" } : Jvm.MethodName)) ∈ xTB := x_t4 183 rfl rfl
theorem tw_905 : (Jvm.Cond.instanceMethod ({ cls := "FileBuilderModel", name := "append", desc := "(I)V" } : Jvm.MethodName)) ∈ xTB := x_t4 185 rfl rfl
theorem tw_906 : (Jvm.Cond.code ({ cls := "FileBuilderModel", name := "append", desc := "(I)V" } : Jvm.MethodName) prog_8_method_37_code (5 : Nat) (Option.none : Option Jvm.ClassFile.FieldType)) ∈ xTB := x_t4 186 rfl rfl
theorem tw_907 : (Jvm.Cond.methodLink "FileBuilderModel" (197 : Nat) ({ cls := "FileBuilderModel", name := "letGo", desc := "()I" } : Jvm.MethodName)) ∈ xTB := x_t4 187 rfl rfl
theorem tw_909 : (Jvm.Cond.instanceMethod ({ cls := "FileBuilderModel", name := "letGo", desc := "()I" } : Jvm.MethodName)) ∈ xTB := x_t4 189 rfl rfl
theorem tw_910 : (Jvm.Cond.code ({ cls := "FileBuilderModel", name := "letGo", desc := "()I" } : Jvm.MethodName) prog_8_method_39_code (4 : Nat) (Option.some Jvm.ClassFile.FieldType.int)) ∈ xTB := x_t4 190 rfl rfl
theorem tw_911 : (Jvm.Cond.methodLink "FileBuilderLaw" (114 : Nat) ({ cls := "FileBuilderModel", name := "state", desc := "()I" } : Jvm.MethodName)) ∈ xTB := x_t4 191 rfl rfl
theorem tw_912 : (Jvm.Cond.instanceMethod ({ cls := "FileBuilderModel", name := "state", desc := "()I" } : Jvm.MethodName)) ∈ xTB := x_t4 192 rfl rfl
theorem tw_913 : (Jvm.Cond.selects "FileBuilderModel" ({ cls := "FileBuilderModel", name := "state", desc := "()I" } : Jvm.MethodName) ({ cls := "FileBuilderModel", name := "state", desc := "()I" } : Jvm.MethodName)) ∈ xTB := x_t4 193 rfl rfl
theorem tw_914 : (Jvm.Cond.code ({ cls := "FileBuilderModel", name := "state", desc := "()I" } : Jvm.MethodName) prog_8_method_41_code (1 : Nat) (Option.some Jvm.ClassFile.FieldType.int)) ∈ xTB := x_t4 194 rfl rfl
theorem tw_915 : (Jvm.Cond.methodLink "FileBuilderLaw" (118 : Nat) ({ cls := "FileBuilderModel", name := "about", desc := "(I)I" } : Jvm.MethodName)) ∈ xTB := x_t4 195 rfl rfl
theorem tw_916 : (Jvm.Cond.instanceMethod ({ cls := "FileBuilderModel", name := "about", desc := "(I)I" } : Jvm.MethodName)) ∈ xTB := x_t4 196 rfl rfl
theorem tw_917 : (Jvm.Cond.selects "FileBuilderModel" ({ cls := "FileBuilderModel", name := "about", desc := "(I)I" } : Jvm.MethodName) ({ cls := "FileBuilderModel", name := "about", desc := "(I)I" } : Jvm.MethodName)) ∈ xTB := x_t4 197 rfl rfl
theorem tw_918 : (Jvm.Cond.code ({ cls := "FileBuilderModel", name := "about", desc := "(I)I" } : Jvm.MethodName) prog_8_method_42_code (2 : Nat) (Option.some Jvm.ClassFile.FieldType.int)) ∈ xTB := x_t4 198 rfl rfl
theorem tw_919 : (Jvm.Cond.methodLink "FileBuilderLaw" (122 : Nat) ({ cls := "FileBuilderModel", name := "file", desc := "(II)I" } : Jvm.MethodName)) ∈ xTB := x_t4 199 rfl rfl
theorem tw_920 : (Jvm.Cond.instanceMethod ({ cls := "FileBuilderModel", name := "file", desc := "(II)I" } : Jvm.MethodName)) ∈ xTB := x_t4 200 rfl rfl
theorem tw_921 : (Jvm.Cond.selects "FileBuilderModel" ({ cls := "FileBuilderModel", name := "file", desc := "(II)I" } : Jvm.MethodName) ({ cls := "FileBuilderModel", name := "file", desc := "(II)I" } : Jvm.MethodName)) ∈ xTB := x_t4 201 rfl rfl
theorem tw_922 : (Jvm.Cond.code ({ cls := "FileBuilderModel", name := "file", desc := "(II)I" } : Jvm.MethodName) prog_8_method_43_code (3 : Nat) (Option.some Jvm.ClassFile.FieldType.int)) ∈ xTB := x_t4 202 rfl rfl
theorem tw_923 : (Jvm.Cond.methodLink "FileBuilderLaw" (125 : Nat) ({ cls := "FileBuilderModel", name := "commandOf", desc := "(I)I" } : Jvm.MethodName)) ∈ xTB := x_t4 203 rfl rfl
theorem tw_924 : (Jvm.Cond.instanceMethod ({ cls := "FileBuilderModel", name := "commandOf", desc := "(I)I" } : Jvm.MethodName)) ∈ xTB := x_t4 204 rfl rfl
theorem tw_925 : (Jvm.Cond.selects "FileBuilderModel" ({ cls := "FileBuilderModel", name := "commandOf", desc := "(I)I" } : Jvm.MethodName) ({ cls := "FileBuilderModel", name := "commandOf", desc := "(I)I" } : Jvm.MethodName)) ∈ xTB := x_t4 205 rfl rfl
theorem tw_926 : (Jvm.Cond.code ({ cls := "FileBuilderModel", name := "commandOf", desc := "(I)I" } : Jvm.MethodName) prog_8_method_44_code (2 : Nat) (Option.some Jvm.ClassFile.FieldType.int)) ∈ xTB := x_t4 206 rfl rfl
theorem tw_927 : (Jvm.Cond.methodLink "FileBuilderLaw" (129 : Nat) ({ cls := "FileBuilderModel", name := "log", desc := "(I)I" } : Jvm.MethodName)) ∈ xTB := x_t4 207 rfl rfl
theorem tw_928 : (Jvm.Cond.instanceMethod ({ cls := "FileBuilderModel", name := "log", desc := "(I)I" } : Jvm.MethodName)) ∈ xTB := x_t4 208 rfl rfl
theorem tw_929 : (Jvm.Cond.selects "FileBuilderModel" ({ cls := "FileBuilderModel", name := "log", desc := "(I)I" } : Jvm.MethodName) ({ cls := "FileBuilderModel", name := "log", desc := "(I)I" } : Jvm.MethodName)) ∈ xTB := x_t4 209 rfl rfl
theorem tw_930 : (Jvm.Cond.code ({ cls := "FileBuilderModel", name := "log", desc := "(I)I" } : Jvm.MethodName) prog_8_method_45_code (2 : Nat) (Option.some Jvm.ClassFile.FieldType.int)) ∈ xTB := x_t4 210 rfl rfl
theorem tw_931 : (Jvm.Cond.methodLink "FileBuilderLaw" (132 : Nat) ({ cls := "FileBuilderModel", name := "cut", desc := "(I)I" } : Jvm.MethodName)) ∈ xTB := x_t4 211 rfl rfl
theorem tw_932 : (Jvm.Cond.instanceMethod ({ cls := "FileBuilderModel", name := "cut", desc := "(I)I" } : Jvm.MethodName)) ∈ xTB := x_t4 212 rfl rfl
theorem tw_933 : (Jvm.Cond.selects "FileBuilderModel" ({ cls := "FileBuilderModel", name := "cut", desc := "(I)I" } : Jvm.MethodName) ({ cls := "FileBuilderModel", name := "cut", desc := "(I)I" } : Jvm.MethodName)) ∈ xTB := x_t4 213 rfl rfl
theorem tw_934 : (Jvm.Cond.code ({ cls := "FileBuilderModel", name := "cut", desc := "(I)I" } : Jvm.MethodName) prog_8_method_47_code (5 : Nat) (Option.some Jvm.ClassFile.FieldType.int)) ∈ xTB := x_t4 214 rfl rfl
theorem tw_935 : (Jvm.Cond.methodLink "FileBuilderModel" (200 : Nat) ({ cls := "FileBuilderModel", name := "right", desc := "(I)Z" } : Jvm.MethodName)) ∈ xTB := x_t4 215 rfl rfl
theorem tw_937 : (Jvm.Cond.instanceMethod ({ cls := "FileBuilderModel", name := "right", desc := "(I)Z" } : Jvm.MethodName)) ∈ xTB := x_t4 217 rfl rfl
theorem tw_938 : (Jvm.Cond.code ({ cls := "FileBuilderModel", name := "right", desc := "(I)Z" } : Jvm.MethodName) prog_8_method_46_code (4 : Nat) (Option.some Jvm.ClassFile.FieldType.boolean)) ∈ xTB := x_t4 218 rfl rfl
theorem tw_939 : (Jvm.Cond.methodLink "FileBuilderLaw" (137 : Nat) ({ cls := "FileBuilderModel", name := "spoil", desc := "(II)Z" } : Jvm.MethodName)) ∈ xTB := x_t4 219 rfl rfl
theorem tw_940 : (Jvm.Cond.instanceMethod ({ cls := "FileBuilderModel", name := "spoil", desc := "(II)Z" } : Jvm.MethodName)) ∈ xTB := x_t4 220 rfl rfl
theorem tw_941 : (Jvm.Cond.selects "FileBuilderModel" ({ cls := "FileBuilderModel", name := "spoil", desc := "(II)Z" } : Jvm.MethodName) ({ cls := "FileBuilderModel", name := "spoil", desc := "(II)Z" } : Jvm.MethodName)) ∈ xTB := x_t4 221 rfl rfl
theorem tw_942 : (Jvm.Cond.code ({ cls := "FileBuilderModel", name := "spoil", desc := "(II)Z" } : Jvm.MethodName) prog_8_method_48_code (3 : Nat) (Option.some Jvm.ClassFile.FieldType.boolean)) ∈ xTB := x_t4 222 rfl rfl
theorem tw_943 : (Jvm.Cond.arrayClass Jvm.ClassFile.FieldType.long) ∈ xTB := x_t4 223 rfl rfl
theorem tw_944 : (Jvm.Cond.sameMethod "java/lang/Throwable" "java/lang/Throwable" "fillInStackTrace" "(I)Ljava/lang/Throwable;") ∈ xTB := x_t4 224 rfl rfl
