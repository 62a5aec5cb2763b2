section
-- ===== PART A: goes FIRST, ahead of the names: the tables' words, and 'selects' of the private methods out of them =====
/-- a private method of a class that the tables say can be made, by its rows of tables_1 -/
def lw_okq (q : MethodName × Nat) : Prop := (q.1.cls ≠ "java/lang/invoke/MethodHandle" ∧ q.1.cls ≠ "java/lang/invoke/VarHandle") ∧ Cond.instantiable q.1.cls q.2 ∈ tables_1 ∧ Cond.privateMethod q.1 ∈ tables_1 ∧ Cond.instanceMethod q.1 ∈ tables_1
theorem lw_p0 : lw_okq (⟨"GesturePidgin$Village", "passYear", "()V"⟩, 8) := ⟨⟨by decide +kernel, by decide +kernel⟩, List.mem_of_getElem? (i := 17) (by decide +kernel), List.mem_of_getElem? (i := 278) (by decide +kernel), List.mem_of_getElem? (i := 279) (by decide +kernel)⟩
theorem lw_p1 : lw_okq (⟨"GesturePidgin$Village", "teacherFor", "(I)LGesturePidgin$Speaker;"⟩, 8) := ⟨⟨by decide +kernel, by decide +kernel⟩, List.mem_of_getElem? (i := 17) (by decide +kernel), List.mem_of_getElem? (i := 282) (by decide +kernel), List.mem_of_getElem? (i := 283) (by decide +kernel)⟩
theorem lw_p2 : lw_okq (⟨"GesturePidgin$Village", "countUsers", "(I)V"⟩, 8) := ⟨⟨by decide +kernel, by decide +kernel⟩, List.mem_of_getElem? (i := 17) (by decide +kernel), List.mem_of_getElem? (i := 389) (by decide +kernel), List.mem_of_getElem? (i := 390) (by decide +kernel)⟩
theorem lw_p3 : lw_okq (⟨"GesturePidgin$Village", "sumOfWeights", "()I"⟩, 8) := ⟨⟨by decide +kernel, by decide +kernel⟩, List.mem_of_getElem? (i := 17) (by decide +kernel), List.mem_of_getElem? (i := 403) (by decide +kernel), List.mem_of_getElem? (i := 404) (by decide +kernel)⟩
def lw_privs_1 : List (MethodName × Nat) := [(⟨"GesturePidgin$Village", "passYear", "()V"⟩, 8), (⟨"GesturePidgin$Village", "teacherFor", "(I)LGesturePidgin$Speaker;"⟩, 8), (⟨"GesturePidgin$Village", "countUsers", "(I)V"⟩, 8), (⟨"GesturePidgin$Village", "sumOfWeights", "()I"⟩, 8)]
theorem lw_r1 : ∀ q ∈ lw_privs_1, lw_okq q := List.forall_mem_cons.mpr ⟨lw_p0, List.forall_mem_cons.mpr ⟨lw_p1, List.forall_mem_cons.mpr ⟨lw_p2, List.forall_mem_cons.mpr ⟨lw_p3, fun _ h => absurd h List.not_mem_nil⟩⟩⟩⟩
def lw_privs : List (MethodName × Nat) := lw_privs_1
def lw_tbl : List Cond := k2_sels lw_privs ++ tables_1
theorem lw_privs_ok : ∀ q ∈ lw_privs, lw_okq q := lw_r1
end
section
def RX0 : String := "GesturePidgin$HabitText"
def TX0 : u_T := fun k => match k with
  | 0 => ("GesturePidgin$HabitText", "characters", "[C", true)
  | _ => ("GesturePidgin$HabitText", "length", "I", false)
def tyX0 : Nat → FieldType := fun k => match k with
  | 0 => .array .char
  | _ => .int
abbrev wsX00 : List Cond := u_ws RX0 TX0 2
theorem nmX0 : ∀ a, a < 2 → ∀ b, b < 2 → a ≠ b → (TX0 a).2.1 ≠ (TX0 b).2.1 := by decide +kernel
theorem tyX0_ok : ∀ k, k < 2 → parseFieldDescriptor (TX0 k).2.2.1 = some (tyX0 k) := by decide +kernel
abbrev cX0_init : ByteArray := prog_2_method_1_code
def yX0_init : MethodName := ⟨RX0, "<init>", "()V"⟩
def RX1 : String := "GesturePidgin$SavedStates"
def TX1 : u_T := fun k => match k with
  | 0 => ("GesturePidgin$SavedStates", "states", "[LGesturePidgin$Village;", true)
  | 1 => ("GesturePidgin$SavedStates", "next", "I", false)
  | _ => ("GesturePidgin$SavedStates", "size", "I", false)
def tyX1 : Nat → FieldType := fun k => match k with
  | 0 => .array (.object "GesturePidgin$Village")
  | 1 => .int
  | _ => .int
abbrev wsX10 : List Cond := u_ws RX1 TX1 3
theorem nmX1 : ∀ a, a < 3 → ∀ b, b < 3 → a ≠ b → (TX1 a).2.1 ≠ (TX1 b).2.1 := by decide +kernel
theorem tyX1_ok : ∀ k, k < 3 → parseFieldDescriptor (TX1 k).2.2.1 = some (tyX1 k) := by decide +kernel
abbrev cX1_init : ByteArray := prog_3_method_1_code
def yX1_init : MethodName := ⟨RX1, "<init>", "()V"⟩
abbrev cX1_keep : ByteArray := prog_3_method_2_code
def yX1_keep : MethodName := ⟨RX1, "keep", "(LGesturePidgin$Village;)V"⟩
def RX2 : String := "GesturePidgin$Speaker"
def TX2 : u_T := fun k => match k with
  | 0 => ("GesturePidgin$Speaker", "weights", "[I", true)
  | 1 => ("GesturePidgin$Speaker", "present", "Z", false)
  | 2 => ("GesturePidgin$Speaker", "years", "I", false)
  | _ => ("GesturePidgin$Speaker", "meetings", "I", false)
def tyX2 : Nat → FieldType := fun k => match k with
  | 0 => .array .int
  | 1 => .boolean
  | 2 => .int
  | _ => .int
abbrev wsX20 : List Cond := u_ws RX2 TX2 4
theorem nmX2 : ∀ a, a < 4 → ∀ b, b < 4 → a ≠ b → (TX2 a).2.1 ≠ (TX2 b).2.1 := by decide +kernel
theorem tyX2_ok : ∀ k, k < 4 → parseFieldDescriptor (TX2 k).2.2.1 = some (tyX2 k) := by decide +kernel
abbrev cX2_init : ByteArray := prog_4_method_1_code
def yX2_init : MethodName := ⟨RX2, "<init>", "()V"⟩
abbrev cX2_copyFrom : ByteArray := prog_4_method_2_code
def yX2_copyFrom : MethodName := ⟨RX2, "copyFrom", "(LGesturePidgin$Speaker;)V"⟩
abbrev cX2_arrive : ByteArray := prog_4_method_3_code
def yX2_arrive : MethodName := ⟨RX2, "arrive", "()V"⟩
abbrev cX2_leave : ByteArray := prog_4_method_4_code
def yX2_leave : MethodName := ⟨RX2, "leave", "()V"⟩
abbrev cX2_beginLife : ByteArray := prog_4_method_5_code
def yX2_beginLife : MethodName := ⟨RX2, "beginLife", "(LGesturePidgin$Speaker;I)V"⟩
abbrev cX2_weightOf : ByteArray := prog_4_method_6_code
def yX2_weightOf : MethodName := ⟨RX2, "weightOf", "(II)I"⟩
abbrev cX2_putWeight : ByteArray := prog_4_method_7_code
def yX2_putWeight : MethodName := ⟨RX2, "putWeight", "(III)V"⟩
abbrev cX2_changeWeight : ByteArray := prog_4_method_8_code
def yX2_changeWeight : MethodName := ⟨RX2, "changeWeight", "(III)V"⟩
abbrev cX2_wordFor : ByteArray := prog_4_method_9_code
def yX2_wordFor : MethodName := ⟨RX2, "wordFor", "(I)I"⟩
abbrev cX2_meaningOf : ByteArray := prog_4_method_10_code
def yX2_meaningOf : MethodName := ⟨RX2, "meaningOf", "(I)I"⟩
abbrev cX2_learnsWith : ByteArray := prog_4_method_11_code
def yX2_learnsWith : MethodName := ⟨RX2, "learnsWith", "(I)I"⟩
abbrev cX2_prefer : ByteArray := prog_4_method_12_code
def yX2_prefer : MethodName := ⟨RX2, "prefer", "(IIII)V"⟩
abbrev cX2_forgetOtherMeanings : ByteArray := prog_4_method_13_code
def yX2_forgetOtherMeanings : MethodName := ⟨RX2, "forgetOtherMeanings", "(III)V"⟩
abbrev cX2_sumOfWeights : ByteArray := prog_4_method_14_code
def yX2_sumOfWeights : MethodName := ⟨RX2, "sumOfWeights", "()I"⟩
abbrev cX2_countWords : ByteArray := prog_4_method_15_code
def yX2_countWords : MethodName := ⟨RX2, "countWords", "()I"⟩
abbrev cX2_countConfusions : ByteArray := prog_4_method_16_code
def yX2_countConfusions : MethodName := ⟨RX2, "countConfusions", "()I"⟩
def RX3 : String := "GesturePidgin$Village"
def TX3 : u_T := fun k => match k with
  | 0 => ("GesturePidgin$Village", "speakers", "[LGesturePidgin$Speaker;", true)
  | 1 => ("GesturePidgin$Village", "settings", "[I", true)
  | 2 => ("GesturePidgin$Village", "users", "[I", true)
  | 3 => ("GesturePidgin$Village", "seed", "I", false)
  | 4 => ("GesturePidgin$Village", "meetings", "I", false)
  | 5 => ("GesturePidgin$Village", "successes", "I", false)
  | 6 => ("GesturePidgin$Village", "children", "I", false)
  | _ => ("GesturePidgin$Village", "years", "I", false)
def tyX3 : Nat → FieldType := fun k => match k with
  | 0 => .array (.object "GesturePidgin$Speaker")
  | 1 => .array .int
  | 2 => .array .int
  | 3 => .int
  | 4 => .int
  | 5 => .int
  | 6 => .int
  | _ => .int
abbrev wsX30 : List Cond := u_ws RX3 TX3 8
theorem nmX3 : ∀ a, a < 8 → ∀ b, b < 8 → a ≠ b → (TX3 a).2.1 ≠ (TX3 b).2.1 := by decide +kernel
theorem tyX3_ok : ∀ k, k < 8 → parseFieldDescriptor (TX3 k).2.2.1 = some (tyX3 k) := by decide +kernel
abbrev cX3_init : ByteArray := prog_5_method_1_code
def yX3_init : MethodName := ⟨RX3, "<init>", "()V"⟩
abbrev cX3_copyFrom : ByteArray := prog_5_method_2_code
def yX3_copyFrom : MethodName := ⟨RX3, "copyFrom", "(LGesturePidgin$Village;)V"⟩
abbrev cX3_find : ByteArray := prog_5_method_3_code
def yX3_find : MethodName := ⟨RX3, "find", "(I)LGesturePidgin$Speaker;"⟩
abbrev cX3_lowestFree : ByteArray := prog_5_method_4_code
def yX3_lowestFree : MethodName := ⟨RX3, "lowestFree", "()I"⟩
abbrev cX3_welcome : ByteArray := prog_5_method_5_code
def yX3_welcome : MethodName := ⟨RX3, "welcome", "(I)V"⟩
abbrev cX3_settingAt : ByteArray := prog_5_method_6_code
def yX3_settingAt : MethodName := ⟨RX3, "settingAt", "(I)I"⟩
abbrev cX3_putSetting : ByteArray := prog_5_method_7_code
def yX3_putSetting : MethodName := ⟨RX3, "putSetting", "(II)V"⟩
abbrev cX3_draw : ByteArray := prog_5_method_8_code
def yX3_draw : MethodName := ⟨RX3, "draw", "(I)I"⟩
abbrev cX3_countSpeakers : ByteArray := prog_5_method_9_code
def yX3_countSpeakers : MethodName := ⟨RX3, "countSpeakers", "()I"⟩
abbrev cX3_holdMeeting : ByteArray := prog_5_method_11_code
def yX3_holdMeeting : MethodName := ⟨RX3, "holdMeeting", "(LGesturePidgin$Speaker;LGesturePidgin$Speaker;I)I"⟩
abbrev cX3_passYears : ByteArray := prog_5_method_13_code
def yX3_passYears : MethodName := ⟨RX3, "passYears", "(I)I"⟩
abbrev cX3_passYear : ByteArray := prog_5_method_14_code
def yX3_passYear : MethodName := ⟨RX3, "passYear", "()V"⟩
abbrev cX3_teacherFor : ByteArray := prog_5_method_15_code
def yX3_teacherFor : MethodName := ⟨RX3, "teacherFor", "(I)LGesturePidgin$Speaker;"⟩
abbrev cX3_numberOf : ByteArray := prog_5_method_16_code
def yX3_numberOf : MethodName := ⟨RX3, "numberOf", "(I)I"⟩
abbrev cX3_numberOfSpeaker : ByteArray := prog_5_method_17_code
def yX3_numberOfSpeaker : MethodName := ⟨RX3, "numberOfSpeaker", "(LGesturePidgin$Speaker;I)I"⟩
abbrev cX3_sumOfWeights : ByteArray := prog_5_method_18_code
def yX3_sumOfWeights : MethodName := ⟨RX3, "sumOfWeights", "()I"⟩
abbrev cX3_commonWord : ByteArray := prog_5_method_19_code
def yX3_commonWord : MethodName := ⟨RX3, "commonWord", "(I)I"⟩
abbrev cX3_countUsers : ByteArray := prog_5_method_20_code
def yX3_countUsers : MethodName := ⟨RX3, "countUsers", "(I)V"⟩
def RX4 : String := "GesturePidgin"
def TX4 : u_T := fun k => match k with
  | 0 => ("GesturePidgin", "village", "LGesturePidgin$Village;", true)
  | 1 => ("GesturePidgin", "trial", "LGesturePidgin$Village;", true)
  | 2 => ("GesturePidgin", "saved", "LGesturePidgin$SavedStates;", true)
  | _ => ("GesturePidgin", "text", "LGesturePidgin$HabitText;", true)
def tyX4 : Nat → FieldType := fun k => match k with
  | 0 => .object "GesturePidgin$Village"
  | 1 => .object "GesturePidgin$Village"
  | 2 => .object "GesturePidgin$SavedStates"
  | _ => .object "GesturePidgin$HabitText"
abbrev wsX40 : List Cond := u_ws RX4 TX4 4
theorem nmX4 : ∀ a, a < 4 → ∀ b, b < 4 → a ≠ b → (TX4 a).2.1 ≠ (TX4 b).2.1 := by decide +kernel
theorem tyX4_ok : ∀ k, k < 4 → parseFieldDescriptor (TX4 k).2.2.1 = some (tyX4 k) := by decide +kernel
abbrev cX4_init : ByteArray := prog_1_method_1_code
def yX4_init : MethodName := ⟨RX4, "<init>", "()V"⟩
abbrev cX4_come : ByteArray := prog_1_method_2_code
def yX4_come : MethodName := ⟨RX4, "come", "()I"⟩
abbrev cX4_go : ByteArray := prog_1_method_3_code
def yX4_go : MethodName := ⟨RX4, "go", "(I)I"⟩
abbrev cX4_set : ByteArray := prog_1_method_4_code
def yX4_set : MethodName := ⟨RX4, "set", "(II)I"⟩
abbrev cX4_setSeed : ByteArray := prog_1_method_5_code
def yX4_setSeed : MethodName := ⟨RX4, "setSeed", "(I)I"⟩
abbrev cX4_teach : ByteArray := prog_1_method_6_code
def yX4_teach : MethodName := ⟨RX4, "teach", "(IIII)I"⟩
abbrev cX4_setAge : ByteArray := prog_1_method_7_code
def yX4_setAge : MethodName := ⟨RX4, "setAge", "(II)I"⟩
abbrev cX4_meet : ByteArray := prog_1_method_8_code
def yX4_meet : MethodName := ⟨RX4, "meet", "(III)I"⟩
abbrev cX4_age : ByteArray := prog_1_method_10_code
def yX4_age : MethodName := ⟨RX4, "age", "(I)I"⟩
abbrev cX4_count : ByteArray := prog_1_method_11_code
def yX4_count : MethodName := ⟨RX4, "count", "(I)I"⟩
abbrev cX4_setting : ByteArray := prog_1_method_12_code
def yX4_setting : MethodName := ⟨RX4, "setting", "(I)I"⟩
abbrev cX4_weight : ByteArray := prog_1_method_13_code
def yX4_weight : MethodName := ⟨RX4, "weight", "(III)I"⟩
abbrev cX4_speaker : ByteArray := prog_1_method_14_code
def yX4_speaker : MethodName := ⟨RX4, "speaker", "(II)I"⟩
abbrev cX4_wordOf : ByteArray := prog_1_method_15_code
def yX4_wordOf : MethodName := ⟨RX4, "wordOf", "(II)I"⟩
abbrev cX4_hears : ByteArray := prog_1_method_16_code
def yX4_hears : MethodName := ⟨RX4, "hears", "(II)I"⟩
abbrev cX4_agreement : ByteArray := prog_1_method_18_code
def yX4_agreement : MethodName := ⟨RX4, "agreement", "(III)I"⟩
abbrev cX4_understanding : ByteArray := prog_1_method_19_code
def yX4_understanding : MethodName := ⟨RX4, "understanding", "(II)I"⟩
abbrev cX4_common : ByteArray := prog_1_method_20_code
def yX4_common : MethodName := ⟨RX4, "common", "(I)I"⟩
abbrev cX4_ifMet : ByteArray := prog_1_method_21_code
def yX4_ifMet : MethodName := ⟨RX4, "ifMet", "(IIII)I"⟩
abbrev cX4_bestSayer : ByteArray := prog_1_method_23_code
def yX4_bestSayer : MethodName := ⟨RX4, "bestSayer", "(I)I"⟩
abbrev cX4_agreementByMeanings : ByteArray := prog_1_method_34_code
def yX4_agreementByMeanings : MethodName := ⟨RX4, "agreementByMeanings", "(LGesturePidgin$Speaker;LGesturePidgin$Speaker;)I"⟩
abbrev cX4_agreementByWords : ByteArray := prog_1_method_35_code
def yX4_agreementByWords : MethodName := ⟨RX4, "agreementByWords", "(LGesturePidgin$Speaker;LGesturePidgin$Speaker;)I"⟩
abbrev cX4_understandingOf : ByteArray := prog_1_method_36_code
def yX4_understandingOf : MethodName := ⟨RX4, "understandingOf", "(LGesturePidgin$Speaker;LGesturePidgin$Speaker;)I"⟩
abbrev cX4_isBelow : ByteArray := prog_1_method_37_code
def yX4_isBelow : MethodName := ⟨RX4, "isBelow", "(II)Z"⟩
abbrev cX4_isMeaning : ByteArray := prog_1_method_38_code
def yX4_isMeaning : MethodName := ⟨RX4, "isMeaning", "(I)Z"⟩
abbrev cX4_isWord : ByteArray := prog_1_method_39_code
def yX4_isWord : MethodName := ⟨RX4, "isWord", "(I)Z"⟩
abbrev cX4_leastOf : ByteArray := prog_1_method_40_code
def yX4_leastOf : MethodName := ⟨RX4, "leastOf", "(I)I"⟩
abbrev cX4_mostOf : ByteArray := prog_1_method_41_code
def yX4_mostOf : MethodName := ⟨RX4, "mostOf", "(I)I"⟩
def RX5 : String := "GesturePidginModel"
def TX5 : u_T := fun k => match k with
  | _ => ("", "", "", false)
def tyX5 : Nat → FieldType := fun k => match k with
  | _ => .int
abbrev wsX50 : List Cond := u_ws RX5 TX5 0
theorem nmX5 : ∀ a, a < 0 → ∀ b, b < 0 → a ≠ b → (TX5 a).2.1 ≠ (TX5 b).2.1 := by decide +kernel
theorem tyX5_ok : ∀ k, k < 0 → parseFieldDescriptor (TX5 k).2.2.1 = some (tyX5 k) := by decide +kernel
def RJ9 : String := "java/lang/Math"
def TJ9 : u_T := fun k => match k with
  | _ => ("", "", "", false)
def tyJ9 : Nat → FieldType := fun k => match k with
  | _ => .int
abbrev wsJ90 : List Cond := u_ws RJ9 TJ9 0
theorem nmJ9 : ∀ a, a < 0 → ∀ b, b < 0 → a ≠ b → (TJ9 a).2.1 ≠ (TJ9 b).2.1 := by decide +kernel
theorem tyJ9_ok : ∀ k, k < 0 → parseFieldDescriptor (TJ9 k).2.2.1 = some (tyJ9 k) := by decide +kernel
abbrev cJ9_max_7cf53 : ByteArray := prog_8_method_65_code
def yJ9_max_7cf53 : MethodName := ⟨RJ9, "max", "(II)I"⟩
abbrev cJ9_min_7cf53 : ByteArray := prog_8_method_69_code
def yJ9_min_7cf53 : MethodName := ⟨RJ9, "min", "(II)I"⟩
def RJ10 : String := "java/lang/System"
def TJ10 : u_T := fun k => match k with
  | _ => ("", "", "", false)
def tyJ10 : Nat → FieldType := fun k => match k with
  | _ => .int
abbrev wsJ100 : List Cond := u_ws RJ10 TJ10 0
theorem nmJ10 : ∀ a, a < 0 → ∀ b, b < 0 → a ≠ b → (TJ10 a).2.1 ≠ (TJ10 b).2.1 := by decide +kernel
theorem tyJ10_ok : ∀ k, k < 0 → parseFieldDescriptor (TJ10 k).2.2.1 = some (tyJ10 k) := by decide +kernel
def RL : String := "GesturePidginLaw"
abbrev cL_cell : ByteArray := method_2_code
def yL_cell : MethodName := ⟨RL, "cell", "([II)I"⟩
abbrev cL_low : ByteArray := method_3_code
def yL_low : MethodName := ⟨RL, "low", "(II)I"⟩
abbrev cL_row : ByteArray := method_4_code
def yL_row : MethodName := ⟨RL, "row", "(I[I[I[I[I)[I"⟩
abbrev cL_draw : ByteArray := method_5_code
def yL_draw : MethodName := ⟨RL, "draw", "(I[I)I"⟩
abbrev cL_word : ByteArray := method_6_code
def yL_word : MethodName := ⟨RL, "word", "(I[I)I"⟩
abbrev cL_heard : ByteArray := method_7_code
def yL_heard : MethodName := ⟨RL, "heard", "(I[I)I"⟩
abbrev cL_add : ByteArray := method_8_code
def yL_add : MethodName := ⟨RL, "add", "(III[I)V"⟩
abbrev cL_learns : ByteArray := method_9_code
def yL_learns : MethodName := ⟨RL, "learns", "(I[I)I"⟩
abbrev cL_meet : ByteArray := method_10_code
def yL_meet : MethodName := ⟨RL, "meet", "(III[I[I[I)I"⟩
abbrev cL_same : ByteArray := method_11_code
def yL_same : MethodName := ⟨RL, "same", "(LGesturePidgin;[I[I[I[I[I)Z"⟩
abbrev cL_law : ByteArray := code
def yL_law : MethodName := ⟨RL, "law", "([I)Z"⟩
abbrev vwCl : List vw_C := [(RX0, TX0, 2), (RX1, TX1, 3), (RX2, TX2, 4), (RX3, TX3, 8), (RX4, TX4, 4)]
end
section
theorem dX0_init_0 : decode cX0_init 0 = .ok (.aload_n 0, 1) := by decide +kernel
theorem dX0_init_1 : decode cX0_init 1 = .ok (.invokespecial 3, 3) := by decide +kernel
theorem dX0_init_4 : decode cX0_init 4 = .ok (.aload_n 0, 1) := by decide +kernel
theorem dX0_init_5 : decode cX0_init 5 = .ok (.bipush 80, 2) := by decide +kernel
theorem dX0_init_7 : decode cX0_init 7 = .ok (.newarray .char, 2) := by decide +kernel
theorem dX0_init_9 : decode cX0_init 9 = .ok (.putfield 9, 3) := by decide +kernel
theorem dX0_init_12 : decode cX0_init 12 = .ok (.return_, 1) := by decide +kernel
theorem dX1_init_0 : decode cX1_init 0 = .ok (.aload_n 0, 1) := by decide +kernel
theorem dX1_init_1 : decode cX1_init 1 = .ok (.invokespecial 3, 3) := by decide +kernel
theorem dX1_init_4 : decode cX1_init 4 = .ok (.aload_n 0, 1) := by decide +kernel
theorem dX1_init_5 : decode cX1_init 5 = .ok (.bipush 6, 2) := by decide +kernel
theorem dX1_init_7 : decode cX1_init 7 = .ok (.anewarray 9, 3) := by decide +kernel
theorem dX1_init_10 : decode cX1_init 10 = .ok (.putfield 11, 3) := by decide +kernel
theorem dX1_init_13 : decode cX1_init 13 = .ok (.iconst 0, 1) := by decide +kernel
theorem dX1_init_14 : decode cX1_init 14 = .ok (.istore_n 1, 1) := by decide +kernel
theorem dX1_init_15 : decode cX1_init 15 = .ok (.iload_n 1, 1) := by decide +kernel
theorem dX1_init_16 : decode cX1_init 16 = .ok (.bipush 6, 2) := by decide +kernel
theorem dX1_init_18 : decode cX1_init 18 = .ok (.if_icmp .ge 22, 3) := by decide +kernel
theorem dX1_init_21 : decode cX1_init 21 = .ok (.aload_n 0, 1) := by decide +kernel
theorem dX1_init_22 : decode cX1_init 22 = .ok (.getfield 11, 3) := by decide +kernel
theorem dX1_init_25 : decode cX1_init 25 = .ok (.iload_n 1, 1) := by decide +kernel
theorem dX1_init_26 : decode cX1_init 26 = .ok (.new 9, 3) := by decide +kernel
theorem dX1_init_29 : decode cX1_init 29 = .ok (.dup, 1) := by decide +kernel
theorem dX1_init_30 : decode cX1_init 30 = .ok (.invokespecial 17, 3) := by decide +kernel
theorem dX1_init_33 : decode cX1_init 33 = .ok (.aastore, 1) := by decide +kernel
theorem dX1_init_34 : decode cX1_init 34 = .ok (.iinc 1 1, 3) := by decide +kernel
theorem dX1_init_37 : decode cX1_init 37 = .ok (.goto (-22), 3) := by decide +kernel
theorem dX1_init_40 : decode cX1_init 40 = .ok (.return_, 1) := by decide +kernel
theorem dX1_keep_0 : decode cX1_keep 0 = .ok (.aload_n 0, 1) := by decide +kernel
theorem dX1_keep_1 : decode cX1_keep 1 = .ok (.getfield 18, 3) := by decide +kernel
theorem dX1_keep_4 : decode cX1_keep 4 = .ok (.bipush 6, 2) := by decide +kernel
theorem dX1_keep_6 : decode cX1_keep 6 = .ok (.invokestatic 22, 3) := by decide +kernel
theorem dX1_keep_9 : decode cX1_keep 9 = .ok (.ifCond .ne 4, 3) := by decide +kernel
theorem dX1_keep_12 : decode cX1_keep 12 = .ok (.return_, 1) := by decide +kernel
theorem dX1_keep_13 : decode cX1_keep 13 = .ok (.aload_n 0, 1) := by decide +kernel
theorem dX1_keep_14 : decode cX1_keep 14 = .ok (.getfield 11, 3) := by decide +kernel
theorem dX1_keep_17 : decode cX1_keep 17 = .ok (.aload_n 0, 1) := by decide +kernel
theorem dX1_keep_18 : decode cX1_keep 18 = .ok (.getfield 18, 3) := by decide +kernel
theorem dX1_keep_21 : decode cX1_keep 21 = .ok (.aaload, 1) := by decide +kernel
theorem dX1_keep_22 : decode cX1_keep 22 = .ok (.aload_n 1, 1) := by decide +kernel
theorem dX1_keep_23 : decode cX1_keep 23 = .ok (.invokevirtual 26, 3) := by decide +kernel
theorem dX1_keep_26 : decode cX1_keep 26 = .ok (.aload_n 0, 1) := by decide +kernel
theorem dX1_keep_27 : decode cX1_keep 27 = .ok (.aload_n 0, 1) := by decide +kernel
theorem dX1_keep_28 : decode cX1_keep 28 = .ok (.getfield 18, 3) := by decide +kernel
theorem dX1_keep_31 : decode cX1_keep 31 = .ok (.iconst 1, 1) := by decide +kernel
theorem dX1_keep_32 : decode cX1_keep 32 = .ok (.iadd, 1) := by decide +kernel
theorem dX1_keep_33 : decode cX1_keep 33 = .ok (.bipush 6, 2) := by decide +kernel
theorem dX1_keep_35 : decode cX1_keep 35 = .ok (.irem, 1) := by decide +kernel
theorem dX1_keep_36 : decode cX1_keep 36 = .ok (.putfield 18, 3) := by decide +kernel
theorem dX1_keep_39 : decode cX1_keep 39 = .ok (.aload_n 0, 1) := by decide +kernel
theorem dX1_keep_40 : decode cX1_keep 40 = .ok (.bipush 6, 2) := by decide +kernel
theorem dX1_keep_42 : decode cX1_keep 42 = .ok (.aload_n 0, 1) := by decide +kernel
theorem dX1_keep_43 : decode cX1_keep 43 = .ok (.getfield 30, 3) := by decide +kernel
theorem dX1_keep_46 : decode cX1_keep 46 = .ok (.iconst 1, 1) := by decide +kernel
theorem dX1_keep_47 : decode cX1_keep 47 = .ok (.iadd, 1) := by decide +kernel
theorem dX1_keep_48 : decode cX1_keep 48 = .ok (.invokestatic 33, 3) := by decide +kernel
theorem dX1_keep_51 : decode cX1_keep 51 = .ok (.putfield 30, 3) := by decide +kernel
theorem dX1_keep_54 : decode cX1_keep 54 = .ok (.return_, 1) := by decide +kernel
theorem dX2_init_0 : decode cX2_init 0 = .ok (.aload_n 0, 1) := by decide +kernel
theorem dX2_init_1 : decode cX2_init 1 = .ok (.invokespecial 3, 3) := by decide +kernel
theorem dX2_init_4 : decode cX2_init 4 = .ok (.aload_n 0, 1) := by decide +kernel
theorem dX2_init_5 : decode cX2_init 5 = .ok (.bipush 84, 2) := by decide +kernel
theorem dX2_init_7 : decode cX2_init 7 = .ok (.newarray .int, 2) := by decide +kernel
theorem dX2_init_9 : decode cX2_init 9 = .ok (.putfield 9, 3) := by decide +kernel
theorem dX2_init_12 : decode cX2_init 12 = .ok (.return_, 1) := by decide +kernel
theorem dX2_copyFrom_0 : decode cX2_copyFrom 0 = .ok (.aload_n 1, 1) := by decide +kernel
theorem dX2_copyFrom_1 : decode cX2_copyFrom 1 = .ok (.getfield 9, 3) := by decide +kernel
theorem dX2_copyFrom_4 : decode cX2_copyFrom 4 = .ok (.iconst 0, 1) := by decide +kernel
theorem dX2_copyFrom_5 : decode cX2_copyFrom 5 = .ok (.aload_n 0, 1) := by decide +kernel
theorem dX2_copyFrom_6 : decode cX2_copyFrom 6 = .ok (.getfield 9, 3) := by decide +kernel
theorem dX2_copyFrom_9 : decode cX2_copyFrom 9 = .ok (.iconst 0, 1) := by decide +kernel
theorem dX2_copyFrom_10 : decode cX2_copyFrom 10 = .ok (.bipush 84, 2) := by decide +kernel
theorem dX2_copyFrom_12 : decode cX2_copyFrom 12 = .ok (.invokestatic 15, 3) := by decide +kernel
theorem dX2_copyFrom_15 : decode cX2_copyFrom 15 = .ok (.aload_n 0, 1) := by decide +kernel
theorem dX2_copyFrom_16 : decode cX2_copyFrom 16 = .ok (.aload_n 1, 1) := by decide +kernel
theorem dX2_copyFrom_17 : decode cX2_copyFrom 17 = .ok (.getfield 21, 3) := by decide +kernel
theorem dX2_copyFrom_20 : decode cX2_copyFrom 20 = .ok (.putfield 21, 3) := by decide +kernel
theorem dX2_copyFrom_23 : decode cX2_copyFrom 23 = .ok (.aload_n 0, 1) := by decide +kernel
theorem dX2_copyFrom_24 : decode cX2_copyFrom 24 = .ok (.aload_n 1, 1) := by decide +kernel
theorem dX2_copyFrom_25 : decode cX2_copyFrom 25 = .ok (.getfield 25, 3) := by decide +kernel
theorem dX2_copyFrom_28 : decode cX2_copyFrom 28 = .ok (.putfield 25, 3) := by decide +kernel
theorem dX2_copyFrom_31 : decode cX2_copyFrom 31 = .ok (.aload_n 0, 1) := by decide +kernel
theorem dX2_copyFrom_32 : decode cX2_copyFrom 32 = .ok (.aload_n 1, 1) := by decide +kernel
theorem dX2_copyFrom_33 : decode cX2_copyFrom 33 = .ok (.getfield 29, 3) := by decide +kernel
theorem dX2_copyFrom_36 : decode cX2_copyFrom 36 = .ok (.putfield 29, 3) := by decide +kernel
theorem dX2_copyFrom_39 : decode cX2_copyFrom 39 = .ok (.return_, 1) := by decide +kernel
theorem dX2_arrive_0 : decode cX2_arrive 0 = .ok (.aload_n 0, 1) := by decide +kernel
theorem dX2_arrive_1 : decode cX2_arrive 1 = .ok (.iconst 1, 1) := by decide +kernel
theorem dX2_arrive_2 : decode cX2_arrive 2 = .ok (.putfield 21, 3) := by decide +kernel
theorem dX2_arrive_5 : decode cX2_arrive 5 = .ok (.aload_n 0, 1) := by decide +kernel
theorem dX2_arrive_6 : decode cX2_arrive 6 = .ok (.aconst_null, 1) := by decide +kernel
theorem dX2_arrive_7 : decode cX2_arrive 7 = .ok (.iconst 0, 1) := by decide +kernel
theorem dX2_arrive_8 : decode cX2_arrive 8 = .ok (.invokevirtual 32, 3) := by decide +kernel
theorem dX2_arrive_11 : decode cX2_arrive 11 = .ok (.return_, 1) := by decide +kernel
theorem dX2_leave_0 : decode cX2_leave 0 = .ok (.aload_n 0, 1) := by decide +kernel
theorem dX2_leave_1 : decode cX2_leave 1 = .ok (.iconst 0, 1) := by decide +kernel
theorem dX2_leave_2 : decode cX2_leave 2 = .ok (.putfield 21, 3) := by decide +kernel
theorem dX2_leave_5 : decode cX2_leave 5 = .ok (.return_, 1) := by decide +kernel
theorem dX2_beginLife_0 : decode cX2_beginLife 0 = .ok (.aload_n 0, 1) := by decide +kernel
theorem dX2_beginLife_1 : decode cX2_beginLife 1 = .ok (.iconst 0, 1) := by decide +kernel
theorem dX2_beginLife_2 : decode cX2_beginLife 2 = .ok (.putfield 25, 3) := by decide +kernel
theorem dX2_beginLife_5 : decode cX2_beginLife 5 = .ok (.aload_n 0, 1) := by decide +kernel
theorem dX2_beginLife_6 : decode cX2_beginLife 6 = .ok (.iconst 0, 1) := by decide +kernel
theorem dX2_beginLife_7 : decode cX2_beginLife 7 = .ok (.putfield 29, 3) := by decide +kernel
theorem dX2_beginLife_10 : decode cX2_beginLife 10 = .ok (.iconst 0, 1) := by decide +kernel
theorem dX2_beginLife_11 : decode cX2_beginLife 11 = .ok (.istore_n 3, 1) := by decide +kernel
theorem dX2_beginLife_12 : decode cX2_beginLife 12 = .ok (.iload_n 3, 1) := by decide +kernel
theorem dX2_beginLife_13 : decode cX2_beginLife 13 = .ok (.bipush 6, 2) := by decide +kernel
theorem dX2_beginLife_15 : decode cX2_beginLife 15 = .ok (.if_icmp .ge 56, 3) := by decide +kernel
theorem dX2_beginLife_18 : decode cX2_beginLife 18 = .ok (.iconst 0, 1) := by decide +kernel
theorem dX2_beginLife_19 : decode cX2_beginLife 19 = .ok (.istore 4, 2) := by decide +kernel
theorem dX2_beginLife_21 : decode cX2_beginLife 21 = .ok (.iload 4, 2) := by decide +kernel
theorem dX2_beginLife_23 : decode cX2_beginLife 23 = .ok (.bipush 14, 2) := by decide +kernel
theorem dX2_beginLife_25 : decode cX2_beginLife 25 = .ok (.if_icmp .ge 40, 3) := by decide +kernel
theorem dX2_beginLife_28 : decode cX2_beginLife 28 = .ok (.aload_n 1, 1) := by decide +kernel
theorem dX2_beginLife_29 : decode cX2_beginLife 29 = .ok (.ifnonnull 7, 3) := by decide +kernel
theorem dX2_beginLife_32 : decode cX2_beginLife 32 = .ok (.iconst 0, 1) := by decide +kernel
theorem dX2_beginLife_33 : decode cX2_beginLife 33 = .ok (.goto 15, 3) := by decide +kernel
theorem dX2_beginLife_36 : decode cX2_beginLife 36 = .ok (.aload_n 1, 1) := by decide +kernel
theorem dX2_beginLife_37 : decode cX2_beginLife 37 = .ok (.iload_n 3, 1) := by decide +kernel
theorem dX2_beginLife_38 : decode cX2_beginLife 38 = .ok (.iload 4, 2) := by decide +kernel
theorem dX2_beginLife_40 : decode cX2_beginLife 40 = .ok (.invokevirtual 36, 3) := by decide +kernel
theorem dX2_beginLife_43 : decode cX2_beginLife 43 = .ok (.iload_n 2, 1) := by decide +kernel
theorem dX2_beginLife_44 : decode cX2_beginLife 44 = .ok (.imul, 1) := by decide +kernel
theorem dX2_beginLife_45 : decode cX2_beginLife 45 = .ok (.bipush 100, 2) := by decide +kernel
theorem dX2_beginLife_47 : decode cX2_beginLife 47 = .ok (.idiv, 1) := by decide +kernel
theorem dX2_beginLife_48 : decode cX2_beginLife 48 = .ok (.istore 5, 2) := by decide +kernel
theorem dX2_beginLife_50 : decode cX2_beginLife 50 = .ok (.aload_n 0, 1) := by decide +kernel
theorem dX2_beginLife_51 : decode cX2_beginLife 51 = .ok (.iload_n 3, 1) := by decide +kernel
theorem dX2_beginLife_52 : decode cX2_beginLife 52 = .ok (.iload 4, 2) := by decide +kernel
theorem dX2_beginLife_54 : decode cX2_beginLife 54 = .ok (.iload 5, 2) := by decide +kernel
theorem dX2_beginLife_56 : decode cX2_beginLife 56 = .ok (.invokevirtual 40, 3) := by decide +kernel
theorem dX2_beginLife_59 : decode cX2_beginLife 59 = .ok (.iinc 4 1, 3) := by decide +kernel
theorem dX2_beginLife_62 : decode cX2_beginLife 62 = .ok (.goto (-41), 3) := by decide +kernel
theorem dX2_beginLife_65 : decode cX2_beginLife 65 = .ok (.iinc 3 1, 3) := by decide +kernel
theorem dX2_beginLife_68 : decode cX2_beginLife 68 = .ok (.goto (-56), 3) := by decide +kernel
theorem dX2_beginLife_71 : decode cX2_beginLife 71 = .ok (.return_, 1) := by decide +kernel
theorem dX2_weightOf_0 : decode cX2_weightOf 0 = .ok (.iload_n 1, 1) := by decide +kernel
theorem dX2_weightOf_1 : decode cX2_weightOf 1 = .ok (.invokestatic 44, 3) := by decide +kernel
theorem dX2_weightOf_4 : decode cX2_weightOf 4 = .ok (.ifCond .eq 24, 3) := by decide +kernel
theorem dX2_weightOf_7 : decode cX2_weightOf 7 = .ok (.iload_n 2, 1) := by decide +kernel
theorem dX2_weightOf_8 : decode cX2_weightOf 8 = .ok (.invokestatic 48, 3) := by decide +kernel
theorem dX2_weightOf_11 : decode cX2_weightOf 11 = .ok (.ifCond .eq 17, 3) := by decide +kernel
theorem dX2_weightOf_14 : decode cX2_weightOf 14 = .ok (.aload_n 0, 1) := by decide +kernel
theorem dX2_weightOf_15 : decode cX2_weightOf 15 = .ok (.getfield 9, 3) := by decide +kernel
theorem dX2_weightOf_18 : decode cX2_weightOf 18 = .ok (.iload_n 1, 1) := by decide +kernel
theorem dX2_weightOf_19 : decode cX2_weightOf 19 = .ok (.bipush 14, 2) := by decide +kernel
theorem dX2_weightOf_21 : decode cX2_weightOf 21 = .ok (.imul, 1) := by decide +kernel
theorem dX2_weightOf_22 : decode cX2_weightOf 22 = .ok (.iload_n 2, 1) := by decide +kernel
theorem dX2_weightOf_23 : decode cX2_weightOf 23 = .ok (.iadd, 1) := by decide +kernel
theorem dX2_weightOf_24 : decode cX2_weightOf 24 = .ok (.iaload, 1) := by decide +kernel
theorem dX2_weightOf_25 : decode cX2_weightOf 25 = .ok (.goto 4, 3) := by decide +kernel
theorem dX2_weightOf_28 : decode cX2_weightOf 28 = .ok (.iconst 0, 1) := by decide +kernel
theorem dX2_weightOf_29 : decode cX2_weightOf 29 = .ok (.ireturn, 1) := by decide +kernel
theorem dX2_putWeight_0 : decode cX2_putWeight 0 = .ok (.iload_n 1, 1) := by decide +kernel
theorem dX2_putWeight_1 : decode cX2_putWeight 1 = .ok (.invokestatic 44, 3) := by decide +kernel
theorem dX2_putWeight_4 : decode cX2_putWeight 4 = .ok (.ifCond .eq 31, 3) := by decide +kernel
theorem dX2_putWeight_7 : decode cX2_putWeight 7 = .ok (.iload_n 2, 1) := by decide +kernel
theorem dX2_putWeight_8 : decode cX2_putWeight 8 = .ok (.invokestatic 48, 3) := by decide +kernel
theorem dX2_putWeight_11 : decode cX2_putWeight 11 = .ok (.ifCond .eq 24, 3) := by decide +kernel
theorem dX2_putWeight_14 : decode cX2_putWeight 14 = .ok (.aload_n 0, 1) := by decide +kernel
theorem dX2_putWeight_15 : decode cX2_putWeight 15 = .ok (.getfield 9, 3) := by decide +kernel
theorem dX2_putWeight_18 : decode cX2_putWeight 18 = .ok (.iload_n 1, 1) := by decide +kernel
theorem dX2_putWeight_19 : decode cX2_putWeight 19 = .ok (.bipush 14, 2) := by decide +kernel
theorem dX2_putWeight_21 : decode cX2_putWeight 21 = .ok (.imul, 1) := by decide +kernel
theorem dX2_putWeight_22 : decode cX2_putWeight 22 = .ok (.iload_n 2, 1) := by decide +kernel
theorem dX2_putWeight_23 : decode cX2_putWeight 23 = .ok (.iadd, 1) := by decide +kernel
theorem dX2_putWeight_24 : decode cX2_putWeight 24 = .ok (.iconst 0, 1) := by decide +kernel
theorem dX2_putWeight_25 : decode cX2_putWeight 25 = .ok (.bipush 99, 2) := by decide +kernel
theorem dX2_putWeight_27 : decode cX2_putWeight 27 = .ok (.iload_n 3, 1) := by decide +kernel
theorem dX2_putWeight_28 : decode cX2_putWeight 28 = .ok (.invokestatic 51, 3) := by decide +kernel
theorem dX2_putWeight_31 : decode cX2_putWeight 31 = .ok (.invokestatic 56, 3) := by decide +kernel
theorem dX2_putWeight_34 : decode cX2_putWeight 34 = .ok (.iastore, 1) := by decide +kernel
theorem dX2_putWeight_35 : decode cX2_putWeight 35 = .ok (.return_, 1) := by decide +kernel
theorem dX2_changeWeight_0 : decode cX2_changeWeight 0 = .ok (.aload_n 0, 1) := by decide +kernel
theorem dX2_changeWeight_1 : decode cX2_changeWeight 1 = .ok (.iload_n 1, 1) := by decide +kernel
theorem dX2_changeWeight_2 : decode cX2_changeWeight 2 = .ok (.iload_n 2, 1) := by decide +kernel
theorem dX2_changeWeight_3 : decode cX2_changeWeight 3 = .ok (.aload_n 0, 1) := by decide +kernel
theorem dX2_changeWeight_4 : decode cX2_changeWeight 4 = .ok (.iload_n 1, 1) := by decide +kernel
theorem dX2_changeWeight_5 : decode cX2_changeWeight 5 = .ok (.iload_n 2, 1) := by decide +kernel
theorem dX2_changeWeight_6 : decode cX2_changeWeight 6 = .ok (.invokevirtual 36, 3) := by decide +kernel
theorem dX2_changeWeight_9 : decode cX2_changeWeight 9 = .ok (.iload_n 3, 1) := by decide +kernel
theorem dX2_changeWeight_10 : decode cX2_changeWeight 10 = .ok (.iadd, 1) := by decide +kernel
theorem dX2_changeWeight_11 : decode cX2_changeWeight 11 = .ok (.invokevirtual 40, 3) := by decide +kernel
theorem dX2_changeWeight_14 : decode cX2_changeWeight 14 = .ok (.return_, 1) := by decide +kernel
theorem dX2_wordFor_0 : decode cX2_wordFor 0 = .ok (.bipush (-6), 2) := by decide +kernel
theorem dX2_wordFor_2 : decode cX2_wordFor 2 = .ok (.istore_n 2, 1) := by decide +kernel
theorem dX2_wordFor_3 : decode cX2_wordFor 3 = .ok (.iconst 0, 1) := by decide +kernel
theorem dX2_wordFor_4 : decode cX2_wordFor 4 = .ok (.istore_n 3, 1) := by decide +kernel
theorem dX2_wordFor_5 : decode cX2_wordFor 5 = .ok (.iconst 0, 1) := by decide +kernel
theorem dX2_wordFor_6 : decode cX2_wordFor 6 = .ok (.istore 4, 2) := by decide +kernel
theorem dX2_wordFor_8 : decode cX2_wordFor 8 = .ok (.iload 4, 2) := by decide +kernel
theorem dX2_wordFor_10 : decode cX2_wordFor 10 = .ok (.bipush 14, 2) := by decide +kernel
theorem dX2_wordFor_12 : decode cX2_wordFor 12 = .ok (.if_icmp .ge 30, 3) := by decide +kernel
theorem dX2_wordFor_15 : decode cX2_wordFor 15 = .ok (.aload_n 0, 1) := by decide +kernel
theorem dX2_wordFor_16 : decode cX2_wordFor 16 = .ok (.iload_n 1, 1) := by decide +kernel
theorem dX2_wordFor_17 : decode cX2_wordFor 17 = .ok (.iload 4, 2) := by decide +kernel
theorem dX2_wordFor_19 : decode cX2_wordFor 19 = .ok (.invokevirtual 36, 3) := by decide +kernel
theorem dX2_wordFor_22 : decode cX2_wordFor 22 = .ok (.istore 5, 2) := by decide +kernel
theorem dX2_wordFor_24 : decode cX2_wordFor 24 = .ok (.iload 5, 2) := by decide +kernel
theorem dX2_wordFor_26 : decode cX2_wordFor 26 = .ok (.iload_n 3, 1) := by decide +kernel
theorem dX2_wordFor_27 : decode cX2_wordFor 27 = .ok (.if_icmp .le 9, 3) := by decide +kernel
theorem dX2_wordFor_30 : decode cX2_wordFor 30 = .ok (.iload 5, 2) := by decide +kernel
theorem dX2_wordFor_32 : decode cX2_wordFor 32 = .ok (.istore_n 3, 1) := by decide +kernel
theorem dX2_wordFor_33 : decode cX2_wordFor 33 = .ok (.iload 4, 2) := by decide +kernel
theorem dX2_wordFor_35 : decode cX2_wordFor 35 = .ok (.istore_n 2, 1) := by decide +kernel
theorem dX2_wordFor_36 : decode cX2_wordFor 36 = .ok (.iinc 4 1, 3) := by decide +kernel
theorem dX2_wordFor_39 : decode cX2_wordFor 39 = .ok (.goto (-31), 3) := by decide +kernel
theorem dX2_wordFor_42 : decode cX2_wordFor 42 = .ok (.iload_n 2, 1) := by decide +kernel
theorem dX2_wordFor_43 : decode cX2_wordFor 43 = .ok (.ireturn, 1) := by decide +kernel
theorem dX2_meaningOf_0 : decode cX2_meaningOf 0 = .ok (.bipush (-6), 2) := by decide +kernel
theorem dX2_meaningOf_2 : decode cX2_meaningOf 2 = .ok (.istore_n 2, 1) := by decide +kernel
theorem dX2_meaningOf_3 : decode cX2_meaningOf 3 = .ok (.iconst 0, 1) := by decide +kernel
theorem dX2_meaningOf_4 : decode cX2_meaningOf 4 = .ok (.istore_n 3, 1) := by decide +kernel
theorem dX2_meaningOf_5 : decode cX2_meaningOf 5 = .ok (.iconst 0, 1) := by decide +kernel
theorem dX2_meaningOf_6 : decode cX2_meaningOf 6 = .ok (.istore 4, 2) := by decide +kernel
theorem dX2_meaningOf_8 : decode cX2_meaningOf 8 = .ok (.iload 4, 2) := by decide +kernel
theorem dX2_meaningOf_10 : decode cX2_meaningOf 10 = .ok (.bipush 6, 2) := by decide +kernel
theorem dX2_meaningOf_12 : decode cX2_meaningOf 12 = .ok (.if_icmp .ge 30, 3) := by decide +kernel
theorem dX2_meaningOf_15 : decode cX2_meaningOf 15 = .ok (.aload_n 0, 1) := by decide +kernel
theorem dX2_meaningOf_16 : decode cX2_meaningOf 16 = .ok (.iload 4, 2) := by decide +kernel
theorem dX2_meaningOf_18 : decode cX2_meaningOf 18 = .ok (.iload_n 1, 1) := by decide +kernel
theorem dX2_meaningOf_19 : decode cX2_meaningOf 19 = .ok (.invokevirtual 36, 3) := by decide +kernel
theorem dX2_meaningOf_22 : decode cX2_meaningOf 22 = .ok (.istore 5, 2) := by decide +kernel
theorem dX2_meaningOf_24 : decode cX2_meaningOf 24 = .ok (.iload 5, 2) := by decide +kernel
theorem dX2_meaningOf_26 : decode cX2_meaningOf 26 = .ok (.iload_n 3, 1) := by decide +kernel
theorem dX2_meaningOf_27 : decode cX2_meaningOf 27 = .ok (.if_icmp .le 9, 3) := by decide +kernel
theorem dX2_meaningOf_30 : decode cX2_meaningOf 30 = .ok (.iload 5, 2) := by decide +kernel
theorem dX2_meaningOf_32 : decode cX2_meaningOf 32 = .ok (.istore_n 3, 1) := by decide +kernel
theorem dX2_meaningOf_33 : decode cX2_meaningOf 33 = .ok (.iload 4, 2) := by decide +kernel
theorem dX2_meaningOf_35 : decode cX2_meaningOf 35 = .ok (.istore_n 2, 1) := by decide +kernel
theorem dX2_meaningOf_36 : decode cX2_meaningOf 36 = .ok (.iinc 4 1, 3) := by decide +kernel
theorem dX2_meaningOf_39 : decode cX2_meaningOf 39 = .ok (.goto (-31), 3) := by decide +kernel
theorem dX2_meaningOf_42 : decode cX2_meaningOf 42 = .ok (.iload_n 2, 1) := by decide +kernel
theorem dX2_meaningOf_43 : decode cX2_meaningOf 43 = .ok (.ireturn, 1) := by decide +kernel
theorem dX2_learnsWith_0 : decode cX2_learnsWith 0 = .ok (.iconst 1, 1) := by decide +kernel
theorem dX2_learnsWith_1 : decode cX2_learnsWith 1 = .ok (.iload_n 1, 1) := by decide +kernel
theorem dX2_learnsWith_2 : decode cX2_learnsWith 2 = .ok (.aload_n 0, 1) := by decide +kernel
theorem dX2_learnsWith_3 : decode cX2_learnsWith 3 = .ok (.getfield 25, 3) := by decide +kernel
theorem dX2_learnsWith_6 : decode cX2_learnsWith 6 = .ok (.bipush 20, 2) := by decide +kernel
theorem dX2_learnsWith_8 : decode cX2_learnsWith 8 = .ok (.idiv, 1) := by decide +kernel
theorem dX2_learnsWith_9 : decode cX2_learnsWith 9 = .ok (.isub, 1) := by decide +kernel
theorem dX2_learnsWith_10 : decode cX2_learnsWith 10 = .ok (.invokestatic 56, 3) := by decide +kernel
theorem dX2_learnsWith_13 : decode cX2_learnsWith 13 = .ok (.ireturn, 1) := by decide +kernel
theorem dX2_prefer_0 : decode cX2_prefer 0 = .ok (.aload_n 0, 1) := by decide +kernel
theorem dX2_prefer_1 : decode cX2_prefer 1 = .ok (.iload_n 1, 1) := by decide +kernel
theorem dX2_prefer_2 : decode cX2_prefer 2 = .ok (.iload_n 2, 1) := by decide +kernel
theorem dX2_prefer_3 : decode cX2_prefer 3 = .ok (.aload_n 0, 1) := by decide +kernel
theorem dX2_prefer_4 : decode cX2_prefer 4 = .ok (.iload_n 3, 1) := by decide +kernel
theorem dX2_prefer_5 : decode cX2_prefer 5 = .ok (.invokevirtual 59, 3) := by decide +kernel
theorem dX2_prefer_8 : decode cX2_prefer 8 = .ok (.invokevirtual 63, 3) := by decide +kernel
theorem dX2_prefer_11 : decode cX2_prefer 11 = .ok (.iconst 0, 1) := by decide +kernel
theorem dX2_prefer_12 : decode cX2_prefer 12 = .ok (.istore 5, 2) := by decide +kernel
theorem dX2_prefer_14 : decode cX2_prefer 14 = .ok (.iload 5, 2) := by decide +kernel
theorem dX2_prefer_16 : decode cX2_prefer 16 = .ok (.bipush 14, 2) := by decide +kernel
theorem dX2_prefer_18 : decode cX2_prefer 18 = .ok (.if_icmp .ge 25, 3) := by decide +kernel
theorem dX2_prefer_21 : decode cX2_prefer 21 = .ok (.iload 5, 2) := by decide +kernel
theorem dX2_prefer_23 : decode cX2_prefer 23 = .ok (.iload_n 2, 1) := by decide +kernel
theorem dX2_prefer_24 : decode cX2_prefer 24 = .ok (.if_icmp .eq 13, 3) := by decide +kernel
theorem dX2_prefer_27 : decode cX2_prefer 27 = .ok (.aload_n 0, 1) := by decide +kernel
theorem dX2_prefer_28 : decode cX2_prefer 28 = .ok (.iload_n 1, 1) := by decide +kernel
theorem dX2_prefer_29 : decode cX2_prefer 29 = .ok (.iload 5, 2) := by decide +kernel
theorem dX2_prefer_31 : decode cX2_prefer 31 = .ok (.iload 4, 2) := by decide +kernel
theorem dX2_prefer_33 : decode cX2_prefer 33 = .ok (.ineg, 1) := by decide +kernel
theorem dX2_prefer_34 : decode cX2_prefer 34 = .ok (.invokevirtual 63, 3) := by decide +kernel
theorem dX2_prefer_37 : decode cX2_prefer 37 = .ok (.iinc 5 1, 3) := by decide +kernel
theorem dX2_prefer_40 : decode cX2_prefer 40 = .ok (.goto (-26), 3) := by decide +kernel
theorem dX2_prefer_43 : decode cX2_prefer 43 = .ok (.return_, 1) := by decide +kernel
theorem dX2_forgetOtherMeanings_0 : decode cX2_forgetOtherMeanings 0 = .ok (.iconst 0, 1) := by decide +kernel
theorem dX2_forgetOtherMeanings_1 : decode cX2_forgetOtherMeanings 1 = .ok (.istore 4, 2) := by decide +kernel
theorem dX2_forgetOtherMeanings_3 : decode cX2_forgetOtherMeanings 3 = .ok (.iload 4, 2) := by decide +kernel
theorem dX2_forgetOtherMeanings_5 : decode cX2_forgetOtherMeanings 5 = .ok (.bipush 6, 2) := by decide +kernel
theorem dX2_forgetOtherMeanings_7 : decode cX2_forgetOtherMeanings 7 = .ok (.if_icmp .ge 24, 3) := by decide +kernel
theorem dX2_forgetOtherMeanings_10 : decode cX2_forgetOtherMeanings 10 = .ok (.iload 4, 2) := by decide +kernel
theorem dX2_forgetOtherMeanings_12 : decode cX2_forgetOtherMeanings 12 = .ok (.iload_n 1, 1) := by decide +kernel
theorem dX2_forgetOtherMeanings_13 : decode cX2_forgetOtherMeanings 13 = .ok (.if_icmp .eq 12, 3) := by decide +kernel
theorem dX2_forgetOtherMeanings_16 : decode cX2_forgetOtherMeanings 16 = .ok (.aload_n 0, 1) := by decide +kernel
theorem dX2_forgetOtherMeanings_17 : decode cX2_forgetOtherMeanings 17 = .ok (.iload 4, 2) := by decide +kernel
theorem dX2_forgetOtherMeanings_19 : decode cX2_forgetOtherMeanings 19 = .ok (.iload_n 2, 1) := by decide +kernel
theorem dX2_forgetOtherMeanings_20 : decode cX2_forgetOtherMeanings 20 = .ok (.iload_n 3, 1) := by decide +kernel
theorem dX2_forgetOtherMeanings_21 : decode cX2_forgetOtherMeanings 21 = .ok (.ineg, 1) := by decide +kernel
theorem dX2_forgetOtherMeanings_22 : decode cX2_forgetOtherMeanings 22 = .ok (.invokevirtual 63, 3) := by decide +kernel
theorem dX2_forgetOtherMeanings_25 : decode cX2_forgetOtherMeanings 25 = .ok (.iinc 4 1, 3) := by decide +kernel
theorem dX2_forgetOtherMeanings_28 : decode cX2_forgetOtherMeanings 28 = .ok (.goto (-25), 3) := by decide +kernel
theorem dX2_forgetOtherMeanings_31 : decode cX2_forgetOtherMeanings 31 = .ok (.return_, 1) := by decide +kernel
theorem dX2_sumOfWeights_0 : decode cX2_sumOfWeights 0 = .ok (.iconst 0, 1) := by decide +kernel
theorem dX2_sumOfWeights_1 : decode cX2_sumOfWeights 1 = .ok (.istore_n 1, 1) := by decide +kernel
theorem dX2_sumOfWeights_2 : decode cX2_sumOfWeights 2 = .ok (.aload_n 0, 1) := by decide +kernel
theorem dX2_sumOfWeights_3 : decode cX2_sumOfWeights 3 = .ok (.getfield 9, 3) := by decide +kernel
theorem dX2_sumOfWeights_6 : decode cX2_sumOfWeights 6 = .ok (.astore_n 2, 1) := by decide +kernel
theorem dX2_sumOfWeights_7 : decode cX2_sumOfWeights 7 = .ok (.aload_n 2, 1) := by decide +kernel
theorem dX2_sumOfWeights_8 : decode cX2_sumOfWeights 8 = .ok (.arraylength, 1) := by decide +kernel
theorem dX2_sumOfWeights_9 : decode cX2_sumOfWeights 9 = .ok (.istore_n 3, 1) := by decide +kernel
theorem dX2_sumOfWeights_10 : decode cX2_sumOfWeights 10 = .ok (.iconst 0, 1) := by decide +kernel
theorem dX2_sumOfWeights_11 : decode cX2_sumOfWeights 11 = .ok (.istore 4, 2) := by decide +kernel
theorem dX2_sumOfWeights_13 : decode cX2_sumOfWeights 13 = .ok (.iload 4, 2) := by decide +kernel
theorem dX2_sumOfWeights_15 : decode cX2_sumOfWeights 15 = .ok (.iload_n 3, 1) := by decide +kernel
theorem dX2_sumOfWeights_16 : decode cX2_sumOfWeights 16 = .ok (.if_icmp .ge 20, 3) := by decide +kernel
theorem dX2_sumOfWeights_19 : decode cX2_sumOfWeights 19 = .ok (.aload_n 2, 1) := by decide +kernel
theorem dX2_sumOfWeights_20 : decode cX2_sumOfWeights 20 = .ok (.iload 4, 2) := by decide +kernel
theorem dX2_sumOfWeights_22 : decode cX2_sumOfWeights 22 = .ok (.iaload, 1) := by decide +kernel
theorem dX2_sumOfWeights_23 : decode cX2_sumOfWeights 23 = .ok (.istore 5, 2) := by decide +kernel
theorem dX2_sumOfWeights_25 : decode cX2_sumOfWeights 25 = .ok (.iload_n 1, 1) := by decide +kernel
theorem dX2_sumOfWeights_26 : decode cX2_sumOfWeights 26 = .ok (.iload 5, 2) := by decide +kernel
theorem dX2_sumOfWeights_28 : decode cX2_sumOfWeights 28 = .ok (.iadd, 1) := by decide +kernel
theorem dX2_sumOfWeights_29 : decode cX2_sumOfWeights 29 = .ok (.istore_n 1, 1) := by decide +kernel
theorem dX2_sumOfWeights_30 : decode cX2_sumOfWeights 30 = .ok (.iinc 4 1, 3) := by decide +kernel
theorem dX2_sumOfWeights_33 : decode cX2_sumOfWeights 33 = .ok (.goto (-20), 3) := by decide +kernel
theorem dX2_sumOfWeights_36 : decode cX2_sumOfWeights 36 = .ok (.iload_n 1, 1) := by decide +kernel
theorem dX2_sumOfWeights_37 : decode cX2_sumOfWeights 37 = .ok (.ireturn, 1) := by decide +kernel
theorem dX2_countWords_0 : decode cX2_countWords 0 = .ok (.iconst 0, 1) := by decide +kernel
theorem dX2_countWords_1 : decode cX2_countWords 1 = .ok (.istore_n 1, 1) := by decide +kernel
theorem dX2_countWords_2 : decode cX2_countWords 2 = .ok (.iconst 0, 1) := by decide +kernel
theorem dX2_countWords_3 : decode cX2_countWords 3 = .ok (.istore_n 2, 1) := by decide +kernel
theorem dX2_countWords_4 : decode cX2_countWords 4 = .ok (.iload_n 2, 1) := by decide +kernel
theorem dX2_countWords_5 : decode cX2_countWords 5 = .ok (.bipush 6, 2) := by decide +kernel
theorem dX2_countWords_7 : decode cX2_countWords 7 = .ok (.if_icmp .ge 22, 3) := by decide +kernel
theorem dX2_countWords_10 : decode cX2_countWords 10 = .ok (.aload_n 0, 1) := by decide +kernel
theorem dX2_countWords_11 : decode cX2_countWords 11 = .ok (.iload_n 2, 1) := by decide +kernel
theorem dX2_countWords_12 : decode cX2_countWords 12 = .ok (.invokevirtual 66, 3) := by decide +kernel
theorem dX2_countWords_15 : decode cX2_countWords 15 = .ok (.bipush (-6), 2) := by decide +kernel
theorem dX2_countWords_17 : decode cX2_countWords 17 = .ok (.if_icmp .eq 6, 3) := by decide +kernel
theorem dX2_countWords_20 : decode cX2_countWords 20 = .ok (.iinc 1 1, 3) := by decide +kernel
theorem dX2_countWords_23 : decode cX2_countWords 23 = .ok (.iinc 2 1, 3) := by decide +kernel
theorem dX2_countWords_26 : decode cX2_countWords 26 = .ok (.goto (-22), 3) := by decide +kernel
theorem dX2_countWords_29 : decode cX2_countWords 29 = .ok (.iload_n 1, 1) := by decide +kernel
theorem dX2_countWords_30 : decode cX2_countWords 30 = .ok (.ireturn, 1) := by decide +kernel
theorem dX2_countConfusions_0 : decode cX2_countConfusions 0 = .ok (.iconst 0, 1) := by decide +kernel
theorem dX2_countConfusions_1 : decode cX2_countConfusions 1 = .ok (.istore_n 1, 1) := by decide +kernel
theorem dX2_countConfusions_2 : decode cX2_countConfusions 2 = .ok (.iconst 0, 1) := by decide +kernel
theorem dX2_countConfusions_3 : decode cX2_countConfusions 3 = .ok (.istore_n 2, 1) := by decide +kernel
theorem dX2_countConfusions_4 : decode cX2_countConfusions 4 = .ok (.iload_n 2, 1) := by decide +kernel
theorem dX2_countConfusions_5 : decode cX2_countConfusions 5 = .ok (.bipush 6, 2) := by decide +kernel
theorem dX2_countConfusions_7 : decode cX2_countConfusions 7 = .ok (.if_icmp .ge 52, 3) := by decide +kernel
theorem dX2_countConfusions_10 : decode cX2_countConfusions 10 = .ok (.aload_n 0, 1) := by decide +kernel
theorem dX2_countConfusions_11 : decode cX2_countConfusions 11 = .ok (.iload_n 2, 1) := by decide +kernel
theorem dX2_countConfusions_12 : decode cX2_countConfusions 12 = .ok (.invokevirtual 66, 3) := by decide +kernel
theorem dX2_countConfusions_15 : decode cX2_countConfusions 15 = .ok (.istore_n 3, 1) := by decide +kernel
theorem dX2_countConfusions_16 : decode cX2_countConfusions 16 = .ok (.iload_n 2, 1) := by decide +kernel
theorem dX2_countConfusions_17 : decode cX2_countConfusions 17 = .ok (.iconst 1, 1) := by decide +kernel
theorem dX2_countConfusions_18 : decode cX2_countConfusions 18 = .ok (.iadd, 1) := by decide +kernel
theorem dX2_countConfusions_19 : decode cX2_countConfusions 19 = .ok (.istore 4, 2) := by decide +kernel
theorem dX2_countConfusions_21 : decode cX2_countConfusions 21 = .ok (.iload 4, 2) := by decide +kernel
theorem dX2_countConfusions_23 : decode cX2_countConfusions 23 = .ok (.bipush 6, 2) := by decide +kernel
theorem dX2_countConfusions_25 : decode cX2_countConfusions 25 = .ok (.if_icmp .ge 28, 3) := by decide +kernel
theorem dX2_countConfusions_28 : decode cX2_countConfusions 28 = .ok (.iload_n 3, 1) := by decide +kernel
theorem dX2_countConfusions_29 : decode cX2_countConfusions 29 = .ok (.bipush (-6), 2) := by decide +kernel
theorem dX2_countConfusions_31 : decode cX2_countConfusions 31 = .ok (.if_icmp .eq 16, 3) := by decide +kernel
theorem dX2_countConfusions_34 : decode cX2_countConfusions 34 = .ok (.iload_n 3, 1) := by decide +kernel
theorem dX2_countConfusions_35 : decode cX2_countConfusions 35 = .ok (.aload_n 0, 1) := by decide +kernel
theorem dX2_countConfusions_36 : decode cX2_countConfusions 36 = .ok (.iload 4, 2) := by decide +kernel
theorem dX2_countConfusions_38 : decode cX2_countConfusions 38 = .ok (.invokevirtual 66, 3) := by decide +kernel
theorem dX2_countConfusions_41 : decode cX2_countConfusions 41 = .ok (.if_icmp .ne 6, 3) := by decide +kernel
theorem dX2_countConfusions_44 : decode cX2_countConfusions 44 = .ok (.iinc 1 1, 3) := by decide +kernel
theorem dX2_countConfusions_47 : decode cX2_countConfusions 47 = .ok (.iinc 4 1, 3) := by decide +kernel
theorem dX2_countConfusions_50 : decode cX2_countConfusions 50 = .ok (.goto (-29), 3) := by decide +kernel
theorem dX2_countConfusions_53 : decode cX2_countConfusions 53 = .ok (.iinc 2 1, 3) := by decide +kernel
theorem dX2_countConfusions_56 : decode cX2_countConfusions 56 = .ok (.goto (-52), 3) := by decide +kernel
theorem dX2_countConfusions_59 : decode cX2_countConfusions 59 = .ok (.iload_n 1, 1) := by decide +kernel
theorem dX2_countConfusions_60 : decode cX2_countConfusions 60 = .ok (.ireturn, 1) := by decide +kernel
theorem dX3_init_0 : decode cX3_init 0 = .ok (.aload_n 0, 1) := by decide +kernel
theorem dX3_init_1 : decode cX3_init 1 = .ok (.invokespecial 3, 3) := by decide +kernel
theorem dX3_init_4 : decode cX3_init 4 = .ok (.aload_n 0, 1) := by decide +kernel
theorem dX3_init_5 : decode cX3_init 5 = .ok (.bipush 8, 2) := by decide +kernel
theorem dX3_init_7 : decode cX3_init 7 = .ok (.anewarray 9, 3) := by decide +kernel
theorem dX3_init_10 : decode cX3_init 10 = .ok (.putfield 11, 3) := by decide +kernel
theorem dX3_init_13 : decode cX3_init 13 = .ok (.iconst 0, 1) := by decide +kernel
theorem dX3_init_14 : decode cX3_init 14 = .ok (.istore_n 1, 1) := by decide +kernel
theorem dX3_init_15 : decode cX3_init 15 = .ok (.iload_n 1, 1) := by decide +kernel
theorem dX3_init_16 : decode cX3_init 16 = .ok (.bipush 8, 2) := by decide +kernel
theorem dX3_init_18 : decode cX3_init 18 = .ok (.if_icmp .ge 22, 3) := by decide +kernel
theorem dX3_init_21 : decode cX3_init 21 = .ok (.aload_n 0, 1) := by decide +kernel
theorem dX3_init_22 : decode cX3_init 22 = .ok (.getfield 11, 3) := by decide +kernel
theorem dX3_init_25 : decode cX3_init 25 = .ok (.iload_n 1, 1) := by decide +kernel
theorem dX3_init_26 : decode cX3_init 26 = .ok (.new 9, 3) := by decide +kernel
theorem dX3_init_29 : decode cX3_init 29 = .ok (.dup, 1) := by decide +kernel
theorem dX3_init_30 : decode cX3_init 30 = .ok (.invokespecial 17, 3) := by decide +kernel
theorem dX3_init_33 : decode cX3_init 33 = .ok (.aastore, 1) := by decide +kernel
theorem dX3_init_34 : decode cX3_init 34 = .ok (.iinc 1 1, 3) := by decide +kernel
theorem dX3_init_37 : decode cX3_init 37 = .ok (.goto (-22), 3) := by decide +kernel
theorem dX3_init_40 : decode cX3_init 40 = .ok (.aload_n 0, 1) := by decide +kernel
theorem dX3_init_41 : decode cX3_init 41 = .ok (.iconst 4, 1) := by decide +kernel
theorem dX3_init_42 : decode cX3_init 42 = .ok (.newarray .int, 2) := by decide +kernel
theorem dX3_init_44 : decode cX3_init 44 = .ok (.putfield 18, 3) := by decide +kernel
theorem dX3_init_47 : decode cX3_init 47 = .ok (.aload_n 0, 1) := by decide +kernel
theorem dX3_init_48 : decode cX3_init 48 = .ok (.bipush 14, 2) := by decide +kernel
theorem dX3_init_50 : decode cX3_init 50 = .ok (.newarray .int, 2) := by decide +kernel
theorem dX3_init_52 : decode cX3_init 52 = .ok (.putfield 22, 3) := by decide +kernel
theorem dX3_init_55 : decode cX3_init 55 = .ok (.aload_n 0, 1) := by decide +kernel
theorem dX3_init_56 : decode cX3_init 56 = .ok (.getfield 18, 3) := by decide +kernel
theorem dX3_init_59 : decode cX3_init 59 = .ok (.iconst 0, 1) := by decide +kernel
theorem dX3_init_60 : decode cX3_init 60 = .ok (.iconst 4, 1) := by decide +kernel
theorem dX3_init_61 : decode cX3_init 61 = .ok (.iastore, 1) := by decide +kernel
theorem dX3_init_62 : decode cX3_init 62 = .ok (.aload_n 0, 1) := by decide +kernel
theorem dX3_init_63 : decode cX3_init 63 = .ok (.getfield 18, 3) := by decide +kernel
theorem dX3_init_66 : decode cX3_init 66 = .ok (.iconst 1, 1) := by decide +kernel
theorem dX3_init_67 : decode cX3_init 67 = .ok (.iconst 1, 1) := by decide +kernel
theorem dX3_init_68 : decode cX3_init 68 = .ok (.iastore, 1) := by decide +kernel
theorem dX3_init_69 : decode cX3_init 69 = .ok (.aload_n 0, 1) := by decide +kernel
theorem dX3_init_70 : decode cX3_init 70 = .ok (.getfield 18, 3) := by decide +kernel
theorem dX3_init_73 : decode cX3_init 73 = .ok (.iconst 2, 1) := by decide +kernel
theorem dX3_init_74 : decode cX3_init 74 = .ok (.bipush 60, 2) := by decide +kernel
theorem dX3_init_76 : decode cX3_init 76 = .ok (.iastore, 1) := by decide +kernel
theorem dX3_init_77 : decode cX3_init 77 = .ok (.aload_n 0, 1) := by decide +kernel
theorem dX3_init_78 : decode cX3_init 78 = .ok (.getfield 18, 3) := by decide +kernel
theorem dX3_init_81 : decode cX3_init 81 = .ok (.iconst 3, 1) := by decide +kernel
theorem dX3_init_82 : decode cX3_init 82 = .ok (.bipush 50, 2) := by decide +kernel
theorem dX3_init_84 : decode cX3_init 84 = .ok (.iastore, 1) := by decide +kernel
theorem dX3_init_85 : decode cX3_init 85 = .ok (.aload_n 0, 1) := by decide +kernel
theorem dX3_init_86 : decode cX3_init 86 = .ok (.iconst 1, 1) := by decide +kernel
theorem dX3_init_87 : decode cX3_init 87 = .ok (.putfield 25, 3) := by decide +kernel
theorem dX3_init_90 : decode cX3_init 90 = .ok (.return_, 1) := by decide +kernel
theorem dX3_copyFrom_0 : decode cX3_copyFrom 0 = .ok (.iconst 0, 1) := by decide +kernel
theorem dX3_copyFrom_1 : decode cX3_copyFrom 1 = .ok (.istore_n 2, 1) := by decide +kernel
theorem dX3_copyFrom_2 : decode cX3_copyFrom 2 = .ok (.iload_n 2, 1) := by decide +kernel
theorem dX3_copyFrom_3 : decode cX3_copyFrom 3 = .ok (.bipush 8, 2) := by decide +kernel
theorem dX3_copyFrom_5 : decode cX3_copyFrom 5 = .ok (.if_icmp .ge 24, 3) := by decide +kernel
theorem dX3_copyFrom_8 : decode cX3_copyFrom 8 = .ok (.aload_n 0, 1) := by decide +kernel
theorem dX3_copyFrom_9 : decode cX3_copyFrom 9 = .ok (.getfield 11, 3) := by decide +kernel
theorem dX3_copyFrom_12 : decode cX3_copyFrom 12 = .ok (.iload_n 2, 1) := by decide +kernel
theorem dX3_copyFrom_13 : decode cX3_copyFrom 13 = .ok (.aaload, 1) := by decide +kernel
theorem dX3_copyFrom_14 : decode cX3_copyFrom 14 = .ok (.aload_n 1, 1) := by decide +kernel
theorem dX3_copyFrom_15 : decode cX3_copyFrom 15 = .ok (.getfield 11, 3) := by decide +kernel
theorem dX3_copyFrom_18 : decode cX3_copyFrom 18 = .ok (.iload_n 2, 1) := by decide +kernel
theorem dX3_copyFrom_19 : decode cX3_copyFrom 19 = .ok (.aaload, 1) := by decide +kernel
theorem dX3_copyFrom_20 : decode cX3_copyFrom 20 = .ok (.invokevirtual 29, 3) := by decide +kernel
theorem dX3_copyFrom_23 : decode cX3_copyFrom 23 = .ok (.iinc 2 1, 3) := by decide +kernel
theorem dX3_copyFrom_26 : decode cX3_copyFrom 26 = .ok (.goto (-24), 3) := by decide +kernel
theorem dX3_copyFrom_29 : decode cX3_copyFrom 29 = .ok (.aload_n 1, 1) := by decide +kernel
theorem dX3_copyFrom_30 : decode cX3_copyFrom 30 = .ok (.getfield 18, 3) := by decide +kernel
theorem dX3_copyFrom_33 : decode cX3_copyFrom 33 = .ok (.iconst 0, 1) := by decide +kernel
theorem dX3_copyFrom_34 : decode cX3_copyFrom 34 = .ok (.aload_n 0, 1) := by decide +kernel
theorem dX3_copyFrom_35 : decode cX3_copyFrom 35 = .ok (.getfield 18, 3) := by decide +kernel
theorem dX3_copyFrom_38 : decode cX3_copyFrom 38 = .ok (.iconst 0, 1) := by decide +kernel
theorem dX3_copyFrom_39 : decode cX3_copyFrom 39 = .ok (.iconst 4, 1) := by decide +kernel
theorem dX3_copyFrom_40 : decode cX3_copyFrom 40 = .ok (.invokestatic 33, 3) := by decide +kernel
theorem dX3_copyFrom_43 : decode cX3_copyFrom 43 = .ok (.aload_n 0, 1) := by decide +kernel
theorem dX3_copyFrom_44 : decode cX3_copyFrom 44 = .ok (.aload_n 1, 1) := by decide +kernel
theorem dX3_copyFrom_45 : decode cX3_copyFrom 45 = .ok (.getfield 25, 3) := by decide +kernel
theorem dX3_copyFrom_48 : decode cX3_copyFrom 48 = .ok (.putfield 25, 3) := by decide +kernel
theorem dX3_copyFrom_51 : decode cX3_copyFrom 51 = .ok (.aload_n 0, 1) := by decide +kernel
theorem dX3_copyFrom_52 : decode cX3_copyFrom 52 = .ok (.aload_n 1, 1) := by decide +kernel
theorem dX3_copyFrom_53 : decode cX3_copyFrom 53 = .ok (.getfield 39, 3) := by decide +kernel
theorem dX3_copyFrom_56 : decode cX3_copyFrom 56 = .ok (.putfield 39, 3) := by decide +kernel
theorem dX3_copyFrom_59 : decode cX3_copyFrom 59 = .ok (.aload_n 0, 1) := by decide +kernel
theorem dX3_copyFrom_60 : decode cX3_copyFrom 60 = .ok (.aload_n 1, 1) := by decide +kernel
theorem dX3_copyFrom_61 : decode cX3_copyFrom 61 = .ok (.getfield 42, 3) := by decide +kernel
theorem dX3_copyFrom_64 : decode cX3_copyFrom 64 = .ok (.putfield 42, 3) := by decide +kernel
theorem dX3_copyFrom_67 : decode cX3_copyFrom 67 = .ok (.aload_n 0, 1) := by decide +kernel
theorem dX3_copyFrom_68 : decode cX3_copyFrom 68 = .ok (.aload_n 1, 1) := by decide +kernel
theorem dX3_copyFrom_69 : decode cX3_copyFrom 69 = .ok (.getfield 45, 3) := by decide +kernel
theorem dX3_copyFrom_72 : decode cX3_copyFrom 72 = .ok (.putfield 45, 3) := by decide +kernel
theorem dX3_copyFrom_75 : decode cX3_copyFrom 75 = .ok (.aload_n 0, 1) := by decide +kernel
theorem dX3_copyFrom_76 : decode cX3_copyFrom 76 = .ok (.aload_n 1, 1) := by decide +kernel
theorem dX3_copyFrom_77 : decode cX3_copyFrom 77 = .ok (.getfield 48, 3) := by decide +kernel
theorem dX3_copyFrom_80 : decode cX3_copyFrom 80 = .ok (.putfield 48, 3) := by decide +kernel
theorem dX3_copyFrom_83 : decode cX3_copyFrom 83 = .ok (.return_, 1) := by decide +kernel
theorem dX3_find_0 : decode cX3_find 0 = .ok (.iload_n 1, 1) := by decide +kernel
theorem dX3_find_1 : decode cX3_find 1 = .ok (.bipush 8, 2) := by decide +kernel
theorem dX3_find_3 : decode cX3_find 3 = .ok (.invokestatic 51, 3) := by decide +kernel
theorem dX3_find_6 : decode cX3_find 6 = .ok (.ifCond .eq 24, 3) := by decide +kernel
theorem dX3_find_9 : decode cX3_find 9 = .ok (.aload_n 0, 1) := by decide +kernel
theorem dX3_find_10 : decode cX3_find 10 = .ok (.getfield 11, 3) := by decide +kernel
theorem dX3_find_13 : decode cX3_find 13 = .ok (.iload_n 1, 1) := by decide +kernel
theorem dX3_find_14 : decode cX3_find 14 = .ok (.aaload, 1) := by decide +kernel
theorem dX3_find_15 : decode cX3_find 15 = .ok (.getfield 55, 3) := by decide +kernel
theorem dX3_find_18 : decode cX3_find 18 = .ok (.ifCond .eq 12, 3) := by decide +kernel
theorem dX3_find_21 : decode cX3_find 21 = .ok (.aload_n 0, 1) := by decide +kernel
theorem dX3_find_22 : decode cX3_find 22 = .ok (.getfield 11, 3) := by decide +kernel
theorem dX3_find_25 : decode cX3_find 25 = .ok (.iload_n 1, 1) := by decide +kernel
theorem dX3_find_26 : decode cX3_find 26 = .ok (.aaload, 1) := by decide +kernel
theorem dX3_find_27 : decode cX3_find 27 = .ok (.goto 4, 3) := by decide +kernel
theorem dX3_find_30 : decode cX3_find 30 = .ok (.aconst_null, 1) := by decide +kernel
theorem dX3_find_31 : decode cX3_find 31 = .ok (.areturn, 1) := by decide +kernel
theorem dX3_lowestFree_0 : decode cX3_lowestFree 0 = .ok (.iconst 0, 1) := by decide +kernel
theorem dX3_lowestFree_1 : decode cX3_lowestFree 1 = .ok (.istore_n 1, 1) := by decide +kernel
theorem dX3_lowestFree_2 : decode cX3_lowestFree 2 = .ok (.iload_n 1, 1) := by decide +kernel
theorem dX3_lowestFree_3 : decode cX3_lowestFree 3 = .ok (.bipush 8, 2) := by decide +kernel
theorem dX3_lowestFree_5 : decode cX3_lowestFree 5 = .ok (.if_icmp .ge 23, 3) := by decide +kernel
theorem dX3_lowestFree_8 : decode cX3_lowestFree 8 = .ok (.aload_n 0, 1) := by decide +kernel
theorem dX3_lowestFree_9 : decode cX3_lowestFree 9 = .ok (.getfield 11, 3) := by decide +kernel
theorem dX3_lowestFree_12 : decode cX3_lowestFree 12 = .ok (.iload_n 1, 1) := by decide +kernel
theorem dX3_lowestFree_13 : decode cX3_lowestFree 13 = .ok (.aaload, 1) := by decide +kernel
theorem dX3_lowestFree_14 : decode cX3_lowestFree 14 = .ok (.getfield 55, 3) := by decide +kernel
theorem dX3_lowestFree_17 : decode cX3_lowestFree 17 = .ok (.ifCond .ne 5, 3) := by decide +kernel
theorem dX3_lowestFree_20 : decode cX3_lowestFree 20 = .ok (.iload_n 1, 1) := by decide +kernel
theorem dX3_lowestFree_21 : decode cX3_lowestFree 21 = .ok (.ireturn, 1) := by decide +kernel
theorem dX3_lowestFree_22 : decode cX3_lowestFree 22 = .ok (.iinc 1 1, 3) := by decide +kernel
theorem dX3_lowestFree_25 : decode cX3_lowestFree 25 = .ok (.goto (-23), 3) := by decide +kernel
theorem dX3_lowestFree_28 : decode cX3_lowestFree 28 = .ok (.bipush (-6), 2) := by decide +kernel
theorem dX3_lowestFree_30 : decode cX3_lowestFree 30 = .ok (.ireturn, 1) := by decide +kernel
theorem dX3_welcome_0 : decode cX3_welcome 0 = .ok (.iload_n 1, 1) := by decide +kernel
theorem dX3_welcome_1 : decode cX3_welcome 1 = .ok (.bipush 8, 2) := by decide +kernel
theorem dX3_welcome_3 : decode cX3_welcome 3 = .ok (.invokestatic 51, 3) := by decide +kernel
theorem dX3_welcome_6 : decode cX3_welcome 6 = .ok (.ifCond .eq 12, 3) := by decide +kernel
theorem dX3_welcome_9 : decode cX3_welcome 9 = .ok (.aload_n 0, 1) := by decide +kernel
theorem dX3_welcome_10 : decode cX3_welcome 10 = .ok (.getfield 11, 3) := by decide +kernel
theorem dX3_welcome_13 : decode cX3_welcome 13 = .ok (.iload_n 1, 1) := by decide +kernel
theorem dX3_welcome_14 : decode cX3_welcome 14 = .ok (.aaload, 1) := by decide +kernel
theorem dX3_welcome_15 : decode cX3_welcome 15 = .ok (.invokevirtual 59, 3) := by decide +kernel
theorem dX3_welcome_18 : decode cX3_welcome 18 = .ok (.return_, 1) := by decide +kernel
theorem dX3_settingAt_0 : decode cX3_settingAt 0 = .ok (.iload_n 1, 1) := by decide +kernel
theorem dX3_settingAt_1 : decode cX3_settingAt 1 = .ok (.iconst 4, 1) := by decide +kernel
theorem dX3_settingAt_2 : decode cX3_settingAt 2 = .ok (.invokestatic 51, 3) := by decide +kernel
theorem dX3_settingAt_5 : decode cX3_settingAt 5 = .ok (.ifCond .eq 12, 3) := by decide +kernel
theorem dX3_settingAt_8 : decode cX3_settingAt 8 = .ok (.aload_n 0, 1) := by decide +kernel
theorem dX3_settingAt_9 : decode cX3_settingAt 9 = .ok (.getfield 18, 3) := by decide +kernel
theorem dX3_settingAt_12 : decode cX3_settingAt 12 = .ok (.iload_n 1, 1) := by decide +kernel
theorem dX3_settingAt_13 : decode cX3_settingAt 13 = .ok (.iaload, 1) := by decide +kernel
theorem dX3_settingAt_14 : decode cX3_settingAt 14 = .ok (.goto 4, 3) := by decide +kernel
theorem dX3_settingAt_17 : decode cX3_settingAt 17 = .ok (.iconst 0, 1) := by decide +kernel
theorem dX3_settingAt_18 : decode cX3_settingAt 18 = .ok (.ireturn, 1) := by decide +kernel
theorem dX3_putSetting_0 : decode cX3_putSetting 0 = .ok (.iload_n 1, 1) := by decide +kernel
theorem dX3_putSetting_1 : decode cX3_putSetting 1 = .ok (.iconst 4, 1) := by decide +kernel
theorem dX3_putSetting_2 : decode cX3_putSetting 2 = .ok (.invokestatic 51, 3) := by decide +kernel
theorem dX3_putSetting_5 : decode cX3_putSetting 5 = .ok (.ifCond .eq 10, 3) := by decide +kernel
theorem dX3_putSetting_8 : decode cX3_putSetting 8 = .ok (.aload_n 0, 1) := by decide +kernel
theorem dX3_putSetting_9 : decode cX3_putSetting 9 = .ok (.getfield 18, 3) := by decide +kernel
theorem dX3_putSetting_12 : decode cX3_putSetting 12 = .ok (.iload_n 1, 1) := by decide +kernel
theorem dX3_putSetting_13 : decode cX3_putSetting 13 = .ok (.iload_n 2, 1) := by decide +kernel
theorem dX3_putSetting_14 : decode cX3_putSetting 14 = .ok (.iastore, 1) := by decide +kernel
theorem dX3_putSetting_15 : decode cX3_putSetting 15 = .ok (.return_, 1) := by decide +kernel
theorem dX3_draw_0 : decode cX3_draw 0 = .ok (.aload_n 0, 1) := by decide +kernel
theorem dX3_draw_1 : decode cX3_draw 1 = .ok (.sipush 25173, 3) := by decide +kernel
theorem dX3_draw_4 : decode cX3_draw 4 = .ok (.aload_n 0, 1) := by decide +kernel
theorem dX3_draw_5 : decode cX3_draw 5 = .ok (.getfield 25, 3) := by decide +kernel
theorem dX3_draw_8 : decode cX3_draw 8 = .ok (.imul, 1) := by decide +kernel
theorem dX3_draw_9 : decode cX3_draw 9 = .ok (.sipush 13849, 3) := by decide +kernel
theorem dX3_draw_12 : decode cX3_draw 12 = .ok (.iadd, 1) := by decide +kernel
theorem dX3_draw_13 : decode cX3_draw 13 = .ok (.ldc 62, 2) := by decide +kernel
theorem dX3_draw_15 : decode cX3_draw 15 = .ok (.irem, 1) := by decide +kernel
theorem dX3_draw_16 : decode cX3_draw 16 = .ok (.putfield 25, 3) := by decide +kernel
theorem dX3_draw_19 : decode cX3_draw 19 = .ok (.iload_n 1, 1) := by decide +kernel
theorem dX3_draw_20 : decode cX3_draw 20 = .ok (.iconst 1, 1) := by decide +kernel
theorem dX3_draw_21 : decode cX3_draw 21 = .ok (.if_icmp .ge 7, 3) := by decide +kernel
theorem dX3_draw_24 : decode cX3_draw 24 = .ok (.iconst 0, 1) := by decide +kernel
theorem dX3_draw_25 : decode cX3_draw 25 = .ok (.goto 12, 3) := by decide +kernel
theorem dX3_draw_28 : decode cX3_draw 28 = .ok (.aload_n 0, 1) := by decide +kernel
theorem dX3_draw_29 : decode cX3_draw 29 = .ok (.getfield 25, 3) := by decide +kernel
theorem dX3_draw_32 : decode cX3_draw 32 = .ok (.bipush 16, 2) := by decide +kernel
theorem dX3_draw_34 : decode cX3_draw 34 = .ok (.idiv, 1) := by decide +kernel
theorem dX3_draw_35 : decode cX3_draw 35 = .ok (.iload_n 1, 1) := by decide +kernel
theorem dX3_draw_36 : decode cX3_draw 36 = .ok (.irem, 1) := by decide +kernel
theorem dX3_draw_37 : decode cX3_draw 37 = .ok (.ireturn, 1) := by decide +kernel
theorem dX3_countSpeakers_0 : decode cX3_countSpeakers 0 = .ok (.iconst 0, 1) := by decide +kernel
theorem dX3_countSpeakers_1 : decode cX3_countSpeakers 1 = .ok (.istore_n 1, 1) := by decide +kernel
theorem dX3_countSpeakers_2 : decode cX3_countSpeakers 2 = .ok (.iconst 0, 1) := by decide +kernel
theorem dX3_countSpeakers_3 : decode cX3_countSpeakers 3 = .ok (.istore_n 2, 1) := by decide +kernel
theorem dX3_countSpeakers_4 : decode cX3_countSpeakers 4 = .ok (.iload_n 2, 1) := by decide +kernel
theorem dX3_countSpeakers_5 : decode cX3_countSpeakers 5 = .ok (.bipush 8, 2) := by decide +kernel
theorem dX3_countSpeakers_7 : decode cX3_countSpeakers 7 = .ok (.if_icmp .ge 24, 3) := by decide +kernel
theorem dX3_countSpeakers_10 : decode cX3_countSpeakers 10 = .ok (.aload_n 0, 1) := by decide +kernel
theorem dX3_countSpeakers_11 : decode cX3_countSpeakers 11 = .ok (.getfield 11, 3) := by decide +kernel
theorem dX3_countSpeakers_14 : decode cX3_countSpeakers 14 = .ok (.iload_n 2, 1) := by decide +kernel
theorem dX3_countSpeakers_15 : decode cX3_countSpeakers 15 = .ok (.aaload, 1) := by decide +kernel
theorem dX3_countSpeakers_16 : decode cX3_countSpeakers 16 = .ok (.getfield 55, 3) := by decide +kernel
theorem dX3_countSpeakers_19 : decode cX3_countSpeakers 19 = .ok (.ifCond .eq 6, 3) := by decide +kernel
theorem dX3_countSpeakers_22 : decode cX3_countSpeakers 22 = .ok (.iinc 1 1, 3) := by decide +kernel
theorem dX3_countSpeakers_25 : decode cX3_countSpeakers 25 = .ok (.iinc 2 1, 3) := by decide +kernel
theorem dX3_countSpeakers_28 : decode cX3_countSpeakers 28 = .ok (.goto (-24), 3) := by decide +kernel
theorem dX3_countSpeakers_31 : decode cX3_countSpeakers 31 = .ok (.iload_n 1, 1) := by decide +kernel
theorem dX3_countSpeakers_32 : decode cX3_countSpeakers 32 = .ok (.ireturn, 1) := by decide +kernel
theorem dX3_holdMeeting_0 : decode cX3_holdMeeting 0 = .ok (.aload_n 1, 1) := by decide +kernel
theorem dX3_holdMeeting_1 : decode cX3_holdMeeting 1 = .ok (.iload_n 3, 1) := by decide +kernel
theorem dX3_holdMeeting_2 : decode cX3_holdMeeting 2 = .ok (.invokevirtual 63, 3) := by decide +kernel
theorem dX3_holdMeeting_5 : decode cX3_holdMeeting 5 = .ok (.istore 4, 2) := by decide +kernel
theorem dX3_holdMeeting_7 : decode cX3_holdMeeting 7 = .ok (.iload 4, 2) := by decide +kernel
theorem dX3_holdMeeting_9 : decode cX3_holdMeeting 9 = .ok (.bipush (-6), 2) := by decide +kernel
theorem dX3_holdMeeting_11 : decode cX3_holdMeeting 11 = .ok (.if_icmp .ne 11, 3) := by decide +kernel
theorem dX3_holdMeeting_14 : decode cX3_holdMeeting 14 = .ok (.aload_n 0, 1) := by decide +kernel
theorem dX3_holdMeeting_15 : decode cX3_holdMeeting 15 = .ok (.bipush 14, 2) := by decide +kernel
theorem dX3_holdMeeting_17 : decode cX3_holdMeeting 17 = .ok (.invokevirtual 67, 3) := by decide +kernel
theorem dX3_holdMeeting_20 : decode cX3_holdMeeting 20 = .ok (.istore 4, 2) := by decide +kernel
theorem dX3_holdMeeting_22 : decode cX3_holdMeeting 22 = .ok (.aload_n 2, 1) := by decide +kernel
theorem dX3_holdMeeting_23 : decode cX3_holdMeeting 23 = .ok (.iload 4, 2) := by decide +kernel
theorem dX3_holdMeeting_25 : decode cX3_holdMeeting 25 = .ok (.invokevirtual 70, 3) := by decide +kernel
theorem dX3_holdMeeting_28 : decode cX3_holdMeeting 28 = .ok (.istore 5, 2) := by decide +kernel
theorem dX3_holdMeeting_30 : decode cX3_holdMeeting 30 = .ok (.iload 5, 2) := by decide +kernel
theorem dX3_holdMeeting_32 : decode cX3_holdMeeting 32 = .ok (.bipush (-6), 2) := by decide +kernel
theorem dX3_holdMeeting_34 : decode cX3_holdMeeting 34 = .ok (.if_icmp .ne 11, 3) := by decide +kernel
theorem dX3_holdMeeting_37 : decode cX3_holdMeeting 37 = .ok (.aload_n 0, 1) := by decide +kernel
theorem dX3_holdMeeting_38 : decode cX3_holdMeeting 38 = .ok (.bipush 6, 2) := by decide +kernel
theorem dX3_holdMeeting_40 : decode cX3_holdMeeting 40 = .ok (.invokevirtual 67, 3) := by decide +kernel
theorem dX3_holdMeeting_43 : decode cX3_holdMeeting 43 = .ok (.istore 5, 2) := by decide +kernel
theorem dX3_holdMeeting_45 : decode cX3_holdMeeting 45 = .ok (.aload_n 0, 1) := by decide +kernel
theorem dX3_holdMeeting_46 : decode cX3_holdMeeting 46 = .ok (.dup, 1) := by decide +kernel
theorem dX3_holdMeeting_47 : decode cX3_holdMeeting 47 = .ok (.getfield 39, 3) := by decide +kernel
theorem dX3_holdMeeting_50 : decode cX3_holdMeeting 50 = .ok (.iconst 1, 1) := by decide +kernel
theorem dX3_holdMeeting_51 : decode cX3_holdMeeting 51 = .ok (.iadd, 1) := by decide +kernel
theorem dX3_holdMeeting_52 : decode cX3_holdMeeting 52 = .ok (.putfield 39, 3) := by decide +kernel
theorem dX3_holdMeeting_55 : decode cX3_holdMeeting 55 = .ok (.aload_n 1, 1) := by decide +kernel
theorem dX3_holdMeeting_56 : decode cX3_holdMeeting 56 = .ok (.dup, 1) := by decide +kernel
theorem dX3_holdMeeting_57 : decode cX3_holdMeeting 57 = .ok (.getfield 73, 3) := by decide +kernel
theorem dX3_holdMeeting_60 : decode cX3_holdMeeting 60 = .ok (.iconst 1, 1) := by decide +kernel
theorem dX3_holdMeeting_61 : decode cX3_holdMeeting 61 = .ok (.iadd, 1) := by decide +kernel
theorem dX3_holdMeeting_62 : decode cX3_holdMeeting 62 = .ok (.putfield 73, 3) := by decide +kernel
theorem dX3_holdMeeting_65 : decode cX3_holdMeeting 65 = .ok (.aload_n 2, 1) := by decide +kernel
theorem dX3_holdMeeting_66 : decode cX3_holdMeeting 66 = .ok (.dup, 1) := by decide +kernel
theorem dX3_holdMeeting_67 : decode cX3_holdMeeting 67 = .ok (.getfield 73, 3) := by decide +kernel
theorem dX3_holdMeeting_70 : decode cX3_holdMeeting 70 = .ok (.iconst 1, 1) := by decide +kernel
theorem dX3_holdMeeting_71 : decode cX3_holdMeeting 71 = .ok (.iadd, 1) := by decide +kernel
theorem dX3_holdMeeting_72 : decode cX3_holdMeeting 72 = .ok (.putfield 73, 3) := by decide +kernel
theorem dX3_holdMeeting_75 : decode cX3_holdMeeting 75 = .ok (.aload_n 0, 1) := by decide +kernel
theorem dX3_holdMeeting_76 : decode cX3_holdMeeting 76 = .ok (.getfield 18, 3) := by decide +kernel
theorem dX3_holdMeeting_79 : decode cX3_holdMeeting 79 = .ok (.iconst 1, 1) := by decide +kernel
theorem dX3_holdMeeting_80 : decode cX3_holdMeeting 80 = .ok (.iaload, 1) := by decide +kernel
theorem dX3_holdMeeting_81 : decode cX3_holdMeeting 81 = .ok (.istore 6, 2) := by decide +kernel
theorem dX3_holdMeeting_83 : decode cX3_holdMeeting 83 = .ok (.iload 5, 2) := by decide +kernel
theorem dX3_holdMeeting_85 : decode cX3_holdMeeting 85 = .ok (.iload_n 3, 1) := by decide +kernel
theorem dX3_holdMeeting_86 : decode cX3_holdMeeting 86 = .ok (.if_icmp .ne 55, 3) := by decide +kernel
theorem dX3_holdMeeting_89 : decode cX3_holdMeeting 89 = .ok (.aload_n 0, 1) := by decide +kernel
theorem dX3_holdMeeting_90 : decode cX3_holdMeeting 90 = .ok (.dup, 1) := by decide +kernel
theorem dX3_holdMeeting_91 : decode cX3_holdMeeting 91 = .ok (.getfield 42, 3) := by decide +kernel
theorem dX3_holdMeeting_94 : decode cX3_holdMeeting 94 = .ok (.iconst 1, 1) := by decide +kernel
theorem dX3_holdMeeting_95 : decode cX3_holdMeeting 95 = .ok (.iadd, 1) := by decide +kernel
theorem dX3_holdMeeting_96 : decode cX3_holdMeeting 96 = .ok (.putfield 42, 3) := by decide +kernel
theorem dX3_holdMeeting_99 : decode cX3_holdMeeting 99 = .ok (.aload_n 1, 1) := by decide +kernel
theorem dX3_holdMeeting_100 : decode cX3_holdMeeting 100 = .ok (.iload_n 3, 1) := by decide +kernel
theorem dX3_holdMeeting_101 : decode cX3_holdMeeting 101 = .ok (.iload 4, 2) := by decide +kernel
theorem dX3_holdMeeting_103 : decode cX3_holdMeeting 103 = .ok (.aload_n 0, 1) := by decide +kernel
theorem dX3_holdMeeting_104 : decode cX3_holdMeeting 104 = .ok (.getfield 18, 3) := by decide +kernel
theorem dX3_holdMeeting_107 : decode cX3_holdMeeting 107 = .ok (.iconst 0, 1) := by decide +kernel
theorem dX3_holdMeeting_108 : decode cX3_holdMeeting 108 = .ok (.iaload, 1) := by decide +kernel
theorem dX3_holdMeeting_109 : decode cX3_holdMeeting 109 = .ok (.iload 6, 2) := by decide +kernel
theorem dX3_holdMeeting_111 : decode cX3_holdMeeting 111 = .ok (.invokevirtual 74, 3) := by decide +kernel
theorem dX3_holdMeeting_114 : decode cX3_holdMeeting 114 = .ok (.aload_n 2, 1) := by decide +kernel
theorem dX3_holdMeeting_115 : decode cX3_holdMeeting 115 = .ok (.iload_n 3, 1) := by decide +kernel
theorem dX3_holdMeeting_116 : decode cX3_holdMeeting 116 = .ok (.iload 4, 2) := by decide +kernel
theorem dX3_holdMeeting_118 : decode cX3_holdMeeting 118 = .ok (.aload_n 0, 1) := by decide +kernel
theorem dX3_holdMeeting_119 : decode cX3_holdMeeting 119 = .ok (.getfield 18, 3) := by decide +kernel
theorem dX3_holdMeeting_122 : decode cX3_holdMeeting 122 = .ok (.iconst 0, 1) := by decide +kernel
theorem dX3_holdMeeting_123 : decode cX3_holdMeeting 123 = .ok (.iaload, 1) := by decide +kernel
theorem dX3_holdMeeting_124 : decode cX3_holdMeeting 124 = .ok (.iload 6, 2) := by decide +kernel
theorem dX3_holdMeeting_126 : decode cX3_holdMeeting 126 = .ok (.invokevirtual 74, 3) := by decide +kernel
theorem dX3_holdMeeting_129 : decode cX3_holdMeeting 129 = .ok (.aload_n 2, 1) := by decide +kernel
theorem dX3_holdMeeting_130 : decode cX3_holdMeeting 130 = .ok (.iload_n 3, 1) := by decide +kernel
theorem dX3_holdMeeting_131 : decode cX3_holdMeeting 131 = .ok (.iload 4, 2) := by decide +kernel
theorem dX3_holdMeeting_133 : decode cX3_holdMeeting 133 = .ok (.iload 6, 2) := by decide +kernel
theorem dX3_holdMeeting_135 : decode cX3_holdMeeting 135 = .ok (.invokevirtual 78, 3) := by decide +kernel
theorem dX3_holdMeeting_138 : decode cX3_holdMeeting 138 = .ok (.goto 32, 3) := by decide +kernel
theorem dX3_holdMeeting_141 : decode cX3_holdMeeting 141 = .ok (.aload_n 1, 1) := by decide +kernel
theorem dX3_holdMeeting_142 : decode cX3_holdMeeting 142 = .ok (.iload_n 3, 1) := by decide +kernel
theorem dX3_holdMeeting_143 : decode cX3_holdMeeting 143 = .ok (.iload 4, 2) := by decide +kernel
theorem dX3_holdMeeting_145 : decode cX3_holdMeeting 145 = .ok (.iload 6, 2) := by decide +kernel
theorem dX3_holdMeeting_147 : decode cX3_holdMeeting 147 = .ok (.ineg, 1) := by decide +kernel
theorem dX3_holdMeeting_148 : decode cX3_holdMeeting 148 = .ok (.invokevirtual 82, 3) := by decide +kernel
theorem dX3_holdMeeting_151 : decode cX3_holdMeeting 151 = .ok (.aload_n 2, 1) := by decide +kernel
theorem dX3_holdMeeting_152 : decode cX3_holdMeeting 152 = .ok (.iload_n 3, 1) := by decide +kernel
theorem dX3_holdMeeting_153 : decode cX3_holdMeeting 153 = .ok (.iload 4, 2) := by decide +kernel
theorem dX3_holdMeeting_155 : decode cX3_holdMeeting 155 = .ok (.iconst 1, 1) := by decide +kernel
theorem dX3_holdMeeting_156 : decode cX3_holdMeeting 156 = .ok (.invokevirtual 82, 3) := by decide +kernel
theorem dX3_holdMeeting_159 : decode cX3_holdMeeting 159 = .ok (.aload_n 2, 1) := by decide +kernel
theorem dX3_holdMeeting_160 : decode cX3_holdMeeting 160 = .ok (.iload 5, 2) := by decide +kernel
theorem dX3_holdMeeting_162 : decode cX3_holdMeeting 162 = .ok (.iload 4, 2) := by decide +kernel
theorem dX3_holdMeeting_164 : decode cX3_holdMeeting 164 = .ok (.iload 6, 2) := by decide +kernel
theorem dX3_holdMeeting_166 : decode cX3_holdMeeting 166 = .ok (.ineg, 1) := by decide +kernel
theorem dX3_holdMeeting_167 : decode cX3_holdMeeting 167 = .ok (.invokevirtual 82, 3) := by decide +kernel
theorem dX3_holdMeeting_170 : decode cX3_holdMeeting 170 = .ok (.bipush 10, 2) := by decide +kernel
theorem dX3_holdMeeting_172 : decode cX3_holdMeeting 172 = .ok (.iload 4, 2) := by decide +kernel
theorem dX3_holdMeeting_174 : decode cX3_holdMeeting 174 = .ok (.imul, 1) := by decide +kernel
theorem dX3_holdMeeting_175 : decode cX3_holdMeeting 175 = .ok (.iload 5, 2) := by decide +kernel
theorem dX3_holdMeeting_177 : decode cX3_holdMeeting 177 = .ok (.iadd, 1) := by decide +kernel
theorem dX3_holdMeeting_178 : decode cX3_holdMeeting 178 = .ok (.ireturn, 1) := by decide +kernel
theorem dX3_passYears_0 : decode cX3_passYears 0 = .ok (.aload_n 0, 1) := by decide +kernel
theorem dX3_passYears_1 : decode cX3_passYears 1 = .ok (.getfield 45, 3) := by decide +kernel
theorem dX3_passYears_4 : decode cX3_passYears 4 = .ok (.istore_n 2, 1) := by decide +kernel
theorem dX3_passYears_5 : decode cX3_passYears 5 = .ok (.iconst 0, 1) := by decide +kernel
theorem dX3_passYears_6 : decode cX3_passYears 6 = .ok (.istore_n 3, 1) := by decide +kernel
theorem dX3_passYears_7 : decode cX3_passYears 7 = .ok (.iload_n 3, 1) := by decide +kernel
theorem dX3_passYears_8 : decode cX3_passYears 8 = .ok (.iload_n 1, 1) := by decide +kernel
theorem dX3_passYears_9 : decode cX3_passYears 9 = .ok (.if_icmp .ge 13, 3) := by decide +kernel
theorem dX3_passYears_12 : decode cX3_passYears 12 = .ok (.aload_n 0, 1) := by decide +kernel
theorem dX3_passYears_13 : decode cX3_passYears 13 = .ok (.invokevirtual 101, 3) := by decide +kernel
theorem dX3_passYears_16 : decode cX3_passYears 16 = .ok (.iinc 3 1, 3) := by decide +kernel
theorem dX3_passYears_19 : decode cX3_passYears 19 = .ok (.goto (-12), 3) := by decide +kernel
theorem dX3_passYears_22 : decode cX3_passYears 22 = .ok (.aload_n 0, 1) := by decide +kernel
theorem dX3_passYears_23 : decode cX3_passYears 23 = .ok (.getfield 45, 3) := by decide +kernel
theorem dX3_passYears_26 : decode cX3_passYears 26 = .ok (.iload_n 2, 1) := by decide +kernel
theorem dX3_passYears_27 : decode cX3_passYears 27 = .ok (.isub, 1) := by decide +kernel
theorem dX3_passYears_28 : decode cX3_passYears 28 = .ok (.ireturn, 1) := by decide +kernel
theorem dX3_passYear_0 : decode cX3_passYear 0 = .ok (.aload_n 0, 1) := by decide +kernel
theorem dX3_passYear_1 : decode cX3_passYear 1 = .ok (.dup, 1) := by decide +kernel
theorem dX3_passYear_2 : decode cX3_passYear 2 = .ok (.getfield 48, 3) := by decide +kernel
theorem dX3_passYear_5 : decode cX3_passYear 5 = .ok (.iconst 1, 1) := by decide +kernel
theorem dX3_passYear_6 : decode cX3_passYear 6 = .ok (.iadd, 1) := by decide +kernel
theorem dX3_passYear_7 : decode cX3_passYear 7 = .ok (.putfield 48, 3) := by decide +kernel
theorem dX3_passYear_10 : decode cX3_passYear 10 = .ok (.iconst 0, 1) := by decide +kernel
theorem dX3_passYear_11 : decode cX3_passYear 11 = .ok (.istore_n 1, 1) := by decide +kernel
theorem dX3_passYear_12 : decode cX3_passYear 12 = .ok (.iload_n 1, 1) := by decide +kernel
theorem dX3_passYear_13 : decode cX3_passYear 13 = .ok (.bipush 8, 2) := by decide +kernel
theorem dX3_passYear_15 : decode cX3_passYear 15 = .ok (.if_icmp .ge 36, 3) := by decide +kernel
theorem dX3_passYear_18 : decode cX3_passYear 18 = .ok (.aload_n 0, 1) := by decide +kernel
theorem dX3_passYear_19 : decode cX3_passYear 19 = .ok (.getfield 11, 3) := by decide +kernel
theorem dX3_passYear_22 : decode cX3_passYear 22 = .ok (.iload_n 1, 1) := by decide +kernel
theorem dX3_passYear_23 : decode cX3_passYear 23 = .ok (.aaload, 1) := by decide +kernel
theorem dX3_passYear_24 : decode cX3_passYear 24 = .ok (.getfield 55, 3) := by decide +kernel
theorem dX3_passYear_27 : decode cX3_passYear 27 = .ok (.ifCond .eq 18, 3) := by decide +kernel
theorem dX3_passYear_30 : decode cX3_passYear 30 = .ok (.aload_n 0, 1) := by decide +kernel
theorem dX3_passYear_31 : decode cX3_passYear 31 = .ok (.getfield 11, 3) := by decide +kernel
theorem dX3_passYear_34 : decode cX3_passYear 34 = .ok (.iload_n 1, 1) := by decide +kernel
theorem dX3_passYear_35 : decode cX3_passYear 35 = .ok (.aaload, 1) := by decide +kernel
theorem dX3_passYear_36 : decode cX3_passYear 36 = .ok (.dup, 1) := by decide +kernel
theorem dX3_passYear_37 : decode cX3_passYear 37 = .ok (.getfield 104, 3) := by decide +kernel
theorem dX3_passYear_40 : decode cX3_passYear 40 = .ok (.iconst 1, 1) := by decide +kernel
theorem dX3_passYear_41 : decode cX3_passYear 41 = .ok (.iadd, 1) := by decide +kernel
theorem dX3_passYear_42 : decode cX3_passYear 42 = .ok (.putfield 104, 3) := by decide +kernel
theorem dX3_passYear_45 : decode cX3_passYear 45 = .ok (.iinc 1 1, 3) := by decide +kernel
theorem dX3_passYear_48 : decode cX3_passYear 48 = .ok (.goto (-36), 3) := by decide +kernel
theorem dX3_passYear_51 : decode cX3_passYear 51 = .ok (.iconst 0, 1) := by decide +kernel
theorem dX3_passYear_52 : decode cX3_passYear 52 = .ok (.istore_n 1, 1) := by decide +kernel
theorem dX3_passYear_53 : decode cX3_passYear 53 = .ok (.iload_n 1, 1) := by decide +kernel
theorem dX3_passYear_54 : decode cX3_passYear 54 = .ok (.bipush 8, 2) := by decide +kernel
theorem dX3_passYear_56 : decode cX3_passYear 56 = .ok (.if_icmp .ge 61, 3) := by decide +kernel
theorem dX3_passYear_59 : decode cX3_passYear 59 = .ok (.aload_n 0, 1) := by decide +kernel
theorem dX3_passYear_60 : decode cX3_passYear 60 = .ok (.getfield 11, 3) := by decide +kernel
theorem dX3_passYear_63 : decode cX3_passYear 63 = .ok (.iload_n 1, 1) := by decide +kernel
theorem dX3_passYear_64 : decode cX3_passYear 64 = .ok (.aaload, 1) := by decide +kernel
theorem dX3_passYear_65 : decode cX3_passYear 65 = .ok (.astore_n 2, 1) := by decide +kernel
theorem dX3_passYear_66 : decode cX3_passYear 66 = .ok (.aload_n 2, 1) := by decide +kernel
theorem dX3_passYear_67 : decode cX3_passYear 67 = .ok (.getfield 55, 3) := by decide +kernel
theorem dX3_passYear_70 : decode cX3_passYear 70 = .ok (.ifCond .eq 41, 3) := by decide +kernel
theorem dX3_passYear_73 : decode cX3_passYear 73 = .ok (.aload_n 2, 1) := by decide +kernel
theorem dX3_passYear_74 : decode cX3_passYear 74 = .ok (.getfield 104, 3) := by decide +kernel
theorem dX3_passYear_77 : decode cX3_passYear 77 = .ok (.aload_n 0, 1) := by decide +kernel
theorem dX3_passYear_78 : decode cX3_passYear 78 = .ok (.getfield 18, 3) := by decide +kernel
theorem dX3_passYear_81 : decode cX3_passYear 81 = .ok (.iconst 2, 1) := by decide +kernel
theorem dX3_passYear_82 : decode cX3_passYear 82 = .ok (.iaload, 1) := by decide +kernel
theorem dX3_passYear_83 : decode cX3_passYear 83 = .ok (.if_icmp .le 28, 3) := by decide +kernel
theorem dX3_passYear_86 : decode cX3_passYear 86 = .ok (.aload_n 2, 1) := by decide +kernel
theorem dX3_passYear_87 : decode cX3_passYear 87 = .ok (.aload_n 0, 1) := by decide +kernel
theorem dX3_passYear_88 : decode cX3_passYear 88 = .ok (.iload_n 1, 1) := by decide +kernel
theorem dX3_passYear_89 : decode cX3_passYear 89 = .ok (.invokevirtual 105, 3) := by decide +kernel
theorem dX3_passYear_92 : decode cX3_passYear 92 = .ok (.aload_n 0, 1) := by decide +kernel
theorem dX3_passYear_93 : decode cX3_passYear 93 = .ok (.getfield 18, 3) := by decide +kernel
theorem dX3_passYear_96 : decode cX3_passYear 96 = .ok (.iconst 3, 1) := by decide +kernel
theorem dX3_passYear_97 : decode cX3_passYear 97 = .ok (.iaload, 1) := by decide +kernel
theorem dX3_passYear_98 : decode cX3_passYear 98 = .ok (.invokevirtual 108, 3) := by decide +kernel
theorem dX3_passYear_101 : decode cX3_passYear 101 = .ok (.aload_n 0, 1) := by decide +kernel
theorem dX3_passYear_102 : decode cX3_passYear 102 = .ok (.dup, 1) := by decide +kernel
theorem dX3_passYear_103 : decode cX3_passYear 103 = .ok (.getfield 45, 3) := by decide +kernel
theorem dX3_passYear_106 : decode cX3_passYear 106 = .ok (.iconst 1, 1) := by decide +kernel
theorem dX3_passYear_107 : decode cX3_passYear 107 = .ok (.iadd, 1) := by decide +kernel
theorem dX3_passYear_108 : decode cX3_passYear 108 = .ok (.putfield 45, 3) := by decide +kernel
theorem dX3_passYear_111 : decode cX3_passYear 111 = .ok (.iinc 1 1, 3) := by decide +kernel
theorem dX3_passYear_114 : decode cX3_passYear 114 = .ok (.goto (-61), 3) := by decide +kernel
theorem dX3_passYear_117 : decode cX3_passYear 117 = .ok (.return_, 1) := by decide +kernel
theorem dX3_teacherFor_0 : decode cX3_teacherFor 0 = .ok (.aconst_null, 1) := by decide +kernel
theorem dX3_teacherFor_1 : decode cX3_teacherFor 1 = .ok (.astore_n 2, 1) := by decide +kernel
theorem dX3_teacherFor_2 : decode cX3_teacherFor 2 = .ok (.iconst 0, 1) := by decide +kernel
theorem dX3_teacherFor_3 : decode cX3_teacherFor 3 = .ok (.istore_n 3, 1) := by decide +kernel
theorem dX3_teacherFor_4 : decode cX3_teacherFor 4 = .ok (.iload_n 3, 1) := by decide +kernel
theorem dX3_teacherFor_5 : decode cX3_teacherFor 5 = .ok (.bipush 8, 2) := by decide +kernel
theorem dX3_teacherFor_7 : decode cX3_teacherFor 7 = .ok (.if_icmp .ge 66, 3) := by decide +kernel
theorem dX3_teacherFor_10 : decode cX3_teacherFor 10 = .ok (.aload_n 0, 1) := by decide +kernel
theorem dX3_teacherFor_11 : decode cX3_teacherFor 11 = .ok (.getfield 11, 3) := by decide +kernel
theorem dX3_teacherFor_14 : decode cX3_teacherFor 14 = .ok (.iload_n 3, 1) := by decide +kernel
theorem dX3_teacherFor_15 : decode cX3_teacherFor 15 = .ok (.aaload, 1) := by decide +kernel
theorem dX3_teacherFor_16 : decode cX3_teacherFor 16 = .ok (.astore 4, 2) := by decide +kernel
theorem dX3_teacherFor_18 : decode cX3_teacherFor 18 = .ok (.iload_n 3, 1) := by decide +kernel
theorem dX3_teacherFor_19 : decode cX3_teacherFor 19 = .ok (.iload_n 1, 1) := by decide +kernel
theorem dX3_teacherFor_20 : decode cX3_teacherFor 20 = .ok (.if_icmp .eq 47, 3) := by decide +kernel
theorem dX3_teacherFor_23 : decode cX3_teacherFor 23 = .ok (.aload 4, 2) := by decide +kernel
theorem dX3_teacherFor_25 : decode cX3_teacherFor 25 = .ok (.getfield 55, 3) := by decide +kernel
theorem dX3_teacherFor_28 : decode cX3_teacherFor 28 = .ok (.ifCond .eq 39, 3) := by decide +kernel
theorem dX3_teacherFor_31 : decode cX3_teacherFor 31 = .ok (.aload 4, 2) := by decide +kernel
theorem dX3_teacherFor_33 : decode cX3_teacherFor 33 = .ok (.getfield 104, 3) := by decide +kernel
theorem dX3_teacherFor_36 : decode cX3_teacherFor 36 = .ok (.aload_n 0, 1) := by decide +kernel
theorem dX3_teacherFor_37 : decode cX3_teacherFor 37 = .ok (.getfield 18, 3) := by decide +kernel
theorem dX3_teacherFor_40 : decode cX3_teacherFor 40 = .ok (.iconst 2, 1) := by decide +kernel
theorem dX3_teacherFor_41 : decode cX3_teacherFor 41 = .ok (.iaload, 1) := by decide +kernel
theorem dX3_teacherFor_42 : decode cX3_teacherFor 42 = .ok (.if_icmp .le 6, 3) := by decide +kernel
theorem dX3_teacherFor_45 : decode cX3_teacherFor 45 = .ok (.goto 22, 3) := by decide +kernel
theorem dX3_teacherFor_48 : decode cX3_teacherFor 48 = .ok (.aload_n 2, 1) := by decide +kernel
theorem dX3_teacherFor_49 : decode cX3_teacherFor 49 = .ok (.ifnull 15, 3) := by decide +kernel
theorem dX3_teacherFor_52 : decode cX3_teacherFor 52 = .ok (.aload 4, 2) := by decide +kernel
theorem dX3_teacherFor_54 : decode cX3_teacherFor 54 = .ok (.getfield 104, 3) := by decide +kernel
theorem dX3_teacherFor_57 : decode cX3_teacherFor 57 = .ok (.aload_n 2, 1) := by decide +kernel
theorem dX3_teacherFor_58 : decode cX3_teacherFor 58 = .ok (.getfield 104, 3) := by decide +kernel
theorem dX3_teacherFor_61 : decode cX3_teacherFor 61 = .ok (.if_icmp .ge 6, 3) := by decide +kernel
theorem dX3_teacherFor_64 : decode cX3_teacherFor 64 = .ok (.aload 4, 2) := by decide +kernel
theorem dX3_teacherFor_66 : decode cX3_teacherFor 66 = .ok (.astore_n 2, 1) := by decide +kernel
theorem dX3_teacherFor_67 : decode cX3_teacherFor 67 = .ok (.iinc 3 1, 3) := by decide +kernel
theorem dX3_teacherFor_70 : decode cX3_teacherFor 70 = .ok (.goto (-66), 3) := by decide +kernel
theorem dX3_teacherFor_73 : decode cX3_teacherFor 73 = .ok (.aload_n 2, 1) := by decide +kernel
theorem dX3_teacherFor_74 : decode cX3_teacherFor 74 = .ok (.areturn, 1) := by decide +kernel
theorem dX3_numberOf_0 : decode cX3_numberOf 0 = .ok (.iload_n 1, 1) := by decide +kernel
theorem dX3_numberOf_1 : decode cX3_numberOf 1 = .ok (.tableswitch 69 0 5 #[39, 44, 49, 54, 59, 64], 39) := by decide +kernel
theorem dX3_numberOf_40 : decode cX3_numberOf 40 = .ok (.aload_n 0, 1) := by decide +kernel
theorem dX3_numberOf_41 : decode cX3_numberOf 41 = .ok (.invokevirtual 85, 3) := by decide +kernel
theorem dX3_numberOf_44 : decode cX3_numberOf 44 = .ok (.ireturn, 1) := by decide +kernel
theorem dX3_numberOf_45 : decode cX3_numberOf 45 = .ok (.aload_n 0, 1) := by decide +kernel
theorem dX3_numberOf_46 : decode cX3_numberOf 46 = .ok (.getfield 25, 3) := by decide +kernel
theorem dX3_numberOf_49 : decode cX3_numberOf 49 = .ok (.ireturn, 1) := by decide +kernel
theorem dX3_numberOf_50 : decode cX3_numberOf 50 = .ok (.aload_n 0, 1) := by decide +kernel
theorem dX3_numberOf_51 : decode cX3_numberOf 51 = .ok (.getfield 39, 3) := by decide +kernel
theorem dX3_numberOf_54 : decode cX3_numberOf 54 = .ok (.ireturn, 1) := by decide +kernel
theorem dX3_numberOf_55 : decode cX3_numberOf 55 = .ok (.aload_n 0, 1) := by decide +kernel
theorem dX3_numberOf_56 : decode cX3_numberOf 56 = .ok (.getfield 42, 3) := by decide +kernel
theorem dX3_numberOf_59 : decode cX3_numberOf 59 = .ok (.ireturn, 1) := by decide +kernel
theorem dX3_numberOf_60 : decode cX3_numberOf 60 = .ok (.aload_n 0, 1) := by decide +kernel
theorem dX3_numberOf_61 : decode cX3_numberOf 61 = .ok (.getfield 45, 3) := by decide +kernel
theorem dX3_numberOf_64 : decode cX3_numberOf 64 = .ok (.ireturn, 1) := by decide +kernel
theorem dX3_numberOf_65 : decode cX3_numberOf 65 = .ok (.aload_n 0, 1) := by decide +kernel
theorem dX3_numberOf_66 : decode cX3_numberOf 66 = .ok (.getfield 48, 3) := by decide +kernel
theorem dX3_numberOf_69 : decode cX3_numberOf 69 = .ok (.ireturn, 1) := by decide +kernel
theorem dX3_numberOf_70 : decode cX3_numberOf 70 = .ok (.aload_n 0, 1) := by decide +kernel
theorem dX3_numberOf_71 : decode cX3_numberOf 71 = .ok (.invokevirtual 112, 3) := by decide +kernel
theorem dX3_numberOf_74 : decode cX3_numberOf 74 = .ok (.ireturn, 1) := by decide +kernel
theorem dX3_numberOfSpeaker_0 : decode cX3_numberOfSpeaker 0 = .ok (.iload_n 2, 1) := by decide +kernel
theorem dX3_numberOfSpeaker_1 : decode cX3_numberOfSpeaker 1 = .ok (.tableswitch 57 0 3 #[31, 36, 47, 52], 31) := by decide +kernel
theorem dX3_numberOfSpeaker_32 : decode cX3_numberOfSpeaker 32 = .ok (.aload_n 1, 1) := by decide +kernel
theorem dX3_numberOfSpeaker_33 : decode cX3_numberOfSpeaker 33 = .ok (.getfield 104, 3) := by decide +kernel
theorem dX3_numberOfSpeaker_36 : decode cX3_numberOfSpeaker 36 = .ok (.ireturn, 1) := by decide +kernel
theorem dX3_numberOfSpeaker_37 : decode cX3_numberOfSpeaker 37 = .ok (.aload_n 1, 1) := by decide +kernel
theorem dX3_numberOfSpeaker_38 : decode cX3_numberOfSpeaker 38 = .ok (.aload_n 0, 1) := by decide +kernel
theorem dX3_numberOfSpeaker_39 : decode cX3_numberOfSpeaker 39 = .ok (.getfield 18, 3) := by decide +kernel
theorem dX3_numberOfSpeaker_42 : decode cX3_numberOfSpeaker 42 = .ok (.iconst 0, 1) := by decide +kernel
theorem dX3_numberOfSpeaker_43 : decode cX3_numberOfSpeaker 43 = .ok (.iaload, 1) := by decide +kernel
theorem dX3_numberOfSpeaker_44 : decode cX3_numberOfSpeaker 44 = .ok (.invokevirtual 115, 3) := by decide +kernel
theorem dX3_numberOfSpeaker_47 : decode cX3_numberOfSpeaker 47 = .ok (.ireturn, 1) := by decide +kernel
theorem dX3_numberOfSpeaker_48 : decode cX3_numberOfSpeaker 48 = .ok (.aload_n 1, 1) := by decide +kernel
theorem dX3_numberOfSpeaker_49 : decode cX3_numberOfSpeaker 49 = .ok (.invokevirtual 118, 3) := by decide +kernel
theorem dX3_numberOfSpeaker_52 : decode cX3_numberOfSpeaker 52 = .ok (.ireturn, 1) := by decide +kernel
theorem dX3_numberOfSpeaker_53 : decode cX3_numberOfSpeaker 53 = .ok (.aload_n 1, 1) := by decide +kernel
theorem dX3_numberOfSpeaker_54 : decode cX3_numberOfSpeaker 54 = .ok (.invokevirtual 121, 3) := by decide +kernel
theorem dX3_numberOfSpeaker_57 : decode cX3_numberOfSpeaker 57 = .ok (.ireturn, 1) := by decide +kernel
theorem dX3_numberOfSpeaker_58 : decode cX3_numberOfSpeaker 58 = .ok (.aload_n 1, 1) := by decide +kernel
theorem dX3_numberOfSpeaker_59 : decode cX3_numberOfSpeaker 59 = .ok (.getfield 73, 3) := by decide +kernel
theorem dX3_numberOfSpeaker_62 : decode cX3_numberOfSpeaker 62 = .ok (.ireturn, 1) := by decide +kernel
theorem dX3_sumOfWeights_0 : decode cX3_sumOfWeights 0 = .ok (.iconst 0, 1) := by decide +kernel
theorem dX3_sumOfWeights_1 : decode cX3_sumOfWeights 1 = .ok (.istore_n 1, 1) := by decide +kernel
theorem dX3_sumOfWeights_2 : decode cX3_sumOfWeights 2 = .ok (.iconst 0, 1) := by decide +kernel
theorem dX3_sumOfWeights_3 : decode cX3_sumOfWeights 3 = .ok (.istore_n 2, 1) := by decide +kernel
theorem dX3_sumOfWeights_4 : decode cX3_sumOfWeights 4 = .ok (.iload_n 2, 1) := by decide +kernel
theorem dX3_sumOfWeights_5 : decode cX3_sumOfWeights 5 = .ok (.bipush 8, 2) := by decide +kernel
theorem dX3_sumOfWeights_7 : decode cX3_sumOfWeights 7 = .ok (.if_icmp .ge 33, 3) := by decide +kernel
theorem dX3_sumOfWeights_10 : decode cX3_sumOfWeights 10 = .ok (.aload_n 0, 1) := by decide +kernel
theorem dX3_sumOfWeights_11 : decode cX3_sumOfWeights 11 = .ok (.getfield 11, 3) := by decide +kernel
theorem dX3_sumOfWeights_14 : decode cX3_sumOfWeights 14 = .ok (.iload_n 2, 1) := by decide +kernel
theorem dX3_sumOfWeights_15 : decode cX3_sumOfWeights 15 = .ok (.aaload, 1) := by decide +kernel
theorem dX3_sumOfWeights_16 : decode cX3_sumOfWeights 16 = .ok (.getfield 55, 3) := by decide +kernel
theorem dX3_sumOfWeights_19 : decode cX3_sumOfWeights 19 = .ok (.ifCond .eq 15, 3) := by decide +kernel
theorem dX3_sumOfWeights_22 : decode cX3_sumOfWeights 22 = .ok (.iload_n 1, 1) := by decide +kernel
theorem dX3_sumOfWeights_23 : decode cX3_sumOfWeights 23 = .ok (.aload_n 0, 1) := by decide +kernel
theorem dX3_sumOfWeights_24 : decode cX3_sumOfWeights 24 = .ok (.getfield 11, 3) := by decide +kernel
theorem dX3_sumOfWeights_27 : decode cX3_sumOfWeights 27 = .ok (.iload_n 2, 1) := by decide +kernel
theorem dX3_sumOfWeights_28 : decode cX3_sumOfWeights 28 = .ok (.aaload, 1) := by decide +kernel
theorem dX3_sumOfWeights_29 : decode cX3_sumOfWeights 29 = .ok (.invokevirtual 124, 3) := by decide +kernel
theorem dX3_sumOfWeights_32 : decode cX3_sumOfWeights 32 = .ok (.iadd, 1) := by decide +kernel
theorem dX3_sumOfWeights_33 : decode cX3_sumOfWeights 33 = .ok (.istore_n 1, 1) := by decide +kernel
theorem dX3_sumOfWeights_34 : decode cX3_sumOfWeights 34 = .ok (.iinc 2 1, 3) := by decide +kernel
theorem dX3_sumOfWeights_37 : decode cX3_sumOfWeights 37 = .ok (.goto (-33), 3) := by decide +kernel
theorem dX3_sumOfWeights_40 : decode cX3_sumOfWeights 40 = .ok (.iload_n 1, 1) := by decide +kernel
theorem dX3_sumOfWeights_41 : decode cX3_sumOfWeights 41 = .ok (.ireturn, 1) := by decide +kernel
theorem dX3_commonWord_0 : decode cX3_commonWord 0 = .ok (.aload_n 0, 1) := by decide +kernel
theorem dX3_commonWord_1 : decode cX3_commonWord 1 = .ok (.iload_n 1, 1) := by decide +kernel
theorem dX3_commonWord_2 : decode cX3_commonWord 2 = .ok (.invokevirtual 125, 3) := by decide +kernel
theorem dX3_commonWord_5 : decode cX3_commonWord 5 = .ok (.bipush (-6), 2) := by decide +kernel
theorem dX3_commonWord_7 : decode cX3_commonWord 7 = .ok (.istore_n 2, 1) := by decide +kernel
theorem dX3_commonWord_8 : decode cX3_commonWord 8 = .ok (.iconst 0, 1) := by decide +kernel
theorem dX3_commonWord_9 : decode cX3_commonWord 9 = .ok (.istore_n 3, 1) := by decide +kernel
theorem dX3_commonWord_10 : decode cX3_commonWord 10 = .ok (.iconst 0, 1) := by decide +kernel
theorem dX3_commonWord_11 : decode cX3_commonWord 11 = .ok (.istore 4, 2) := by decide +kernel
theorem dX3_commonWord_13 : decode cX3_commonWord 13 = .ok (.iload 4, 2) := by decide +kernel
theorem dX3_commonWord_15 : decode cX3_commonWord 15 = .ok (.bipush 14, 2) := by decide +kernel
theorem dX3_commonWord_17 : decode cX3_commonWord 17 = .ok (.if_icmp .ge 31, 3) := by decide +kernel
theorem dX3_commonWord_20 : decode cX3_commonWord 20 = .ok (.aload_n 0, 1) := by decide +kernel
theorem dX3_commonWord_21 : decode cX3_commonWord 21 = .ok (.getfield 22, 3) := by decide +kernel
theorem dX3_commonWord_24 : decode cX3_commonWord 24 = .ok (.iload 4, 2) := by decide +kernel
theorem dX3_commonWord_26 : decode cX3_commonWord 26 = .ok (.iaload, 1) := by decide +kernel
theorem dX3_commonWord_27 : decode cX3_commonWord 27 = .ok (.iload_n 3, 1) := by decide +kernel
theorem dX3_commonWord_28 : decode cX3_commonWord 28 = .ok (.if_icmp .le 14, 3) := by decide +kernel
theorem dX3_commonWord_31 : decode cX3_commonWord 31 = .ok (.aload_n 0, 1) := by decide +kernel
theorem dX3_commonWord_32 : decode cX3_commonWord 32 = .ok (.getfield 22, 3) := by decide +kernel
theorem dX3_commonWord_35 : decode cX3_commonWord 35 = .ok (.iload 4, 2) := by decide +kernel
theorem dX3_commonWord_37 : decode cX3_commonWord 37 = .ok (.iaload, 1) := by decide +kernel
theorem dX3_commonWord_38 : decode cX3_commonWord 38 = .ok (.istore_n 3, 1) := by decide +kernel
theorem dX3_commonWord_39 : decode cX3_commonWord 39 = .ok (.iload 4, 2) := by decide +kernel
theorem dX3_commonWord_41 : decode cX3_commonWord 41 = .ok (.istore_n 2, 1) := by decide +kernel
theorem dX3_commonWord_42 : decode cX3_commonWord 42 = .ok (.iinc 4 1, 3) := by decide +kernel
theorem dX3_commonWord_45 : decode cX3_commonWord 45 = .ok (.goto (-32), 3) := by decide +kernel
theorem dX3_commonWord_48 : decode cX3_commonWord 48 = .ok (.iload_n 2, 1) := by decide +kernel
theorem dX3_commonWord_49 : decode cX3_commonWord 49 = .ok (.ireturn, 1) := by decide +kernel
theorem dX3_countUsers_0 : decode cX3_countUsers 0 = .ok (.iconst 0, 1) := by decide +kernel
theorem dX3_countUsers_1 : decode cX3_countUsers 1 = .ok (.istore_n 2, 1) := by decide +kernel
theorem dX3_countUsers_2 : decode cX3_countUsers 2 = .ok (.iload_n 2, 1) := by decide +kernel
theorem dX3_countUsers_3 : decode cX3_countUsers 3 = .ok (.bipush 14, 2) := by decide +kernel
theorem dX3_countUsers_5 : decode cX3_countUsers 5 = .ok (.if_icmp .ge 16, 3) := by decide +kernel
theorem dX3_countUsers_8 : decode cX3_countUsers 8 = .ok (.aload_n 0, 1) := by decide +kernel
theorem dX3_countUsers_9 : decode cX3_countUsers 9 = .ok (.getfield 22, 3) := by decide +kernel
theorem dX3_countUsers_12 : decode cX3_countUsers 12 = .ok (.iload_n 2, 1) := by decide +kernel
theorem dX3_countUsers_13 : decode cX3_countUsers 13 = .ok (.iconst 0, 1) := by decide +kernel
theorem dX3_countUsers_14 : decode cX3_countUsers 14 = .ok (.iastore, 1) := by decide +kernel
theorem dX3_countUsers_15 : decode cX3_countUsers 15 = .ok (.iinc 2 1, 3) := by decide +kernel
theorem dX3_countUsers_18 : decode cX3_countUsers 18 = .ok (.goto (-16), 3) := by decide +kernel
theorem dX3_countUsers_21 : decode cX3_countUsers 21 = .ok (.iconst 0, 1) := by decide +kernel
theorem dX3_countUsers_22 : decode cX3_countUsers 22 = .ok (.istore_n 2, 1) := by decide +kernel
theorem dX3_countUsers_23 : decode cX3_countUsers 23 = .ok (.iload_n 2, 1) := by decide +kernel
theorem dX3_countUsers_24 : decode cX3_countUsers 24 = .ok (.bipush 8, 2) := by decide +kernel
theorem dX3_countUsers_26 : decode cX3_countUsers 26 = .ok (.if_icmp .ge 54, 3) := by decide +kernel
theorem dX3_countUsers_29 : decode cX3_countUsers 29 = .ok (.aload_n 0, 1) := by decide +kernel
theorem dX3_countUsers_30 : decode cX3_countUsers 30 = .ok (.getfield 11, 3) := by decide +kernel
theorem dX3_countUsers_33 : decode cX3_countUsers 33 = .ok (.iload_n 2, 1) := by decide +kernel
theorem dX3_countUsers_34 : decode cX3_countUsers 34 = .ok (.aaload, 1) := by decide +kernel
theorem dX3_countUsers_35 : decode cX3_countUsers 35 = .ok (.getfield 55, 3) := by decide +kernel
theorem dX3_countUsers_38 : decode cX3_countUsers 38 = .ok (.ifCond .eq 16, 3) := by decide +kernel
theorem dX3_countUsers_41 : decode cX3_countUsers 41 = .ok (.aload_n 0, 1) := by decide +kernel
theorem dX3_countUsers_42 : decode cX3_countUsers 42 = .ok (.getfield 11, 3) := by decide +kernel
theorem dX3_countUsers_45 : decode cX3_countUsers 45 = .ok (.iload_n 2, 1) := by decide +kernel
theorem dX3_countUsers_46 : decode cX3_countUsers 46 = .ok (.aaload, 1) := by decide +kernel
theorem dX3_countUsers_47 : decode cX3_countUsers 47 = .ok (.iload_n 1, 1) := by decide +kernel
theorem dX3_countUsers_48 : decode cX3_countUsers 48 = .ok (.invokevirtual 63, 3) := by decide +kernel
theorem dX3_countUsers_51 : decode cX3_countUsers 51 = .ok (.goto 5, 3) := by decide +kernel
theorem dX3_countUsers_54 : decode cX3_countUsers 54 = .ok (.bipush (-6), 2) := by decide +kernel
theorem dX3_countUsers_56 : decode cX3_countUsers 56 = .ok (.istore_n 3, 1) := by decide +kernel
theorem dX3_countUsers_57 : decode cX3_countUsers 57 = .ok (.iload_n 3, 1) := by decide +kernel
theorem dX3_countUsers_58 : decode cX3_countUsers 58 = .ok (.invokestatic 129, 3) := by decide +kernel
theorem dX3_countUsers_61 : decode cX3_countUsers 61 = .ok (.ifCond .eq 13, 3) := by decide +kernel
theorem dX3_countUsers_64 : decode cX3_countUsers 64 = .ok (.aload_n 0, 1) := by decide +kernel
theorem dX3_countUsers_65 : decode cX3_countUsers 65 = .ok (.getfield 22, 3) := by decide +kernel
theorem dX3_countUsers_68 : decode cX3_countUsers 68 = .ok (.iload_n 3, 1) := by decide +kernel
theorem dX3_countUsers_69 : decode cX3_countUsers 69 = .ok (.dup2, 1) := by decide +kernel
theorem dX3_countUsers_70 : decode cX3_countUsers 70 = .ok (.iaload, 1) := by decide +kernel
theorem dX3_countUsers_71 : decode cX3_countUsers 71 = .ok (.iconst 1, 1) := by decide +kernel
theorem dX3_countUsers_72 : decode cX3_countUsers 72 = .ok (.iadd, 1) := by decide +kernel
theorem dX3_countUsers_73 : decode cX3_countUsers 73 = .ok (.iastore, 1) := by decide +kernel
theorem dX3_countUsers_74 : decode cX3_countUsers 74 = .ok (.iinc 2 1, 3) := by decide +kernel
theorem dX3_countUsers_77 : decode cX3_countUsers 77 = .ok (.goto (-54), 3) := by decide +kernel
theorem dX3_countUsers_80 : decode cX3_countUsers 80 = .ok (.return_, 1) := by decide +kernel
theorem dX4_init_0 : decode cX4_init 0 = .ok (.aload_n 0, 1) := by decide +kernel
theorem dX4_init_1 : decode cX4_init 1 = .ok (.invokespecial 1, 3) := by decide +kernel
theorem dX4_init_4 : decode cX4_init 4 = .ok (.aload_n 0, 1) := by decide +kernel
theorem dX4_init_5 : decode cX4_init 5 = .ok (.new 7, 3) := by decide +kernel
theorem dX4_init_8 : decode cX4_init 8 = .ok (.dup, 1) := by decide +kernel
theorem dX4_init_9 : decode cX4_init 9 = .ok (.invokespecial 9, 3) := by decide +kernel
theorem dX4_init_12 : decode cX4_init 12 = .ok (.putfield 10, 3) := by decide +kernel
theorem dX4_init_15 : decode cX4_init 15 = .ok (.aload_n 0, 1) := by decide +kernel
theorem dX4_init_16 : decode cX4_init 16 = .ok (.new 7, 3) := by decide +kernel
theorem dX4_init_19 : decode cX4_init 19 = .ok (.dup, 1) := by decide +kernel
theorem dX4_init_20 : decode cX4_init 20 = .ok (.invokespecial 9, 3) := by decide +kernel
theorem dX4_init_23 : decode cX4_init 23 = .ok (.putfield 16, 3) := by decide +kernel
theorem dX4_init_26 : decode cX4_init 26 = .ok (.aload_n 0, 1) := by decide +kernel
theorem dX4_init_27 : decode cX4_init 27 = .ok (.new 19, 3) := by decide +kernel
theorem dX4_init_30 : decode cX4_init 30 = .ok (.dup, 1) := by decide +kernel
theorem dX4_init_31 : decode cX4_init 31 = .ok (.invokespecial 21, 3) := by decide +kernel
theorem dX4_init_34 : decode cX4_init 34 = .ok (.putfield 22, 3) := by decide +kernel
theorem dX4_init_37 : decode cX4_init 37 = .ok (.aload_n 0, 1) := by decide +kernel
theorem dX4_init_38 : decode cX4_init 38 = .ok (.new 26, 3) := by decide +kernel
theorem dX4_init_41 : decode cX4_init 41 = .ok (.dup, 1) := by decide +kernel
theorem dX4_init_42 : decode cX4_init 42 = .ok (.invokespecial 28, 3) := by decide +kernel
theorem dX4_init_45 : decode cX4_init 45 = .ok (.putfield 29, 3) := by decide +kernel
theorem dX4_init_48 : decode cX4_init 48 = .ok (.return_, 1) := by decide +kernel
theorem dX4_come_0 : decode cX4_come 0 = .ok (.aload_n 0, 1) := by decide +kernel
theorem dX4_come_1 : decode cX4_come 1 = .ok (.getfield 10, 3) := by decide +kernel
theorem dX4_come_4 : decode cX4_come 4 = .ok (.invokevirtual 33, 3) := by decide +kernel
theorem dX4_come_7 : decode cX4_come 7 = .ok (.istore_n 1, 1) := by decide +kernel
theorem dX4_come_8 : decode cX4_come 8 = .ok (.iload_n 1, 1) := by decide +kernel
theorem dX4_come_9 : decode cX4_come 9 = .ok (.bipush (-6), 2) := by decide +kernel
theorem dX4_come_11 : decode cX4_come 11 = .ok (.if_icmp .ne 6, 3) := by decide +kernel
theorem dX4_come_14 : decode cX4_come 14 = .ok (.bipush (-4), 2) := by decide +kernel
theorem dX4_come_16 : decode cX4_come 16 = .ok (.ireturn, 1) := by decide +kernel
theorem dX4_come_17 : decode cX4_come 17 = .ok (.aload_n 0, 1) := by decide +kernel
theorem dX4_come_18 : decode cX4_come 18 = .ok (.getfield 22, 3) := by decide +kernel
theorem dX4_come_21 : decode cX4_come 21 = .ok (.aload_n 0, 1) := by decide +kernel
theorem dX4_come_22 : decode cX4_come 22 = .ok (.getfield 10, 3) := by decide +kernel
theorem dX4_come_25 : decode cX4_come 25 = .ok (.invokevirtual 37, 3) := by decide +kernel
theorem dX4_come_28 : decode cX4_come 28 = .ok (.aload_n 0, 1) := by decide +kernel
theorem dX4_come_29 : decode cX4_come 29 = .ok (.getfield 10, 3) := by decide +kernel
theorem dX4_come_32 : decode cX4_come 32 = .ok (.iload_n 1, 1) := by decide +kernel
theorem dX4_come_33 : decode cX4_come 33 = .ok (.invokevirtual 41, 3) := by decide +kernel
theorem dX4_come_36 : decode cX4_come 36 = .ok (.iload_n 1, 1) := by decide +kernel
theorem dX4_come_37 : decode cX4_come 37 = .ok (.ireturn, 1) := by decide +kernel
theorem dX4_go_0 : decode cX4_go 0 = .ok (.aload_n 0, 1) := by decide +kernel
theorem dX4_go_1 : decode cX4_go 1 = .ok (.getfield 10, 3) := by decide +kernel
theorem dX4_go_4 : decode cX4_go 4 = .ok (.iload_n 1, 1) := by decide +kernel
theorem dX4_go_5 : decode cX4_go 5 = .ok (.invokevirtual 45, 3) := by decide +kernel
theorem dX4_go_8 : decode cX4_go 8 = .ok (.astore_n 2, 1) := by decide +kernel
theorem dX4_go_9 : decode cX4_go 9 = .ok (.aload_n 2, 1) := by decide +kernel
theorem dX4_go_10 : decode cX4_go 10 = .ok (.ifnonnull 5, 3) := by decide +kernel
theorem dX4_go_13 : decode cX4_go 13 = .ok (.iconst (-1), 1) := by decide +kernel
theorem dX4_go_14 : decode cX4_go 14 = .ok (.ireturn, 1) := by decide +kernel
theorem dX4_go_15 : decode cX4_go 15 = .ok (.aload_n 0, 1) := by decide +kernel
theorem dX4_go_16 : decode cX4_go 16 = .ok (.getfield 22, 3) := by decide +kernel
theorem dX4_go_19 : decode cX4_go 19 = .ok (.aload_n 0, 1) := by decide +kernel
theorem dX4_go_20 : decode cX4_go 20 = .ok (.getfield 10, 3) := by decide +kernel
theorem dX4_go_23 : decode cX4_go 23 = .ok (.invokevirtual 37, 3) := by decide +kernel
theorem dX4_go_26 : decode cX4_go 26 = .ok (.aload_n 2, 1) := by decide +kernel
theorem dX4_go_27 : decode cX4_go 27 = .ok (.invokevirtual 49, 3) := by decide +kernel
theorem dX4_go_30 : decode cX4_go 30 = .ok (.aload_n 0, 1) := by decide +kernel
theorem dX4_go_31 : decode cX4_go 31 = .ok (.getfield 10, 3) := by decide +kernel
theorem dX4_go_34 : decode cX4_go 34 = .ok (.invokevirtual 54, 3) := by decide +kernel
theorem dX4_go_37 : decode cX4_go 37 = .ok (.ireturn, 1) := by decide +kernel
theorem dX4_set_0 : decode cX4_set 0 = .ok (.iload_n 1, 1) := by decide +kernel
theorem dX4_set_1 : decode cX4_set 1 = .ok (.iconst 4, 1) := by decide +kernel
theorem dX4_set_2 : decode cX4_set 2 = .ok (.invokestatic 57, 3) := by decide +kernel
theorem dX4_set_5 : decode cX4_set 5 = .ok (.ifCond .ne 5, 3) := by decide +kernel
theorem dX4_set_8 : decode cX4_set 8 = .ok (.iconst (-1), 1) := by decide +kernel
theorem dX4_set_9 : decode cX4_set 9 = .ok (.ireturn, 1) := by decide +kernel
theorem dX4_set_10 : decode cX4_set 10 = .ok (.iload_n 2, 1) := by decide +kernel
theorem dX4_set_11 : decode cX4_set 11 = .ok (.iload_n 1, 1) := by decide +kernel
theorem dX4_set_12 : decode cX4_set 12 = .ok (.invokestatic 61, 3) := by decide +kernel
theorem dX4_set_15 : decode cX4_set 15 = .ok (.if_icmp .lt 11, 3) := by decide +kernel
theorem dX4_set_18 : decode cX4_set 18 = .ok (.iload_n 2, 1) := by decide +kernel
theorem dX4_set_19 : decode cX4_set 19 = .ok (.iload_n 1, 1) := by decide +kernel
theorem dX4_set_20 : decode cX4_set 20 = .ok (.invokestatic 65, 3) := by decide +kernel
theorem dX4_set_23 : decode cX4_set 23 = .ok (.if_icmp .le 6, 3) := by decide +kernel
theorem dX4_set_26 : decode cX4_set 26 = .ok (.bipush (-2), 2) := by decide +kernel
theorem dX4_set_28 : decode cX4_set 28 = .ok (.ireturn, 1) := by decide +kernel
theorem dX4_set_29 : decode cX4_set 29 = .ok (.aload_n 0, 1) := by decide +kernel
theorem dX4_set_30 : decode cX4_set 30 = .ok (.getfield 10, 3) := by decide +kernel
theorem dX4_set_33 : decode cX4_set 33 = .ok (.iload_n 1, 1) := by decide +kernel
theorem dX4_set_34 : decode cX4_set 34 = .ok (.invokevirtual 68, 3) := by decide +kernel
theorem dX4_set_37 : decode cX4_set 37 = .ok (.istore_n 3, 1) := by decide +kernel
theorem dX4_set_38 : decode cX4_set 38 = .ok (.aload_n 0, 1) := by decide +kernel
theorem dX4_set_39 : decode cX4_set 39 = .ok (.getfield 22, 3) := by decide +kernel
theorem dX4_set_42 : decode cX4_set 42 = .ok (.aload_n 0, 1) := by decide +kernel
theorem dX4_set_43 : decode cX4_set 43 = .ok (.getfield 10, 3) := by decide +kernel
theorem dX4_set_46 : decode cX4_set 46 = .ok (.invokevirtual 37, 3) := by decide +kernel
theorem dX4_set_49 : decode cX4_set 49 = .ok (.aload_n 0, 1) := by decide +kernel
theorem dX4_set_50 : decode cX4_set 50 = .ok (.getfield 10, 3) := by decide +kernel
theorem dX4_set_53 : decode cX4_set 53 = .ok (.iload_n 1, 1) := by decide +kernel
theorem dX4_set_54 : decode cX4_set 54 = .ok (.iload_n 2, 1) := by decide +kernel
theorem dX4_set_55 : decode cX4_set 55 = .ok (.invokevirtual 71, 3) := by decide +kernel
theorem dX4_set_58 : decode cX4_set 58 = .ok (.iload_n 3, 1) := by decide +kernel
theorem dX4_set_59 : decode cX4_set 59 = .ok (.ireturn, 1) := by decide +kernel
theorem dX4_setSeed_0 : decode cX4_setSeed 0 = .ok (.iload_n 1, 1) := by decide +kernel
theorem dX4_setSeed_1 : decode cX4_setSeed 1 = .ok (.ifCond .lt 9, 3) := by decide +kernel
theorem dX4_setSeed_4 : decode cX4_setSeed 4 = .ok (.iload_n 1, 1) := by decide +kernel
theorem dX4_setSeed_5 : decode cX4_setSeed 5 = .ok (.ldc 75, 2) := by decide +kernel
theorem dX4_setSeed_7 : decode cX4_setSeed 7 = .ok (.if_icmp .le 6, 3) := by decide +kernel
theorem dX4_setSeed_10 : decode cX4_setSeed 10 = .ok (.bipush (-2), 2) := by decide +kernel
theorem dX4_setSeed_12 : decode cX4_setSeed 12 = .ok (.ireturn, 1) := by decide +kernel
theorem dX4_setSeed_13 : decode cX4_setSeed 13 = .ok (.aload_n 0, 1) := by decide +kernel
theorem dX4_setSeed_14 : decode cX4_setSeed 14 = .ok (.getfield 10, 3) := by decide +kernel
theorem dX4_setSeed_17 : decode cX4_setSeed 17 = .ok (.getfield 76, 3) := by decide +kernel
theorem dX4_setSeed_20 : decode cX4_setSeed 20 = .ok (.istore_n 2, 1) := by decide +kernel
theorem dX4_setSeed_21 : decode cX4_setSeed 21 = .ok (.aload_n 0, 1) := by decide +kernel
theorem dX4_setSeed_22 : decode cX4_setSeed 22 = .ok (.getfield 22, 3) := by decide +kernel
theorem dX4_setSeed_25 : decode cX4_setSeed 25 = .ok (.aload_n 0, 1) := by decide +kernel
theorem dX4_setSeed_26 : decode cX4_setSeed 26 = .ok (.getfield 10, 3) := by decide +kernel
theorem dX4_setSeed_29 : decode cX4_setSeed 29 = .ok (.invokevirtual 37, 3) := by decide +kernel
theorem dX4_setSeed_32 : decode cX4_setSeed 32 = .ok (.aload_n 0, 1) := by decide +kernel
theorem dX4_setSeed_33 : decode cX4_setSeed 33 = .ok (.getfield 10, 3) := by decide +kernel
theorem dX4_setSeed_36 : decode cX4_setSeed 36 = .ok (.iload_n 1, 1) := by decide +kernel
theorem dX4_setSeed_37 : decode cX4_setSeed 37 = .ok (.putfield 76, 3) := by decide +kernel
theorem dX4_setSeed_40 : decode cX4_setSeed 40 = .ok (.iload_n 2, 1) := by decide +kernel
theorem dX4_setSeed_41 : decode cX4_setSeed 41 = .ok (.ireturn, 1) := by decide +kernel
theorem dX4_teach_0 : decode cX4_teach 0 = .ok (.aload_n 0, 1) := by decide +kernel
theorem dX4_teach_1 : decode cX4_teach 1 = .ok (.getfield 10, 3) := by decide +kernel
theorem dX4_teach_4 : decode cX4_teach 4 = .ok (.iload_n 1, 1) := by decide +kernel
theorem dX4_teach_5 : decode cX4_teach 5 = .ok (.invokevirtual 45, 3) := by decide +kernel
theorem dX4_teach_8 : decode cX4_teach 8 = .ok (.astore 5, 2) := by decide +kernel
theorem dX4_teach_10 : decode cX4_teach 10 = .ok (.aload 5, 2) := by decide +kernel
theorem dX4_teach_12 : decode cX4_teach 12 = .ok (.ifnull 17, 3) := by decide +kernel
theorem dX4_teach_15 : decode cX4_teach 15 = .ok (.iload_n 2, 1) := by decide +kernel
theorem dX4_teach_16 : decode cX4_teach 16 = .ok (.invokestatic 80, 3) := by decide +kernel
theorem dX4_teach_19 : decode cX4_teach 19 = .ok (.ifCond .eq 10, 3) := by decide +kernel
theorem dX4_teach_22 : decode cX4_teach 22 = .ok (.iload_n 3, 1) := by decide +kernel
theorem dX4_teach_23 : decode cX4_teach 23 = .ok (.invokestatic 84, 3) := by decide +kernel
theorem dX4_teach_26 : decode cX4_teach 26 = .ok (.ifCond .ne 5, 3) := by decide +kernel
theorem dX4_teach_29 : decode cX4_teach 29 = .ok (.iconst (-1), 1) := by decide +kernel
theorem dX4_teach_30 : decode cX4_teach 30 = .ok (.ireturn, 1) := by decide +kernel
theorem dX4_teach_31 : decode cX4_teach 31 = .ok (.iload 4, 2) := by decide +kernel
theorem dX4_teach_33 : decode cX4_teach 33 = .ok (.ifCond .lt 10, 3) := by decide +kernel
theorem dX4_teach_36 : decode cX4_teach 36 = .ok (.iload 4, 2) := by decide +kernel
theorem dX4_teach_38 : decode cX4_teach 38 = .ok (.bipush 99, 2) := by decide +kernel
theorem dX4_teach_40 : decode cX4_teach 40 = .ok (.if_icmp .le 6, 3) := by decide +kernel
theorem dX4_teach_43 : decode cX4_teach 43 = .ok (.bipush (-2), 2) := by decide +kernel
theorem dX4_teach_45 : decode cX4_teach 45 = .ok (.ireturn, 1) := by decide +kernel
theorem dX4_teach_46 : decode cX4_teach 46 = .ok (.aload 5, 2) := by decide +kernel
theorem dX4_teach_48 : decode cX4_teach 48 = .ok (.iload_n 2, 1) := by decide +kernel
theorem dX4_teach_49 : decode cX4_teach 49 = .ok (.iload_n 3, 1) := by decide +kernel
theorem dX4_teach_50 : decode cX4_teach 50 = .ok (.invokevirtual 87, 3) := by decide +kernel
theorem dX4_teach_53 : decode cX4_teach 53 = .ok (.istore 6, 2) := by decide +kernel
theorem dX4_teach_55 : decode cX4_teach 55 = .ok (.aload_n 0, 1) := by decide +kernel
theorem dX4_teach_56 : decode cX4_teach 56 = .ok (.getfield 22, 3) := by decide +kernel
theorem dX4_teach_59 : decode cX4_teach 59 = .ok (.aload_n 0, 1) := by decide +kernel
theorem dX4_teach_60 : decode cX4_teach 60 = .ok (.getfield 10, 3) := by decide +kernel
theorem dX4_teach_63 : decode cX4_teach 63 = .ok (.invokevirtual 37, 3) := by decide +kernel
theorem dX4_teach_66 : decode cX4_teach 66 = .ok (.aload 5, 2) := by decide +kernel
theorem dX4_teach_68 : decode cX4_teach 68 = .ok (.iload_n 2, 1) := by decide +kernel
theorem dX4_teach_69 : decode cX4_teach 69 = .ok (.iload_n 3, 1) := by decide +kernel
theorem dX4_teach_70 : decode cX4_teach 70 = .ok (.iload 4, 2) := by decide +kernel
theorem dX4_teach_72 : decode cX4_teach 72 = .ok (.invokevirtual 91, 3) := by decide +kernel
theorem dX4_teach_75 : decode cX4_teach 75 = .ok (.iload 6, 2) := by decide +kernel
theorem dX4_teach_77 : decode cX4_teach 77 = .ok (.ireturn, 1) := by decide +kernel
theorem dX4_setAge_0 : decode cX4_setAge 0 = .ok (.aload_n 0, 1) := by decide +kernel
theorem dX4_setAge_1 : decode cX4_setAge 1 = .ok (.getfield 10, 3) := by decide +kernel
theorem dX4_setAge_4 : decode cX4_setAge 4 = .ok (.iload_n 1, 1) := by decide +kernel
theorem dX4_setAge_5 : decode cX4_setAge 5 = .ok (.invokevirtual 45, 3) := by decide +kernel
theorem dX4_setAge_8 : decode cX4_setAge 8 = .ok (.astore_n 3, 1) := by decide +kernel
theorem dX4_setAge_9 : decode cX4_setAge 9 = .ok (.aload_n 3, 1) := by decide +kernel
theorem dX4_setAge_10 : decode cX4_setAge 10 = .ok (.ifnonnull 5, 3) := by decide +kernel
theorem dX4_setAge_13 : decode cX4_setAge 13 = .ok (.iconst (-1), 1) := by decide +kernel
theorem dX4_setAge_14 : decode cX4_setAge 14 = .ok (.ireturn, 1) := by decide +kernel
theorem dX4_setAge_15 : decode cX4_setAge 15 = .ok (.iload_n 2, 1) := by decide +kernel
theorem dX4_setAge_16 : decode cX4_setAge 16 = .ok (.ifCond .lt 9, 3) := by decide +kernel
theorem dX4_setAge_19 : decode cX4_setAge 19 = .ok (.iload_n 2, 1) := by decide +kernel
theorem dX4_setAge_20 : decode cX4_setAge 20 = .ok (.bipush 99, 2) := by decide +kernel
theorem dX4_setAge_22 : decode cX4_setAge 22 = .ok (.if_icmp .le 6, 3) := by decide +kernel
theorem dX4_setAge_25 : decode cX4_setAge 25 = .ok (.bipush (-2), 2) := by decide +kernel
theorem dX4_setAge_27 : decode cX4_setAge 27 = .ok (.ireturn, 1) := by decide +kernel
theorem dX4_setAge_28 : decode cX4_setAge 28 = .ok (.aload_n 3, 1) := by decide +kernel
theorem dX4_setAge_29 : decode cX4_setAge 29 = .ok (.getfield 95, 3) := by decide +kernel
theorem dX4_setAge_32 : decode cX4_setAge 32 = .ok (.istore 4, 2) := by decide +kernel
theorem dX4_setAge_34 : decode cX4_setAge 34 = .ok (.aload_n 0, 1) := by decide +kernel
theorem dX4_setAge_35 : decode cX4_setAge 35 = .ok (.getfield 22, 3) := by decide +kernel
theorem dX4_setAge_38 : decode cX4_setAge 38 = .ok (.aload_n 0, 1) := by decide +kernel
theorem dX4_setAge_39 : decode cX4_setAge 39 = .ok (.getfield 10, 3) := by decide +kernel
theorem dX4_setAge_42 : decode cX4_setAge 42 = .ok (.invokevirtual 37, 3) := by decide +kernel
theorem dX4_setAge_45 : decode cX4_setAge 45 = .ok (.aload_n 3, 1) := by decide +kernel
theorem dX4_setAge_46 : decode cX4_setAge 46 = .ok (.iload_n 2, 1) := by decide +kernel
theorem dX4_setAge_47 : decode cX4_setAge 47 = .ok (.putfield 95, 3) := by decide +kernel
theorem dX4_setAge_50 : decode cX4_setAge 50 = .ok (.iload 4, 2) := by decide +kernel
theorem dX4_setAge_52 : decode cX4_setAge 52 = .ok (.ireturn, 1) := by decide +kernel
theorem dX4_meet_0 : decode cX4_meet 0 = .ok (.aload_n 0, 1) := by decide +kernel
theorem dX4_meet_1 : decode cX4_meet 1 = .ok (.getfield 10, 3) := by decide +kernel
theorem dX4_meet_4 : decode cX4_meet 4 = .ok (.iload_n 1, 1) := by decide +kernel
theorem dX4_meet_5 : decode cX4_meet 5 = .ok (.invokevirtual 45, 3) := by decide +kernel
theorem dX4_meet_8 : decode cX4_meet 8 = .ok (.astore 4, 2) := by decide +kernel
theorem dX4_meet_10 : decode cX4_meet 10 = .ok (.aload_n 0, 1) := by decide +kernel
theorem dX4_meet_11 : decode cX4_meet 11 = .ok (.getfield 10, 3) := by decide +kernel
theorem dX4_meet_14 : decode cX4_meet 14 = .ok (.iload_n 2, 1) := by decide +kernel
theorem dX4_meet_15 : decode cX4_meet 15 = .ok (.invokevirtual 45, 3) := by decide +kernel
theorem dX4_meet_18 : decode cX4_meet 18 = .ok (.astore 5, 2) := by decide +kernel
theorem dX4_meet_20 : decode cX4_meet 20 = .ok (.aload 4, 2) := by decide +kernel
theorem dX4_meet_22 : decode cX4_meet 22 = .ok (.ifnull 15, 3) := by decide +kernel
theorem dX4_meet_25 : decode cX4_meet 25 = .ok (.aload 5, 2) := by decide +kernel
theorem dX4_meet_27 : decode cX4_meet 27 = .ok (.ifnull 10, 3) := by decide +kernel
theorem dX4_meet_30 : decode cX4_meet 30 = .ok (.iload_n 3, 1) := by decide +kernel
theorem dX4_meet_31 : decode cX4_meet 31 = .ok (.invokestatic 80, 3) := by decide +kernel
theorem dX4_meet_34 : decode cX4_meet 34 = .ok (.ifCond .ne 5, 3) := by decide +kernel
theorem dX4_meet_37 : decode cX4_meet 37 = .ok (.iconst (-1), 1) := by decide +kernel
theorem dX4_meet_38 : decode cX4_meet 38 = .ok (.ireturn, 1) := by decide +kernel
theorem dX4_meet_39 : decode cX4_meet 39 = .ok (.iload_n 1, 1) := by decide +kernel
theorem dX4_meet_40 : decode cX4_meet 40 = .ok (.iload_n 2, 1) := by decide +kernel
theorem dX4_meet_41 : decode cX4_meet 41 = .ok (.if_icmp .ne 6, 3) := by decide +kernel
theorem dX4_meet_44 : decode cX4_meet 44 = .ok (.bipush (-3), 2) := by decide +kernel
theorem dX4_meet_46 : decode cX4_meet 46 = .ok (.ireturn, 1) := by decide +kernel
theorem dX4_meet_47 : decode cX4_meet 47 = .ok (.aload_n 0, 1) := by decide +kernel
theorem dX4_meet_48 : decode cX4_meet 48 = .ok (.getfield 22, 3) := by decide +kernel
theorem dX4_meet_51 : decode cX4_meet 51 = .ok (.aload_n 0, 1) := by decide +kernel
theorem dX4_meet_52 : decode cX4_meet 52 = .ok (.getfield 10, 3) := by decide +kernel
theorem dX4_meet_55 : decode cX4_meet 55 = .ok (.invokevirtual 37, 3) := by decide +kernel
theorem dX4_meet_58 : decode cX4_meet 58 = .ok (.aload_n 0, 1) := by decide +kernel
theorem dX4_meet_59 : decode cX4_meet 59 = .ok (.getfield 10, 3) := by decide +kernel
theorem dX4_meet_62 : decode cX4_meet 62 = .ok (.aload 4, 2) := by decide +kernel
theorem dX4_meet_64 : decode cX4_meet 64 = .ok (.aload 5, 2) := by decide +kernel
theorem dX4_meet_66 : decode cX4_meet 66 = .ok (.iload_n 3, 1) := by decide +kernel
theorem dX4_meet_67 : decode cX4_meet 67 = .ok (.invokevirtual 98, 3) := by decide +kernel
theorem dX4_meet_70 : decode cX4_meet 70 = .ok (.ireturn, 1) := by decide +kernel
theorem dX4_age_0 : decode cX4_age 0 = .ok (.iload_n 1, 1) := by decide +kernel
theorem dX4_age_1 : decode cX4_age 1 = .ok (.iconst 1, 1) := by decide +kernel
theorem dX4_age_2 : decode cX4_age 2 = .ok (.if_icmp .lt 9, 3) := by decide +kernel
theorem dX4_age_5 : decode cX4_age 5 = .ok (.iload_n 1, 1) := by decide +kernel
theorem dX4_age_6 : decode cX4_age 6 = .ok (.bipush 99, 2) := by decide +kernel
theorem dX4_age_8 : decode cX4_age 8 = .ok (.if_icmp .le 6, 3) := by decide +kernel
theorem dX4_age_11 : decode cX4_age 11 = .ok (.bipush (-2), 2) := by decide +kernel
theorem dX4_age_13 : decode cX4_age 13 = .ok (.ireturn, 1) := by decide +kernel
theorem dX4_age_14 : decode cX4_age 14 = .ok (.aload_n 0, 1) := by decide +kernel
theorem dX4_age_15 : decode cX4_age 15 = .ok (.getfield 22, 3) := by decide +kernel
theorem dX4_age_18 : decode cX4_age 18 = .ok (.aload_n 0, 1) := by decide +kernel
theorem dX4_age_19 : decode cX4_age 19 = .ok (.getfield 10, 3) := by decide +kernel
theorem dX4_age_22 : decode cX4_age 22 = .ok (.invokevirtual 37, 3) := by decide +kernel
theorem dX4_age_25 : decode cX4_age 25 = .ok (.aload_n 0, 1) := by decide +kernel
theorem dX4_age_26 : decode cX4_age 26 = .ok (.getfield 10, 3) := by decide +kernel
theorem dX4_age_29 : decode cX4_age 29 = .ok (.iload_n 1, 1) := by decide +kernel
theorem dX4_age_30 : decode cX4_age 30 = .ok (.invokevirtual 108, 3) := by decide +kernel
theorem dX4_age_33 : decode cX4_age 33 = .ok (.ireturn, 1) := by decide +kernel
theorem dX4_count_0 : decode cX4_count 0 = .ok (.iload_n 1, 1) := by decide +kernel
theorem dX4_count_1 : decode cX4_count 1 = .ok (.bipush 7, 2) := by decide +kernel
theorem dX4_count_3 : decode cX4_count 3 = .ok (.invokestatic 57, 3) := by decide +kernel
theorem dX4_count_6 : decode cX4_count 6 = .ok (.ifCond .eq 14, 3) := by decide +kernel
theorem dX4_count_9 : decode cX4_count 9 = .ok (.aload_n 0, 1) := by decide +kernel
theorem dX4_count_10 : decode cX4_count 10 = .ok (.getfield 10, 3) := by decide +kernel
theorem dX4_count_13 : decode cX4_count 13 = .ok (.iload_n 1, 1) := by decide +kernel
theorem dX4_count_14 : decode cX4_count 14 = .ok (.invokevirtual 111, 3) := by decide +kernel
theorem dX4_count_17 : decode cX4_count 17 = .ok (.goto 5, 3) := by decide +kernel
theorem dX4_count_20 : decode cX4_count 20 = .ok (.bipush (-2), 2) := by decide +kernel
theorem dX4_count_22 : decode cX4_count 22 = .ok (.ireturn, 1) := by decide +kernel
theorem dX4_setting_0 : decode cX4_setting 0 = .ok (.iload_n 1, 1) := by decide +kernel
theorem dX4_setting_1 : decode cX4_setting 1 = .ok (.iconst 4, 1) := by decide +kernel
theorem dX4_setting_2 : decode cX4_setting 2 = .ok (.invokestatic 57, 3) := by decide +kernel
theorem dX4_setting_5 : decode cX4_setting 5 = .ok (.ifCond .eq 14, 3) := by decide +kernel
theorem dX4_setting_8 : decode cX4_setting 8 = .ok (.aload_n 0, 1) := by decide +kernel
theorem dX4_setting_9 : decode cX4_setting 9 = .ok (.getfield 10, 3) := by decide +kernel
theorem dX4_setting_12 : decode cX4_setting 12 = .ok (.iload_n 1, 1) := by decide +kernel
theorem dX4_setting_13 : decode cX4_setting 13 = .ok (.invokevirtual 68, 3) := by decide +kernel
theorem dX4_setting_16 : decode cX4_setting 16 = .ok (.goto 4, 3) := by decide +kernel
theorem dX4_setting_19 : decode cX4_setting 19 = .ok (.iconst (-1), 1) := by decide +kernel
theorem dX4_setting_20 : decode cX4_setting 20 = .ok (.ireturn, 1) := by decide +kernel
theorem dX4_weight_0 : decode cX4_weight 0 = .ok (.aload_n 0, 1) := by decide +kernel
theorem dX4_weight_1 : decode cX4_weight 1 = .ok (.getfield 10, 3) := by decide +kernel
theorem dX4_weight_4 : decode cX4_weight 4 = .ok (.iload_n 1, 1) := by decide +kernel
theorem dX4_weight_5 : decode cX4_weight 5 = .ok (.invokevirtual 45, 3) := by decide +kernel
theorem dX4_weight_8 : decode cX4_weight 8 = .ok (.astore 4, 2) := by decide +kernel
theorem dX4_weight_10 : decode cX4_weight 10 = .ok (.aload 4, 2) := by decide +kernel
theorem dX4_weight_12 : decode cX4_weight 12 = .ok (.ifnull 17, 3) := by decide +kernel
theorem dX4_weight_15 : decode cX4_weight 15 = .ok (.iload_n 2, 1) := by decide +kernel
theorem dX4_weight_16 : decode cX4_weight 16 = .ok (.invokestatic 80, 3) := by decide +kernel
theorem dX4_weight_19 : decode cX4_weight 19 = .ok (.ifCond .eq 10, 3) := by decide +kernel
theorem dX4_weight_22 : decode cX4_weight 22 = .ok (.iload_n 3, 1) := by decide +kernel
theorem dX4_weight_23 : decode cX4_weight 23 = .ok (.invokestatic 84, 3) := by decide +kernel
theorem dX4_weight_26 : decode cX4_weight 26 = .ok (.ifCond .ne 5, 3) := by decide +kernel
theorem dX4_weight_29 : decode cX4_weight 29 = .ok (.iconst (-1), 1) := by decide +kernel
theorem dX4_weight_30 : decode cX4_weight 30 = .ok (.ireturn, 1) := by decide +kernel
theorem dX4_weight_31 : decode cX4_weight 31 = .ok (.aload 4, 2) := by decide +kernel
theorem dX4_weight_33 : decode cX4_weight 33 = .ok (.iload_n 2, 1) := by decide +kernel
theorem dX4_weight_34 : decode cX4_weight 34 = .ok (.iload_n 3, 1) := by decide +kernel
theorem dX4_weight_35 : decode cX4_weight 35 = .ok (.invokevirtual 87, 3) := by decide +kernel
theorem dX4_weight_38 : decode cX4_weight 38 = .ok (.ireturn, 1) := by decide +kernel
theorem dX4_speaker_0 : decode cX4_speaker 0 = .ok (.aload_n 0, 1) := by decide +kernel
theorem dX4_speaker_1 : decode cX4_speaker 1 = .ok (.getfield 10, 3) := by decide +kernel
theorem dX4_speaker_4 : decode cX4_speaker 4 = .ok (.iload_n 1, 1) := by decide +kernel
theorem dX4_speaker_5 : decode cX4_speaker 5 = .ok (.invokevirtual 45, 3) := by decide +kernel
theorem dX4_speaker_8 : decode cX4_speaker 8 = .ok (.astore_n 3, 1) := by decide +kernel
theorem dX4_speaker_9 : decode cX4_speaker 9 = .ok (.aload_n 3, 1) := by decide +kernel
theorem dX4_speaker_10 : decode cX4_speaker 10 = .ok (.ifnonnull 5, 3) := by decide +kernel
theorem dX4_speaker_13 : decode cX4_speaker 13 = .ok (.iconst (-1), 1) := by decide +kernel
theorem dX4_speaker_14 : decode cX4_speaker 14 = .ok (.ireturn, 1) := by decide +kernel
theorem dX4_speaker_15 : decode cX4_speaker 15 = .ok (.iload_n 2, 1) := by decide +kernel
theorem dX4_speaker_16 : decode cX4_speaker 16 = .ok (.iconst 5, 1) := by decide +kernel
theorem dX4_speaker_17 : decode cX4_speaker 17 = .ok (.invokestatic 57, 3) := by decide +kernel
theorem dX4_speaker_20 : decode cX4_speaker 20 = .ok (.ifCond .eq 15, 3) := by decide +kernel
theorem dX4_speaker_23 : decode cX4_speaker 23 = .ok (.aload_n 0, 1) := by decide +kernel
theorem dX4_speaker_24 : decode cX4_speaker 24 = .ok (.getfield 10, 3) := by decide +kernel
theorem dX4_speaker_27 : decode cX4_speaker 27 = .ok (.aload_n 3, 1) := by decide +kernel
theorem dX4_speaker_28 : decode cX4_speaker 28 = .ok (.iload_n 2, 1) := by decide +kernel
theorem dX4_speaker_29 : decode cX4_speaker 29 = .ok (.invokevirtual 114, 3) := by decide +kernel
theorem dX4_speaker_32 : decode cX4_speaker 32 = .ok (.goto 5, 3) := by decide +kernel
theorem dX4_speaker_35 : decode cX4_speaker 35 = .ok (.bipush (-2), 2) := by decide +kernel
theorem dX4_speaker_37 : decode cX4_speaker 37 = .ok (.ireturn, 1) := by decide +kernel
theorem dX4_wordOf_0 : decode cX4_wordOf 0 = .ok (.aload_n 0, 1) := by decide +kernel
theorem dX4_wordOf_1 : decode cX4_wordOf 1 = .ok (.getfield 10, 3) := by decide +kernel
theorem dX4_wordOf_4 : decode cX4_wordOf 4 = .ok (.iload_n 1, 1) := by decide +kernel
theorem dX4_wordOf_5 : decode cX4_wordOf 5 = .ok (.invokevirtual 45, 3) := by decide +kernel
theorem dX4_wordOf_8 : decode cX4_wordOf 8 = .ok (.astore_n 3, 1) := by decide +kernel
theorem dX4_wordOf_9 : decode cX4_wordOf 9 = .ok (.aload_n 3, 1) := by decide +kernel
theorem dX4_wordOf_10 : decode cX4_wordOf 10 = .ok (.ifnull 10, 3) := by decide +kernel
theorem dX4_wordOf_13 : decode cX4_wordOf 13 = .ok (.iload_n 2, 1) := by decide +kernel
theorem dX4_wordOf_14 : decode cX4_wordOf 14 = .ok (.invokestatic 80, 3) := by decide +kernel
theorem dX4_wordOf_17 : decode cX4_wordOf 17 = .ok (.ifCond .ne 5, 3) := by decide +kernel
theorem dX4_wordOf_20 : decode cX4_wordOf 20 = .ok (.iconst (-1), 1) := by decide +kernel
theorem dX4_wordOf_21 : decode cX4_wordOf 21 = .ok (.ireturn, 1) := by decide +kernel
theorem dX4_wordOf_22 : decode cX4_wordOf 22 = .ok (.aload_n 3, 1) := by decide +kernel
theorem dX4_wordOf_23 : decode cX4_wordOf 23 = .ok (.iload_n 2, 1) := by decide +kernel
theorem dX4_wordOf_24 : decode cX4_wordOf 24 = .ok (.invokevirtual 118, 3) := by decide +kernel
theorem dX4_wordOf_27 : decode cX4_wordOf 27 = .ok (.ireturn, 1) := by decide +kernel
theorem dX4_hears_0 : decode cX4_hears 0 = .ok (.aload_n 0, 1) := by decide +kernel
theorem dX4_hears_1 : decode cX4_hears 1 = .ok (.getfield 10, 3) := by decide +kernel
theorem dX4_hears_4 : decode cX4_hears 4 = .ok (.iload_n 1, 1) := by decide +kernel
theorem dX4_hears_5 : decode cX4_hears 5 = .ok (.invokevirtual 45, 3) := by decide +kernel
theorem dX4_hears_8 : decode cX4_hears 8 = .ok (.astore_n 3, 1) := by decide +kernel
theorem dX4_hears_9 : decode cX4_hears 9 = .ok (.aload_n 3, 1) := by decide +kernel
theorem dX4_hears_10 : decode cX4_hears 10 = .ok (.ifnull 10, 3) := by decide +kernel
theorem dX4_hears_13 : decode cX4_hears 13 = .ok (.iload_n 2, 1) := by decide +kernel
theorem dX4_hears_14 : decode cX4_hears 14 = .ok (.invokestatic 84, 3) := by decide +kernel
theorem dX4_hears_17 : decode cX4_hears 17 = .ok (.ifCond .ne 5, 3) := by decide +kernel
theorem dX4_hears_20 : decode cX4_hears 20 = .ok (.iconst (-1), 1) := by decide +kernel
theorem dX4_hears_21 : decode cX4_hears 21 = .ok (.ireturn, 1) := by decide +kernel
theorem dX4_hears_22 : decode cX4_hears 22 = .ok (.aload_n 3, 1) := by decide +kernel
theorem dX4_hears_23 : decode cX4_hears 23 = .ok (.iload_n 2, 1) := by decide +kernel
theorem dX4_hears_24 : decode cX4_hears 24 = .ok (.invokevirtual 121, 3) := by decide +kernel
theorem dX4_hears_27 : decode cX4_hears 27 = .ok (.ireturn, 1) := by decide +kernel
theorem dX4_agreement_0 : decode cX4_agreement 0 = .ok (.aload_n 0, 1) := by decide +kernel
theorem dX4_agreement_1 : decode cX4_agreement 1 = .ok (.getfield 10, 3) := by decide +kernel
theorem dX4_agreement_4 : decode cX4_agreement 4 = .ok (.iload_n 1, 1) := by decide +kernel
theorem dX4_agreement_5 : decode cX4_agreement 5 = .ok (.invokevirtual 45, 3) := by decide +kernel
theorem dX4_agreement_8 : decode cX4_agreement 8 = .ok (.astore 4, 2) := by decide +kernel
theorem dX4_agreement_10 : decode cX4_agreement 10 = .ok (.aload_n 0, 1) := by decide +kernel
theorem dX4_agreement_11 : decode cX4_agreement 11 = .ok (.getfield 10, 3) := by decide +kernel
theorem dX4_agreement_14 : decode cX4_agreement 14 = .ok (.iload_n 2, 1) := by decide +kernel
theorem dX4_agreement_15 : decode cX4_agreement 15 = .ok (.invokevirtual 45, 3) := by decide +kernel
theorem dX4_agreement_18 : decode cX4_agreement 18 = .ok (.astore 5, 2) := by decide +kernel
theorem dX4_agreement_20 : decode cX4_agreement 20 = .ok (.aload 4, 2) := by decide +kernel
theorem dX4_agreement_22 : decode cX4_agreement 22 = .ok (.ifnull 8, 3) := by decide +kernel
theorem dX4_agreement_25 : decode cX4_agreement 25 = .ok (.aload 5, 2) := by decide +kernel
theorem dX4_agreement_27 : decode cX4_agreement 27 = .ok (.ifnonnull 5, 3) := by decide +kernel
theorem dX4_agreement_30 : decode cX4_agreement 30 = .ok (.iconst (-1), 1) := by decide +kernel
theorem dX4_agreement_31 : decode cX4_agreement 31 = .ok (.ireturn, 1) := by decide +kernel
theorem dX4_agreement_32 : decode cX4_agreement 32 = .ok (.iload_n 3, 1) := by decide +kernel
theorem dX4_agreement_33 : decode cX4_agreement 33 = .ok (.ifCond .ne 11, 3) := by decide +kernel
theorem dX4_agreement_36 : decode cX4_agreement 36 = .ok (.aload 4, 2) := by decide +kernel
theorem dX4_agreement_38 : decode cX4_agreement 38 = .ok (.aload 5, 2) := by decide +kernel
theorem dX4_agreement_40 : decode cX4_agreement 40 = .ok (.invokestatic 130, 3) := by decide +kernel
theorem dX4_agreement_43 : decode cX4_agreement 43 = .ok (.ireturn, 1) := by decide +kernel
theorem dX4_agreement_44 : decode cX4_agreement 44 = .ok (.iload_n 3, 1) := by decide +kernel
theorem dX4_agreement_45 : decode cX4_agreement 45 = .ok (.iconst 1, 1) := by decide +kernel
theorem dX4_agreement_46 : decode cX4_agreement 46 = .ok (.if_icmp .ne 13, 3) := by decide +kernel
theorem dX4_agreement_49 : decode cX4_agreement 49 = .ok (.aload 4, 2) := by decide +kernel
theorem dX4_agreement_51 : decode cX4_agreement 51 = .ok (.aload 5, 2) := by decide +kernel
theorem dX4_agreement_53 : decode cX4_agreement 53 = .ok (.invokestatic 134, 3) := by decide +kernel
theorem dX4_agreement_56 : decode cX4_agreement 56 = .ok (.goto 5, 3) := by decide +kernel
theorem dX4_agreement_59 : decode cX4_agreement 59 = .ok (.bipush (-2), 2) := by decide +kernel
theorem dX4_agreement_61 : decode cX4_agreement 61 = .ok (.ireturn, 1) := by decide +kernel
theorem dX4_understanding_0 : decode cX4_understanding 0 = .ok (.aload_n 0, 1) := by decide +kernel
theorem dX4_understanding_1 : decode cX4_understanding 1 = .ok (.getfield 10, 3) := by decide +kernel
theorem dX4_understanding_4 : decode cX4_understanding 4 = .ok (.iload_n 1, 1) := by decide +kernel
theorem dX4_understanding_5 : decode cX4_understanding 5 = .ok (.invokevirtual 45, 3) := by decide +kernel
theorem dX4_understanding_8 : decode cX4_understanding 8 = .ok (.astore_n 3, 1) := by decide +kernel
theorem dX4_understanding_9 : decode cX4_understanding 9 = .ok (.aload_n 0, 1) := by decide +kernel
theorem dX4_understanding_10 : decode cX4_understanding 10 = .ok (.getfield 10, 3) := by decide +kernel
theorem dX4_understanding_13 : decode cX4_understanding 13 = .ok (.iload_n 2, 1) := by decide +kernel
theorem dX4_understanding_14 : decode cX4_understanding 14 = .ok (.invokevirtual 45, 3) := by decide +kernel
theorem dX4_understanding_17 : decode cX4_understanding 17 = .ok (.astore 4, 2) := by decide +kernel
theorem dX4_understanding_19 : decode cX4_understanding 19 = .ok (.aload_n 3, 1) := by decide +kernel
theorem dX4_understanding_20 : decode cX4_understanding 20 = .ok (.ifnull 8, 3) := by decide +kernel
theorem dX4_understanding_23 : decode cX4_understanding 23 = .ok (.aload 4, 2) := by decide +kernel
theorem dX4_understanding_25 : decode cX4_understanding 25 = .ok (.ifnonnull 5, 3) := by decide +kernel
theorem dX4_understanding_28 : decode cX4_understanding 28 = .ok (.iconst (-1), 1) := by decide +kernel
theorem dX4_understanding_29 : decode cX4_understanding 29 = .ok (.ireturn, 1) := by decide +kernel
theorem dX4_understanding_30 : decode cX4_understanding 30 = .ok (.aload_n 3, 1) := by decide +kernel
theorem dX4_understanding_31 : decode cX4_understanding 31 = .ok (.aload 4, 2) := by decide +kernel
theorem dX4_understanding_33 : decode cX4_understanding 33 = .ok (.invokestatic 137, 3) := by decide +kernel
theorem dX4_understanding_36 : decode cX4_understanding 36 = .ok (.ireturn, 1) := by decide +kernel
theorem dX4_common_0 : decode cX4_common 0 = .ok (.iload_n 1, 1) := by decide +kernel
theorem dX4_common_1 : decode cX4_common 1 = .ok (.invokestatic 80, 3) := by decide +kernel
theorem dX4_common_4 : decode cX4_common 4 = .ok (.ifCond .eq 14, 3) := by decide +kernel
theorem dX4_common_7 : decode cX4_common 7 = .ok (.aload_n 0, 1) := by decide +kernel
theorem dX4_common_8 : decode cX4_common 8 = .ok (.getfield 10, 3) := by decide +kernel
theorem dX4_common_11 : decode cX4_common 11 = .ok (.iload_n 1, 1) := by decide +kernel
theorem dX4_common_12 : decode cX4_common 12 = .ok (.invokevirtual 140, 3) := by decide +kernel
theorem dX4_common_15 : decode cX4_common 15 = .ok (.goto 4, 3) := by decide +kernel
theorem dX4_common_18 : decode cX4_common 18 = .ok (.iconst (-1), 1) := by decide +kernel
theorem dX4_common_19 : decode cX4_common 19 = .ok (.ireturn, 1) := by decide +kernel
theorem dX4_ifMet_0 : decode cX4_ifMet 0 = .ok (.aload_n 0, 1) := by decide +kernel
theorem dX4_ifMet_1 : decode cX4_ifMet 1 = .ok (.getfield 10, 3) := by decide +kernel
theorem dX4_ifMet_4 : decode cX4_ifMet 4 = .ok (.iload_n 1, 1) := by decide +kernel
theorem dX4_ifMet_5 : decode cX4_ifMet 5 = .ok (.invokevirtual 45, 3) := by decide +kernel
theorem dX4_ifMet_8 : decode cX4_ifMet 8 = .ok (.ifnull 21, 3) := by decide +kernel
theorem dX4_ifMet_11 : decode cX4_ifMet 11 = .ok (.aload_n 0, 1) := by decide +kernel
theorem dX4_ifMet_12 : decode cX4_ifMet 12 = .ok (.getfield 10, 3) := by decide +kernel
theorem dX4_ifMet_15 : decode cX4_ifMet 15 = .ok (.iload_n 2, 1) := by decide +kernel
theorem dX4_ifMet_16 : decode cX4_ifMet 16 = .ok (.invokevirtual 45, 3) := by decide +kernel
theorem dX4_ifMet_19 : decode cX4_ifMet 19 = .ok (.ifnull 10, 3) := by decide +kernel
theorem dX4_ifMet_22 : decode cX4_ifMet 22 = .ok (.iload_n 3, 1) := by decide +kernel
theorem dX4_ifMet_23 : decode cX4_ifMet 23 = .ok (.invokestatic 80, 3) := by decide +kernel
theorem dX4_ifMet_26 : decode cX4_ifMet 26 = .ok (.ifCond .ne 5, 3) := by decide +kernel
theorem dX4_ifMet_29 : decode cX4_ifMet 29 = .ok (.iconst (-1), 1) := by decide +kernel
theorem dX4_ifMet_30 : decode cX4_ifMet 30 = .ok (.ireturn, 1) := by decide +kernel
theorem dX4_ifMet_31 : decode cX4_ifMet 31 = .ok (.iload 4, 2) := by decide +kernel
theorem dX4_ifMet_33 : decode cX4_ifMet 33 = .ok (.iconst 4, 1) := by decide +kernel
theorem dX4_ifMet_34 : decode cX4_ifMet 34 = .ok (.invokestatic 57, 3) := by decide +kernel
theorem dX4_ifMet_37 : decode cX4_ifMet 37 = .ok (.ifCond .ne 6, 3) := by decide +kernel
theorem dX4_ifMet_40 : decode cX4_ifMet 40 = .ok (.bipush (-2), 2) := by decide +kernel
theorem dX4_ifMet_42 : decode cX4_ifMet 42 = .ok (.ireturn, 1) := by decide +kernel
theorem dX4_ifMet_43 : decode cX4_ifMet 43 = .ok (.iload_n 1, 1) := by decide +kernel
theorem dX4_ifMet_44 : decode cX4_ifMet 44 = .ok (.iload_n 2, 1) := by decide +kernel
theorem dX4_ifMet_45 : decode cX4_ifMet 45 = .ok (.if_icmp .ne 6, 3) := by decide +kernel
theorem dX4_ifMet_48 : decode cX4_ifMet 48 = .ok (.bipush (-3), 2) := by decide +kernel
theorem dX4_ifMet_50 : decode cX4_ifMet 50 = .ok (.ireturn, 1) := by decide +kernel
theorem dX4_ifMet_51 : decode cX4_ifMet 51 = .ok (.aload_n 0, 1) := by decide +kernel
theorem dX4_ifMet_52 : decode cX4_ifMet 52 = .ok (.getfield 16, 3) := by decide +kernel
theorem dX4_ifMet_55 : decode cX4_ifMet 55 = .ok (.aload_n 0, 1) := by decide +kernel
theorem dX4_ifMet_56 : decode cX4_ifMet 56 = .ok (.getfield 10, 3) := by decide +kernel
theorem dX4_ifMet_59 : decode cX4_ifMet 59 = .ok (.invokevirtual 143, 3) := by decide +kernel
theorem dX4_ifMet_62 : decode cX4_ifMet 62 = .ok (.aload_n 0, 1) := by decide +kernel
theorem dX4_ifMet_63 : decode cX4_ifMet 63 = .ok (.getfield 16, 3) := by decide +kernel
theorem dX4_ifMet_66 : decode cX4_ifMet 66 = .ok (.iload_n 1, 1) := by decide +kernel
theorem dX4_ifMet_67 : decode cX4_ifMet 67 = .ok (.invokevirtual 45, 3) := by decide +kernel
theorem dX4_ifMet_70 : decode cX4_ifMet 70 = .ok (.astore 5, 2) := by decide +kernel
theorem dX4_ifMet_72 : decode cX4_ifMet 72 = .ok (.aload_n 0, 1) := by decide +kernel
theorem dX4_ifMet_73 : decode cX4_ifMet 73 = .ok (.getfield 16, 3) := by decide +kernel
theorem dX4_ifMet_76 : decode cX4_ifMet 76 = .ok (.iload_n 2, 1) := by decide +kernel
theorem dX4_ifMet_77 : decode cX4_ifMet 77 = .ok (.invokevirtual 45, 3) := by decide +kernel
theorem dX4_ifMet_80 : decode cX4_ifMet 80 = .ok (.astore 6, 2) := by decide +kernel
theorem dX4_ifMet_82 : decode cX4_ifMet 82 = .ok (.aload 5, 2) := by decide +kernel
theorem dX4_ifMet_84 : decode cX4_ifMet 84 = .ok (.ifnull 8, 3) := by decide +kernel
theorem dX4_ifMet_87 : decode cX4_ifMet 87 = .ok (.aload 6, 2) := by decide +kernel
theorem dX4_ifMet_89 : decode cX4_ifMet 89 = .ok (.ifnonnull 5, 3) := by decide +kernel
theorem dX4_ifMet_92 : decode cX4_ifMet 92 = .ok (.iconst (-1), 1) := by decide +kernel
theorem dX4_ifMet_93 : decode cX4_ifMet 93 = .ok (.ireturn, 1) := by decide +kernel
theorem dX4_ifMet_94 : decode cX4_ifMet 94 = .ok (.aload_n 0, 1) := by decide +kernel
theorem dX4_ifMet_95 : decode cX4_ifMet 95 = .ok (.getfield 16, 3) := by decide +kernel
theorem dX4_ifMet_98 : decode cX4_ifMet 98 = .ok (.aload 5, 2) := by decide +kernel
theorem dX4_ifMet_100 : decode cX4_ifMet 100 = .ok (.aload 6, 2) := by decide +kernel
theorem dX4_ifMet_102 : decode cX4_ifMet 102 = .ok (.iload_n 3, 1) := by decide +kernel
theorem dX4_ifMet_103 : decode cX4_ifMet 103 = .ok (.invokevirtual 98, 3) := by decide +kernel
theorem dX4_ifMet_106 : decode cX4_ifMet 106 = .ok (.istore 7, 2) := by decide +kernel
theorem dX4_ifMet_108 : decode cX4_ifMet 108 = .ok (.iload 4, 2) := by decide +kernel
theorem dX4_ifMet_110 : decode cX4_ifMet 110 = .ok (.tableswitch 53 0 2 #[26, 32, 38], 26) := by decide +kernel
theorem dX4_ifMet_136 : decode cX4_ifMet 136 = .ok (.iload 7, 2) := by decide +kernel
theorem dX4_ifMet_138 : decode cX4_ifMet 138 = .ok (.bipush 10, 2) := by decide +kernel
theorem dX4_ifMet_140 : decode cX4_ifMet 140 = .ok (.idiv, 1) := by decide +kernel
theorem dX4_ifMet_141 : decode cX4_ifMet 141 = .ok (.ireturn, 1) := by decide +kernel
theorem dX4_ifMet_142 : decode cX4_ifMet 142 = .ok (.iload 7, 2) := by decide +kernel
theorem dX4_ifMet_144 : decode cX4_ifMet 144 = .ok (.bipush 10, 2) := by decide +kernel
theorem dX4_ifMet_146 : decode cX4_ifMet 146 = .ok (.irem, 1) := by decide +kernel
theorem dX4_ifMet_147 : decode cX4_ifMet 147 = .ok (.ireturn, 1) := by decide +kernel
theorem dX4_ifMet_148 : decode cX4_ifMet 148 = .ok (.iload 7, 2) := by decide +kernel
theorem dX4_ifMet_150 : decode cX4_ifMet 150 = .ok (.bipush 10, 2) := by decide +kernel
theorem dX4_ifMet_152 : decode cX4_ifMet 152 = .ok (.irem, 1) := by decide +kernel
theorem dX4_ifMet_153 : decode cX4_ifMet 153 = .ok (.iload_n 3, 1) := by decide +kernel
theorem dX4_ifMet_154 : decode cX4_ifMet 154 = .ok (.if_icmp .ne 7, 3) := by decide +kernel
theorem dX4_ifMet_157 : decode cX4_ifMet 157 = .ok (.iconst 1, 1) := by decide +kernel
theorem dX4_ifMet_158 : decode cX4_ifMet 158 = .ok (.goto 4, 3) := by decide +kernel
theorem dX4_ifMet_161 : decode cX4_ifMet 161 = .ok (.iconst 0, 1) := by decide +kernel
theorem dX4_ifMet_162 : decode cX4_ifMet 162 = .ok (.ireturn, 1) := by decide +kernel
theorem dX4_ifMet_163 : decode cX4_ifMet 163 = .ok (.aload 5, 2) := by decide +kernel
theorem dX4_ifMet_165 : decode cX4_ifMet 165 = .ok (.aload 6, 2) := by decide +kernel
theorem dX4_ifMet_167 : decode cX4_ifMet 167 = .ok (.invokestatic 130, 3) := by decide +kernel
theorem dX4_ifMet_170 : decode cX4_ifMet 170 = .ok (.ireturn, 1) := by decide +kernel
theorem dX4_bestSayer_0 : decode cX4_bestSayer 0 = .ok (.aload_n 0, 1) := by decide +kernel
theorem dX4_bestSayer_1 : decode cX4_bestSayer 1 = .ok (.getfield 10, 3) := by decide +kernel
theorem dX4_bestSayer_4 : decode cX4_bestSayer 4 = .ok (.iload_n 1, 1) := by decide +kernel
theorem dX4_bestSayer_5 : decode cX4_bestSayer 5 = .ok (.invokevirtual 45, 3) := by decide +kernel
theorem dX4_bestSayer_8 : decode cX4_bestSayer 8 = .ok (.astore_n 2, 1) := by decide +kernel
theorem dX4_bestSayer_9 : decode cX4_bestSayer 9 = .ok (.aload_n 2, 1) := by decide +kernel
theorem dX4_bestSayer_10 : decode cX4_bestSayer 10 = .ok (.ifnonnull 5, 3) := by decide +kernel
theorem dX4_bestSayer_13 : decode cX4_bestSayer 13 = .ok (.iconst (-1), 1) := by decide +kernel
theorem dX4_bestSayer_14 : decode cX4_bestSayer 14 = .ok (.ireturn, 1) := by decide +kernel
theorem dX4_bestSayer_15 : decode cX4_bestSayer 15 = .ok (.bipush (-6), 2) := by decide +kernel
theorem dX4_bestSayer_17 : decode cX4_bestSayer 17 = .ok (.istore_n 3, 1) := by decide +kernel
theorem dX4_bestSayer_18 : decode cX4_bestSayer 18 = .ok (.iconst (-1), 1) := by decide +kernel
theorem dX4_bestSayer_19 : decode cX4_bestSayer 19 = .ok (.istore 4, 2) := by decide +kernel
theorem dX4_bestSayer_21 : decode cX4_bestSayer 21 = .ok (.iconst 0, 1) := by decide +kernel
theorem dX4_bestSayer_22 : decode cX4_bestSayer 22 = .ok (.istore 5, 2) := by decide +kernel
theorem dX4_bestSayer_24 : decode cX4_bestSayer 24 = .ok (.iload 5, 2) := by decide +kernel
theorem dX4_bestSayer_26 : decode cX4_bestSayer 26 = .ok (.bipush 8, 2) := by decide +kernel
theorem dX4_bestSayer_28 : decode cX4_bestSayer 28 = .ok (.if_icmp .ge 56, 3) := by decide +kernel
theorem dX4_bestSayer_31 : decode cX4_bestSayer 31 = .ok (.aload_n 0, 1) := by decide +kernel
theorem dX4_bestSayer_32 : decode cX4_bestSayer 32 = .ok (.getfield 10, 3) := by decide +kernel
theorem dX4_bestSayer_35 : decode cX4_bestSayer 35 = .ok (.iload 5, 2) := by decide +kernel
theorem dX4_bestSayer_37 : decode cX4_bestSayer 37 = .ok (.invokevirtual 45, 3) := by decide +kernel
theorem dX4_bestSayer_40 : decode cX4_bestSayer 40 = .ok (.astore 6, 2) := by decide +kernel
theorem dX4_bestSayer_42 : decode cX4_bestSayer 42 = .ok (.aload 6, 2) := by decide +kernel
theorem dX4_bestSayer_44 : decode cX4_bestSayer 44 = .ok (.ifnull 34, 3) := by decide +kernel
theorem dX4_bestSayer_47 : decode cX4_bestSayer 47 = .ok (.iload 5, 2) := by decide +kernel
theorem dX4_bestSayer_49 : decode cX4_bestSayer 49 = .ok (.iload_n 1, 1) := by decide +kernel
theorem dX4_bestSayer_50 : decode cX4_bestSayer 50 = .ok (.if_icmp .ne 6, 3) := by decide +kernel
theorem dX4_bestSayer_53 : decode cX4_bestSayer 53 = .ok (.goto 25, 3) := by decide +kernel
theorem dX4_bestSayer_56 : decode cX4_bestSayer 56 = .ok (.aload 6, 2) := by decide +kernel
theorem dX4_bestSayer_58 : decode cX4_bestSayer 58 = .ok (.aload_n 2, 1) := by decide +kernel
theorem dX4_bestSayer_59 : decode cX4_bestSayer 59 = .ok (.invokestatic 137, 3) := by decide +kernel
theorem dX4_bestSayer_62 : decode cX4_bestSayer 62 = .ok (.istore 7, 2) := by decide +kernel
theorem dX4_bestSayer_64 : decode cX4_bestSayer 64 = .ok (.iload 7, 2) := by decide +kernel
theorem dX4_bestSayer_66 : decode cX4_bestSayer 66 = .ok (.iload 4, 2) := by decide +kernel
theorem dX4_bestSayer_68 : decode cX4_bestSayer 68 = .ok (.if_icmp .le 10, 3) := by decide +kernel
theorem dX4_bestSayer_71 : decode cX4_bestSayer 71 = .ok (.iload 7, 2) := by decide +kernel
theorem dX4_bestSayer_73 : decode cX4_bestSayer 73 = .ok (.istore 4, 2) := by decide +kernel
theorem dX4_bestSayer_75 : decode cX4_bestSayer 75 = .ok (.iload 5, 2) := by decide +kernel
theorem dX4_bestSayer_77 : decode cX4_bestSayer 77 = .ok (.istore_n 3, 1) := by decide +kernel
theorem dX4_bestSayer_78 : decode cX4_bestSayer 78 = .ok (.iinc 5 1, 3) := by decide +kernel
theorem dX4_bestSayer_81 : decode cX4_bestSayer 81 = .ok (.goto (-57), 3) := by decide +kernel
theorem dX4_bestSayer_84 : decode cX4_bestSayer 84 = .ok (.iload_n 3, 1) := by decide +kernel
theorem dX4_bestSayer_85 : decode cX4_bestSayer 85 = .ok (.ireturn, 1) := by decide +kernel
theorem dX4_agreementByMeanings_0 : decode cX4_agreementByMeanings 0 = .ok (.iconst 0, 1) := by decide +kernel
theorem dX4_agreementByMeanings_1 : decode cX4_agreementByMeanings 1 = .ok (.istore_n 2, 1) := by decide +kernel
theorem dX4_agreementByMeanings_2 : decode cX4_agreementByMeanings 2 = .ok (.iconst 0, 1) := by decide +kernel
theorem dX4_agreementByMeanings_3 : decode cX4_agreementByMeanings 3 = .ok (.istore_n 3, 1) := by decide +kernel
theorem dX4_agreementByMeanings_4 : decode cX4_agreementByMeanings 4 = .ok (.iload_n 3, 1) := by decide +kernel
theorem dX4_agreementByMeanings_5 : decode cX4_agreementByMeanings 5 = .ok (.bipush 6, 2) := by decide +kernel
theorem dX4_agreementByMeanings_7 : decode cX4_agreementByMeanings 7 = .ok (.if_icmp .ge 36, 3) := by decide +kernel
theorem dX4_agreementByMeanings_10 : decode cX4_agreementByMeanings 10 = .ok (.aload_n 0, 1) := by decide +kernel
theorem dX4_agreementByMeanings_11 : decode cX4_agreementByMeanings 11 = .ok (.iload_n 3, 1) := by decide +kernel
theorem dX4_agreementByMeanings_12 : decode cX4_agreementByMeanings 12 = .ok (.invokevirtual 118, 3) := by decide +kernel
theorem dX4_agreementByMeanings_15 : decode cX4_agreementByMeanings 15 = .ok (.istore 4, 2) := by decide +kernel
theorem dX4_agreementByMeanings_17 : decode cX4_agreementByMeanings 17 = .ok (.iload 4, 2) := by decide +kernel
theorem dX4_agreementByMeanings_19 : decode cX4_agreementByMeanings 19 = .ok (.bipush (-6), 2) := by decide +kernel
theorem dX4_agreementByMeanings_21 : decode cX4_agreementByMeanings 21 = .ok (.if_icmp .eq 16, 3) := by decide +kernel
theorem dX4_agreementByMeanings_24 : decode cX4_agreementByMeanings 24 = .ok (.iload 4, 2) := by decide +kernel
theorem dX4_agreementByMeanings_26 : decode cX4_agreementByMeanings 26 = .ok (.aload_n 1, 1) := by decide +kernel
theorem dX4_agreementByMeanings_27 : decode cX4_agreementByMeanings 27 = .ok (.iload_n 3, 1) := by decide +kernel
theorem dX4_agreementByMeanings_28 : decode cX4_agreementByMeanings 28 = .ok (.invokevirtual 118, 3) := by decide +kernel
theorem dX4_agreementByMeanings_31 : decode cX4_agreementByMeanings 31 = .ok (.if_icmp .ne 6, 3) := by decide +kernel
theorem dX4_agreementByMeanings_34 : decode cX4_agreementByMeanings 34 = .ok (.iinc 2 1, 3) := by decide +kernel
theorem dX4_agreementByMeanings_37 : decode cX4_agreementByMeanings 37 = .ok (.iinc 3 1, 3) := by decide +kernel
theorem dX4_agreementByMeanings_40 : decode cX4_agreementByMeanings 40 = .ok (.goto (-36), 3) := by decide +kernel
theorem dX4_agreementByMeanings_43 : decode cX4_agreementByMeanings 43 = .ok (.iload_n 2, 1) := by decide +kernel
theorem dX4_agreementByMeanings_44 : decode cX4_agreementByMeanings 44 = .ok (.ireturn, 1) := by decide +kernel
theorem dX4_agreementByWords_0 : decode cX4_agreementByWords 0 = .ok (.iconst 0, 1) := by decide +kernel
theorem dX4_agreementByWords_1 : decode cX4_agreementByWords 1 = .ok (.istore_n 2, 1) := by decide +kernel
theorem dX4_agreementByWords_2 : decode cX4_agreementByWords 2 = .ok (.iconst 0, 1) := by decide +kernel
theorem dX4_agreementByWords_3 : decode cX4_agreementByWords 3 = .ok (.istore_n 3, 1) := by decide +kernel
theorem dX4_agreementByWords_4 : decode cX4_agreementByWords 4 = .ok (.iload_n 3, 1) := by decide +kernel
theorem dX4_agreementByWords_5 : decode cX4_agreementByWords 5 = .ok (.bipush 14, 2) := by decide +kernel
theorem dX4_agreementByWords_7 : decode cX4_agreementByWords 7 = .ok (.if_icmp .ge 48, 3) := by decide +kernel
theorem dX4_agreementByWords_10 : decode cX4_agreementByWords 10 = .ok (.iconst 0, 1) := by decide +kernel
theorem dX4_agreementByWords_11 : decode cX4_agreementByWords 11 = .ok (.istore 4, 2) := by decide +kernel
theorem dX4_agreementByWords_13 : decode cX4_agreementByWords 13 = .ok (.iload 4, 2) := by decide +kernel
theorem dX4_agreementByWords_15 : decode cX4_agreementByWords 15 = .ok (.bipush 6, 2) := by decide +kernel
theorem dX4_agreementByWords_17 : decode cX4_agreementByWords 17 = .ok (.if_icmp .ge 32, 3) := by decide +kernel
theorem dX4_agreementByWords_20 : decode cX4_agreementByWords 20 = .ok (.aload_n 0, 1) := by decide +kernel
theorem dX4_agreementByWords_21 : decode cX4_agreementByWords 21 = .ok (.iload 4, 2) := by decide +kernel
theorem dX4_agreementByWords_23 : decode cX4_agreementByWords 23 = .ok (.invokevirtual 118, 3) := by decide +kernel
theorem dX4_agreementByWords_26 : decode cX4_agreementByWords 26 = .ok (.iload_n 3, 1) := by decide +kernel
theorem dX4_agreementByWords_27 : decode cX4_agreementByWords 27 = .ok (.if_icmp .ne 16, 3) := by decide +kernel
theorem dX4_agreementByWords_30 : decode cX4_agreementByWords 30 = .ok (.aload_n 1, 1) := by decide +kernel
theorem dX4_agreementByWords_31 : decode cX4_agreementByWords 31 = .ok (.iload 4, 2) := by decide +kernel
theorem dX4_agreementByWords_33 : decode cX4_agreementByWords 33 = .ok (.invokevirtual 118, 3) := by decide +kernel
theorem dX4_agreementByWords_36 : decode cX4_agreementByWords 36 = .ok (.iload_n 3, 1) := by decide +kernel
theorem dX4_agreementByWords_37 : decode cX4_agreementByWords 37 = .ok (.if_icmp .ne 6, 3) := by decide +kernel
theorem dX4_agreementByWords_40 : decode cX4_agreementByWords 40 = .ok (.iinc 2 1, 3) := by decide +kernel
theorem dX4_agreementByWords_43 : decode cX4_agreementByWords 43 = .ok (.iinc 4 1, 3) := by decide +kernel
theorem dX4_agreementByWords_46 : decode cX4_agreementByWords 46 = .ok (.goto (-33), 3) := by decide +kernel
theorem dX4_agreementByWords_49 : decode cX4_agreementByWords 49 = .ok (.iinc 3 1, 3) := by decide +kernel
theorem dX4_agreementByWords_52 : decode cX4_agreementByWords 52 = .ok (.goto (-48), 3) := by decide +kernel
theorem dX4_agreementByWords_55 : decode cX4_agreementByWords 55 = .ok (.iload_n 2, 1) := by decide +kernel
theorem dX4_agreementByWords_56 : decode cX4_agreementByWords 56 = .ok (.ireturn, 1) := by decide +kernel
theorem dX4_understandingOf_0 : decode cX4_understandingOf 0 = .ok (.iconst 0, 1) := by decide +kernel
theorem dX4_understandingOf_1 : decode cX4_understandingOf 1 = .ok (.istore_n 2, 1) := by decide +kernel
theorem dX4_understandingOf_2 : decode cX4_understandingOf 2 = .ok (.iconst 0, 1) := by decide +kernel
theorem dX4_understandingOf_3 : decode cX4_understandingOf 3 = .ok (.istore_n 3, 1) := by decide +kernel
theorem dX4_understandingOf_4 : decode cX4_understandingOf 4 = .ok (.iload_n 3, 1) := by decide +kernel
theorem dX4_understandingOf_5 : decode cX4_understandingOf 5 = .ok (.bipush 6, 2) := by decide +kernel
theorem dX4_understandingOf_7 : decode cX4_understandingOf 7 = .ok (.if_icmp .ge 36, 3) := by decide +kernel
theorem dX4_understandingOf_10 : decode cX4_understandingOf 10 = .ok (.aload_n 0, 1) := by decide +kernel
theorem dX4_understandingOf_11 : decode cX4_understandingOf 11 = .ok (.iload_n 3, 1) := by decide +kernel
theorem dX4_understandingOf_12 : decode cX4_understandingOf 12 = .ok (.invokevirtual 118, 3) := by decide +kernel
theorem dX4_understandingOf_15 : decode cX4_understandingOf 15 = .ok (.istore 4, 2) := by decide +kernel
theorem dX4_understandingOf_17 : decode cX4_understandingOf 17 = .ok (.iload 4, 2) := by decide +kernel
theorem dX4_understandingOf_19 : decode cX4_understandingOf 19 = .ok (.bipush (-6), 2) := by decide +kernel
theorem dX4_understandingOf_21 : decode cX4_understandingOf 21 = .ok (.if_icmp .eq 16, 3) := by decide +kernel
theorem dX4_understandingOf_24 : decode cX4_understandingOf 24 = .ok (.aload_n 1, 1) := by decide +kernel
theorem dX4_understandingOf_25 : decode cX4_understandingOf 25 = .ok (.iload 4, 2) := by decide +kernel
theorem dX4_understandingOf_27 : decode cX4_understandingOf 27 = .ok (.invokevirtual 121, 3) := by decide +kernel
theorem dX4_understandingOf_30 : decode cX4_understandingOf 30 = .ok (.iload_n 3, 1) := by decide +kernel
theorem dX4_understandingOf_31 : decode cX4_understandingOf 31 = .ok (.if_icmp .ne 6, 3) := by decide +kernel
theorem dX4_understandingOf_34 : decode cX4_understandingOf 34 = .ok (.iinc 2 1, 3) := by decide +kernel
theorem dX4_understandingOf_37 : decode cX4_understandingOf 37 = .ok (.iinc 3 1, 3) := by decide +kernel
theorem dX4_understandingOf_40 : decode cX4_understandingOf 40 = .ok (.goto (-36), 3) := by decide +kernel
theorem dX4_understandingOf_43 : decode cX4_understandingOf 43 = .ok (.iload_n 2, 1) := by decide +kernel
theorem dX4_understandingOf_44 : decode cX4_understandingOf 44 = .ok (.ireturn, 1) := by decide +kernel
theorem dX4_isBelow_0 : decode cX4_isBelow 0 = .ok (.iload_n 0, 1) := by decide +kernel
theorem dX4_isBelow_1 : decode cX4_isBelow 1 = .ok (.ifCond .lt 12, 3) := by decide +kernel
theorem dX4_isBelow_4 : decode cX4_isBelow 4 = .ok (.iload_n 0, 1) := by decide +kernel
theorem dX4_isBelow_5 : decode cX4_isBelow 5 = .ok (.iload_n 1, 1) := by decide +kernel
theorem dX4_isBelow_6 : decode cX4_isBelow 6 = .ok (.if_icmp .ge 7, 3) := by decide +kernel
theorem dX4_isBelow_9 : decode cX4_isBelow 9 = .ok (.iconst 1, 1) := by decide +kernel
theorem dX4_isBelow_10 : decode cX4_isBelow 10 = .ok (.goto 4, 3) := by decide +kernel
theorem dX4_isBelow_13 : decode cX4_isBelow 13 = .ok (.iconst 0, 1) := by decide +kernel
theorem dX4_isBelow_14 : decode cX4_isBelow 14 = .ok (.ireturn, 1) := by decide +kernel
theorem dX4_isMeaning_0 : decode cX4_isMeaning 0 = .ok (.iload_n 0, 1) := by decide +kernel
theorem dX4_isMeaning_1 : decode cX4_isMeaning 1 = .ok (.ifCond .lt 13, 3) := by decide +kernel
theorem dX4_isMeaning_4 : decode cX4_isMeaning 4 = .ok (.iload_n 0, 1) := by decide +kernel
theorem dX4_isMeaning_5 : decode cX4_isMeaning 5 = .ok (.bipush 6, 2) := by decide +kernel
theorem dX4_isMeaning_7 : decode cX4_isMeaning 7 = .ok (.if_icmp .ge 7, 3) := by decide +kernel
theorem dX4_isMeaning_10 : decode cX4_isMeaning 10 = .ok (.iconst 1, 1) := by decide +kernel
theorem dX4_isMeaning_11 : decode cX4_isMeaning 11 = .ok (.goto 4, 3) := by decide +kernel
theorem dX4_isMeaning_14 : decode cX4_isMeaning 14 = .ok (.iconst 0, 1) := by decide +kernel
theorem dX4_isMeaning_15 : decode cX4_isMeaning 15 = .ok (.ireturn, 1) := by decide +kernel
theorem dX4_isWord_0 : decode cX4_isWord 0 = .ok (.iload_n 0, 1) := by decide +kernel
theorem dX4_isWord_1 : decode cX4_isWord 1 = .ok (.ifCond .lt 13, 3) := by decide +kernel
theorem dX4_isWord_4 : decode cX4_isWord 4 = .ok (.iload_n 0, 1) := by decide +kernel
theorem dX4_isWord_5 : decode cX4_isWord 5 = .ok (.bipush 14, 2) := by decide +kernel
theorem dX4_isWord_7 : decode cX4_isWord 7 = .ok (.if_icmp .ge 7, 3) := by decide +kernel
theorem dX4_isWord_10 : decode cX4_isWord 10 = .ok (.iconst 1, 1) := by decide +kernel
theorem dX4_isWord_11 : decode cX4_isWord 11 = .ok (.goto 4, 3) := by decide +kernel
theorem dX4_isWord_14 : decode cX4_isWord 14 = .ok (.iconst 0, 1) := by decide +kernel
theorem dX4_isWord_15 : decode cX4_isWord 15 = .ok (.ireturn, 1) := by decide +kernel
theorem dX4_leastOf_0 : decode cX4_leastOf 0 = .ok (.iload_n 0, 1) := by decide +kernel
theorem dX4_leastOf_1 : decode cX4_leastOf 1 = .ok (.lookupswitch 31 #[(0, 27), (2, 29)], 27) := by decide +kernel
theorem dX4_leastOf_28 : decode cX4_leastOf 28 = .ok (.iconst 1, 1) := by decide +kernel
theorem dX4_leastOf_29 : decode cX4_leastOf 29 = .ok (.ireturn, 1) := by decide +kernel
theorem dX4_leastOf_30 : decode cX4_leastOf 30 = .ok (.iconst 5, 1) := by decide +kernel
theorem dX4_leastOf_31 : decode cX4_leastOf 31 = .ok (.ireturn, 1) := by decide +kernel
theorem dX4_leastOf_32 : decode cX4_leastOf 32 = .ok (.iconst 0, 1) := by decide +kernel
theorem dX4_leastOf_33 : decode cX4_leastOf 33 = .ok (.ireturn, 1) := by decide +kernel
theorem dX4_mostOf_0 : decode cX4_mostOf 0 = .ok (.iload_n 0, 1) := by decide +kernel
theorem dX4_mostOf_1 : decode cX4_mostOf 1 = .ok (.lookupswitch 33 #[(2, 27), (3, 30)], 27) := by decide +kernel
theorem dX4_mostOf_28 : decode cX4_mostOf 28 = .ok (.bipush 99, 2) := by decide +kernel
theorem dX4_mostOf_30 : decode cX4_mostOf 30 = .ok (.ireturn, 1) := by decide +kernel
theorem dX4_mostOf_31 : decode cX4_mostOf 31 = .ok (.bipush 100, 2) := by decide +kernel
theorem dX4_mostOf_33 : decode cX4_mostOf 33 = .ok (.ireturn, 1) := by decide +kernel
theorem dX4_mostOf_34 : decode cX4_mostOf 34 = .ok (.bipush 9, 2) := by decide +kernel
theorem dX4_mostOf_36 : decode cX4_mostOf 36 = .ok (.ireturn, 1) := by decide +kernel
theorem dL_cell_0 : decode cL_cell 0 = .ok (.iload_n 1, 1) := by decide +kernel
theorem dL_cell_1 : decode cL_cell 1 = .ok (.aload_n 0, 1) := by decide +kernel
theorem dL_cell_2 : decode cL_cell 2 = .ok (.arraylength, 1) := by decide +kernel
theorem dL_cell_3 : decode cL_cell 3 = .ok (.if_icmp .ge 9, 3) := by decide +kernel
theorem dL_cell_6 : decode cL_cell 6 = .ok (.aload_n 0, 1) := by decide +kernel
theorem dL_cell_7 : decode cL_cell 7 = .ok (.iload_n 1, 1) := by decide +kernel
theorem dL_cell_8 : decode cL_cell 8 = .ok (.iaload, 1) := by decide +kernel
theorem dL_cell_9 : decode cL_cell 9 = .ok (.goto 12, 3) := by decide +kernel
theorem dL_cell_12 : decode cL_cell 12 = .ok (.ldc 7, 2) := by decide +kernel
theorem dL_cell_14 : decode cL_cell 14 = .ok (.iload_n 1, 1) := by decide +kernel
theorem dL_cell_15 : decode cL_cell 15 = .ok (.iconst 1, 1) := by decide +kernel
theorem dL_cell_16 : decode cL_cell 16 = .ok (.iadd, 1) := by decide +kernel
theorem dL_cell_17 : decode cL_cell 17 = .ok (.imul, 1) := by decide +kernel
theorem dL_cell_18 : decode cL_cell 18 = .ok (.ldc 8, 2) := by decide +kernel
theorem dL_cell_20 : decode cL_cell 20 = .ok (.iadd, 1) := by decide +kernel
theorem dL_cell_21 : decode cL_cell 21 = .ok (.ireturn, 1) := by decide +kernel
theorem dL_low_0 : decode cL_low 0 = .ok (.iload_n 0, 1) := by decide +kernel
theorem dL_low_1 : decode cL_low 1 = .ok (.ldc 9, 2) := by decide +kernel
theorem dL_low_3 : decode cL_low 3 = .ok (.iand, 1) := by decide +kernel
theorem dL_low_4 : decode cL_low 4 = .ok (.iload_n 1, 1) := by decide +kernel
theorem dL_low_5 : decode cL_low 5 = .ok (.irem, 1) := by decide +kernel
theorem dL_low_6 : decode cL_low 6 = .ok (.ireturn, 1) := by decide +kernel
theorem dL_row_0 : decode cL_row 0 = .ok (.iload_n 0, 1) := by decide +kernel
theorem dL_row_1 : decode cL_row 1 = .ok (.ifCond .ne 7, 3) := by decide +kernel
theorem dL_row_4 : decode cL_row 4 = .ok (.aload_n 1, 1) := by decide +kernel
theorem dL_row_5 : decode cL_row 5 = .ok (.goto 23, 3) := by decide +kernel
theorem dL_row_8 : decode cL_row 8 = .ok (.iload_n 0, 1) := by decide +kernel
theorem dL_row_9 : decode cL_row 9 = .ok (.iconst 1, 1) := by decide +kernel
theorem dL_row_10 : decode cL_row 10 = .ok (.if_icmp .ne 7, 3) := by decide +kernel
theorem dL_row_13 : decode cL_row 13 = .ok (.aload_n 2, 1) := by decide +kernel
theorem dL_row_14 : decode cL_row 14 = .ok (.goto 14, 3) := by decide +kernel
theorem dL_row_17 : decode cL_row 17 = .ok (.iload_n 0, 1) := by decide +kernel
theorem dL_row_18 : decode cL_row 18 = .ok (.iconst 2, 1) := by decide +kernel
theorem dL_row_19 : decode cL_row 19 = .ok (.if_icmp .ne 7, 3) := by decide +kernel
theorem dL_row_22 : decode cL_row 22 = .ok (.aload_n 3, 1) := by decide +kernel
theorem dL_row_23 : decode cL_row 23 = .ok (.goto 5, 3) := by decide +kernel
theorem dL_row_26 : decode cL_row 26 = .ok (.aload 4, 2) := by decide +kernel
theorem dL_row_28 : decode cL_row 28 = .ok (.areturn, 1) := by decide +kernel
theorem dL_draw_0 : decode cL_draw 0 = .ok (.aload_n 1, 1) := by decide +kernel
theorem dL_draw_1 : decode cL_draw 1 = .ok (.iconst 0, 1) := by decide +kernel
theorem dL_draw_2 : decode cL_draw 2 = .ok (.ldc2_w 10, 3) := by decide +kernel
theorem dL_draw_5 : decode cL_draw 5 = .ok (.aload_n 1, 1) := by decide +kernel
theorem dL_draw_6 : decode cL_draw 6 = .ok (.iconst 0, 1) := by decide +kernel
theorem dL_draw_7 : decode cL_draw 7 = .ok (.iaload, 1) := by decide +kernel
theorem dL_draw_8 : decode cL_draw 8 = .ok (.i2l, 1) := by decide +kernel
theorem dL_draw_9 : decode cL_draw 9 = .ok (.lmul, 1) := by decide +kernel
theorem dL_draw_10 : decode cL_draw 10 = .ok (.ldc2_w 12, 3) := by decide +kernel
theorem dL_draw_13 : decode cL_draw 13 = .ok (.ladd, 1) := by decide +kernel
theorem dL_draw_14 : decode cL_draw 14 = .ok (.ldc2_w 14, 3) := by decide +kernel
theorem dL_draw_17 : decode cL_draw 17 = .ok (.land, 1) := by decide +kernel
theorem dL_draw_18 : decode cL_draw 18 = .ok (.l2i, 1) := by decide +kernel
theorem dL_draw_19 : decode cL_draw 19 = .ok (.iastore, 1) := by decide +kernel
theorem dL_draw_20 : decode cL_draw 20 = .ok (.aload_n 1, 1) := by decide +kernel
theorem dL_draw_21 : decode cL_draw 21 = .ok (.iconst 0, 1) := by decide +kernel
theorem dL_draw_22 : decode cL_draw 22 = .ok (.iaload, 1) := by decide +kernel
theorem dL_draw_23 : decode cL_draw 23 = .ok (.iconst 4, 1) := by decide +kernel
theorem dL_draw_24 : decode cL_draw 24 = .ok (.ishr, 1) := by decide +kernel
theorem dL_draw_25 : decode cL_draw 25 = .ok (.iload_n 0, 1) := by decide +kernel
theorem dL_draw_26 : decode cL_draw 26 = .ok (.irem, 1) := by decide +kernel
theorem dL_draw_27 : decode cL_draw 27 = .ok (.ireturn, 1) := by decide +kernel
theorem dL_word_0 : decode cL_word 0 = .ok (.bipush (-6), 2) := by decide +kernel
theorem dL_word_2 : decode cL_word 2 = .ok (.istore_n 2, 1) := by decide +kernel
theorem dL_word_3 : decode cL_word 3 = .ok (.bipush 9, 2) := by decide +kernel
theorem dL_word_5 : decode cL_word 5 = .ok (.istore_n 3, 1) := by decide +kernel
theorem dL_word_6 : decode cL_word 6 = .ok (.iload_n 3, 1) := by decide +kernel
theorem dL_word_7 : decode cL_word 7 = .ok (.ifCond .lt 45, 3) := by decide +kernel
theorem dL_word_10 : decode cL_word 10 = .ok (.aload_n 1, 1) := by decide +kernel
theorem dL_word_11 : decode cL_word 11 = .ok (.bipush 10, 2) := by decide +kernel
theorem dL_word_13 : decode cL_word 13 = .ok (.iload_n 0, 1) := by decide +kernel
theorem dL_word_14 : decode cL_word 14 = .ok (.imul, 1) := by decide +kernel
theorem dL_word_15 : decode cL_word 15 = .ok (.iload_n 3, 1) := by decide +kernel
theorem dL_word_16 : decode cL_word 16 = .ok (.iadd, 1) := by decide +kernel
theorem dL_word_17 : decode cL_word 17 = .ok (.iaload, 1) := by decide +kernel
theorem dL_word_18 : decode cL_word 18 = .ok (.ifCond .le 28, 3) := by decide +kernel
theorem dL_word_21 : decode cL_word 21 = .ok (.iload_n 2, 1) := by decide +kernel
theorem dL_word_22 : decode cL_word 22 = .ok (.ifCond .lt 22, 3) := by decide +kernel
theorem dL_word_25 : decode cL_word 25 = .ok (.aload_n 1, 1) := by decide +kernel
theorem dL_word_26 : decode cL_word 26 = .ok (.bipush 10, 2) := by decide +kernel
theorem dL_word_28 : decode cL_word 28 = .ok (.iload_n 0, 1) := by decide +kernel
theorem dL_word_29 : decode cL_word 29 = .ok (.imul, 1) := by decide +kernel
theorem dL_word_30 : decode cL_word 30 = .ok (.iload_n 3, 1) := by decide +kernel
theorem dL_word_31 : decode cL_word 31 = .ok (.iadd, 1) := by decide +kernel
theorem dL_word_32 : decode cL_word 32 = .ok (.iaload, 1) := by decide +kernel
theorem dL_word_33 : decode cL_word 33 = .ok (.aload_n 1, 1) := by decide +kernel
theorem dL_word_34 : decode cL_word 34 = .ok (.bipush 10, 2) := by decide +kernel
theorem dL_word_36 : decode cL_word 36 = .ok (.iload_n 0, 1) := by decide +kernel
theorem dL_word_37 : decode cL_word 37 = .ok (.imul, 1) := by decide +kernel
theorem dL_word_38 : decode cL_word 38 = .ok (.iload_n 2, 1) := by decide +kernel
theorem dL_word_39 : decode cL_word 39 = .ok (.iadd, 1) := by decide +kernel
theorem dL_word_40 : decode cL_word 40 = .ok (.iaload, 1) := by decide +kernel
theorem dL_word_41 : decode cL_word 41 = .ok (.if_icmp .lt 5, 3) := by decide +kernel
theorem dL_word_44 : decode cL_word 44 = .ok (.iload_n 3, 1) := by decide +kernel
theorem dL_word_45 : decode cL_word 45 = .ok (.istore_n 2, 1) := by decide +kernel
theorem dL_word_46 : decode cL_word 46 = .ok (.iinc 3 (-1), 3) := by decide +kernel
theorem dL_word_49 : decode cL_word 49 = .ok (.goto (-43), 3) := by decide +kernel
theorem dL_word_52 : decode cL_word 52 = .ok (.iload_n 2, 1) := by decide +kernel
theorem dL_word_53 : decode cL_word 53 = .ok (.ireturn, 1) := by decide +kernel
theorem dL_heard_0 : decode cL_heard 0 = .ok (.bipush (-6), 2) := by decide +kernel
theorem dL_heard_2 : decode cL_heard 2 = .ok (.istore_n 2, 1) := by decide +kernel
theorem dL_heard_3 : decode cL_heard 3 = .ok (.iconst 5, 1) := by decide +kernel
theorem dL_heard_4 : decode cL_heard 4 = .ok (.istore_n 3, 1) := by decide +kernel
theorem dL_heard_5 : decode cL_heard 5 = .ok (.iload_n 3, 1) := by decide +kernel
theorem dL_heard_6 : decode cL_heard 6 = .ok (.ifCond .lt 51, 3) := by decide +kernel
theorem dL_heard_9 : decode cL_heard 9 = .ok (.iload_n 0, 1) := by decide +kernel
theorem dL_heard_10 : decode cL_heard 10 = .ok (.bipush 10, 2) := by decide +kernel
theorem dL_heard_12 : decode cL_heard 12 = .ok (.if_icmp .ge 45, 3) := by decide +kernel
theorem dL_heard_15 : decode cL_heard 15 = .ok (.aload_n 1, 1) := by decide +kernel
theorem dL_heard_16 : decode cL_heard 16 = .ok (.bipush 10, 2) := by decide +kernel
theorem dL_heard_18 : decode cL_heard 18 = .ok (.iload_n 3, 1) := by decide +kernel
theorem dL_heard_19 : decode cL_heard 19 = .ok (.imul, 1) := by decide +kernel
theorem dL_heard_20 : decode cL_heard 20 = .ok (.iload_n 0, 1) := by decide +kernel
theorem dL_heard_21 : decode cL_heard 21 = .ok (.iadd, 1) := by decide +kernel
theorem dL_heard_22 : decode cL_heard 22 = .ok (.iaload, 1) := by decide +kernel
theorem dL_heard_23 : decode cL_heard 23 = .ok (.ifCond .le 28, 3) := by decide +kernel
theorem dL_heard_26 : decode cL_heard 26 = .ok (.iload_n 2, 1) := by decide +kernel
theorem dL_heard_27 : decode cL_heard 27 = .ok (.ifCond .lt 22, 3) := by decide +kernel
theorem dL_heard_30 : decode cL_heard 30 = .ok (.aload_n 1, 1) := by decide +kernel
theorem dL_heard_31 : decode cL_heard 31 = .ok (.bipush 10, 2) := by decide +kernel
theorem dL_heard_33 : decode cL_heard 33 = .ok (.iload_n 3, 1) := by decide +kernel
theorem dL_heard_34 : decode cL_heard 34 = .ok (.imul, 1) := by decide +kernel
theorem dL_heard_35 : decode cL_heard 35 = .ok (.iload_n 0, 1) := by decide +kernel
theorem dL_heard_36 : decode cL_heard 36 = .ok (.iadd, 1) := by decide +kernel
theorem dL_heard_37 : decode cL_heard 37 = .ok (.iaload, 1) := by decide +kernel
theorem dL_heard_38 : decode cL_heard 38 = .ok (.aload_n 1, 1) := by decide +kernel
theorem dL_heard_39 : decode cL_heard 39 = .ok (.bipush 10, 2) := by decide +kernel
theorem dL_heard_41 : decode cL_heard 41 = .ok (.iload_n 2, 1) := by decide +kernel
theorem dL_heard_42 : decode cL_heard 42 = .ok (.imul, 1) := by decide +kernel
theorem dL_heard_43 : decode cL_heard 43 = .ok (.iload_n 0, 1) := by decide +kernel
theorem dL_heard_44 : decode cL_heard 44 = .ok (.iadd, 1) := by decide +kernel
theorem dL_heard_45 : decode cL_heard 45 = .ok (.iaload, 1) := by decide +kernel
theorem dL_heard_46 : decode cL_heard 46 = .ok (.if_icmp .lt 5, 3) := by decide +kernel
theorem dL_heard_49 : decode cL_heard 49 = .ok (.iload_n 3, 1) := by decide +kernel
theorem dL_heard_50 : decode cL_heard 50 = .ok (.istore_n 2, 1) := by decide +kernel
theorem dL_heard_51 : decode cL_heard 51 = .ok (.iinc 3 (-1), 3) := by decide +kernel
theorem dL_heard_54 : decode cL_heard 54 = .ok (.goto (-49), 3) := by decide +kernel
theorem dL_heard_57 : decode cL_heard 57 = .ok (.iload_n 2, 1) := by decide +kernel
theorem dL_heard_58 : decode cL_heard 58 = .ok (.ireturn, 1) := by decide +kernel
theorem dL_add_0 : decode cL_add 0 = .ok (.aload_n 3, 1) := by decide +kernel
theorem dL_add_1 : decode cL_add 1 = .ok (.bipush 10, 2) := by decide +kernel
theorem dL_add_3 : decode cL_add 3 = .ok (.iload_n 0, 1) := by decide +kernel
theorem dL_add_4 : decode cL_add 4 = .ok (.imul, 1) := by decide +kernel
theorem dL_add_5 : decode cL_add 5 = .ok (.iload_n 1, 1) := by decide +kernel
theorem dL_add_6 : decode cL_add 6 = .ok (.iadd, 1) := by decide +kernel
theorem dL_add_7 : decode cL_add 7 = .ok (.iaload, 1) := by decide +kernel
theorem dL_add_8 : decode cL_add 8 = .ok (.iload_n 2, 1) := by decide +kernel
theorem dL_add_9 : decode cL_add 9 = .ok (.iadd, 1) := by decide +kernel
theorem dL_add_10 : decode cL_add 10 = .ok (.istore 4, 2) := by decide +kernel
theorem dL_add_12 : decode cL_add 12 = .ok (.aload_n 3, 1) := by decide +kernel
theorem dL_add_13 : decode cL_add 13 = .ok (.bipush 10, 2) := by decide +kernel
theorem dL_add_15 : decode cL_add 15 = .ok (.iload_n 0, 1) := by decide +kernel
theorem dL_add_16 : decode cL_add 16 = .ok (.imul, 1) := by decide +kernel
theorem dL_add_17 : decode cL_add 17 = .ok (.iload_n 1, 1) := by decide +kernel
theorem dL_add_18 : decode cL_add 18 = .ok (.iadd, 1) := by decide +kernel
theorem dL_add_19 : decode cL_add 19 = .ok (.iload 4, 2) := by decide +kernel
theorem dL_add_21 : decode cL_add 21 = .ok (.ifCond .ge 7, 3) := by decide +kernel
theorem dL_add_24 : decode cL_add 24 = .ok (.iconst 0, 1) := by decide +kernel
theorem dL_add_25 : decode cL_add 25 = .ok (.goto 17, 3) := by decide +kernel
theorem dL_add_28 : decode cL_add 28 = .ok (.iload 4, 2) := by decide +kernel
theorem dL_add_30 : decode cL_add 30 = .ok (.bipush 99, 2) := by decide +kernel
theorem dL_add_32 : decode cL_add 32 = .ok (.if_icmp .le 8, 3) := by decide +kernel
theorem dL_add_35 : decode cL_add 35 = .ok (.bipush 99, 2) := by decide +kernel
theorem dL_add_37 : decode cL_add 37 = .ok (.goto 5, 3) := by decide +kernel
theorem dL_add_40 : decode cL_add 40 = .ok (.iload 4, 2) := by decide +kernel
theorem dL_add_42 : decode cL_add 42 = .ok (.iastore, 1) := by decide +kernel
theorem dL_add_43 : decode cL_add 43 = .ok (.return_, 1) := by decide +kernel
theorem dL_learns_0 : decode cL_learns 0 = .ok (.aload_n 1, 1) := by decide +kernel
theorem dL_learns_1 : decode cL_learns 1 = .ok (.iconst 5, 1) := by decide +kernel
theorem dL_learns_2 : decode cL_learns 2 = .ok (.iaload, 1) := by decide +kernel
theorem dL_learns_3 : decode cL_learns 3 = .ok (.aload_n 1, 1) := by decide +kernel
theorem dL_learns_4 : decode cL_learns 4 = .ok (.bipush 9, 2) := by decide +kernel
theorem dL_learns_6 : decode cL_learns 6 = .ok (.iload_n 0, 1) := by decide +kernel
theorem dL_learns_7 : decode cL_learns 7 = .ok (.iadd, 1) := by decide +kernel
theorem dL_learns_8 : decode cL_learns 8 = .ok (.iaload, 1) := by decide +kernel
theorem dL_learns_9 : decode cL_learns 9 = .ok (.bipush 20, 2) := by decide +kernel
theorem dL_learns_11 : decode cL_learns 11 = .ok (.idiv, 1) := by decide +kernel
theorem dL_learns_12 : decode cL_learns 12 = .ok (.isub, 1) := by decide +kernel
theorem dL_learns_13 : decode cL_learns 13 = .ok (.istore_n 2, 1) := by decide +kernel
theorem dL_learns_14 : decode cL_learns 14 = .ok (.iload_n 2, 1) := by decide +kernel
theorem dL_learns_15 : decode cL_learns 15 = .ok (.iconst 1, 1) := by decide +kernel
theorem dL_learns_16 : decode cL_learns 16 = .ok (.if_icmp .le 7, 3) := by decide +kernel
theorem dL_learns_19 : decode cL_learns 19 = .ok (.iload_n 2, 1) := by decide +kernel
theorem dL_learns_20 : decode cL_learns 20 = .ok (.goto 4, 3) := by decide +kernel
theorem dL_learns_23 : decode cL_learns 23 = .ok (.iconst 1, 1) := by decide +kernel
theorem dL_learns_24 : decode cL_learns 24 = .ok (.ireturn, 1) := by decide +kernel
theorem dL_meet_0 : decode cL_meet 0 = .ok (.iload_n 2, 1) := by decide +kernel
theorem dL_meet_1 : decode cL_meet 1 = .ok (.aload 4, 2) := by decide +kernel
theorem dL_meet_3 : decode cL_meet 3 = .ok (.invokestatic 16, 3) := by decide +kernel
theorem dL_meet_6 : decode cL_meet 6 = .ok (.istore 6, 2) := by decide +kernel
theorem dL_meet_8 : decode cL_meet 8 = .ok (.iload 6, 2) := by decide +kernel
theorem dL_meet_10 : decode cL_meet 10 = .ok (.aload 5, 2) := by decide +kernel
theorem dL_meet_12 : decode cL_meet 12 = .ok (.invokestatic 22, 3) := by decide +kernel
theorem dL_meet_15 : decode cL_meet 15 = .ok (.istore 7, 2) := by decide +kernel
theorem dL_meet_17 : decode cL_meet 17 = .ok (.iload 7, 2) := by decide +kernel
theorem dL_meet_19 : decode cL_meet 19 = .ok (.ifCond .ge 11, 3) := by decide +kernel
theorem dL_meet_22 : decode cL_meet 22 = .ok (.bipush 6, 2) := by decide +kernel
theorem dL_meet_24 : decode cL_meet 24 = .ok (.aload_n 3, 1) := by decide +kernel
theorem dL_meet_25 : decode cL_meet 25 = .ok (.invokestatic 25, 3) := by decide +kernel
theorem dL_meet_28 : decode cL_meet 28 = .ok (.istore 7, 2) := by decide +kernel
theorem dL_meet_30 : decode cL_meet 30 = .ok (.iload 7, 2) := by decide +kernel
theorem dL_meet_32 : decode cL_meet 32 = .ok (.iload_n 2, 1) := by decide +kernel
theorem dL_meet_33 : decode cL_meet 33 = .ok (.if_icmp .ne 121, 3) := by decide +kernel
theorem dL_meet_36 : decode cL_meet 36 = .ok (.iconst 0, 1) := by decide +kernel
theorem dL_meet_37 : decode cL_meet 37 = .ok (.istore 8, 2) := by decide +kernel
theorem dL_meet_39 : decode cL_meet 39 = .ok (.iload 8, 2) := by decide +kernel
theorem dL_meet_41 : decode cL_meet 41 = .ok (.bipush 10, 2) := by decide +kernel
theorem dL_meet_43 : decode cL_meet 43 = .ok (.if_icmp .ge 65, 3) := by decide +kernel
theorem dL_meet_46 : decode cL_meet 46 = .ok (.iload_n 2, 1) := by decide +kernel
theorem dL_meet_47 : decode cL_meet 47 = .ok (.iload 8, 2) := by decide +kernel
theorem dL_meet_49 : decode cL_meet 49 = .ok (.iload 8, 2) := by decide +kernel
theorem dL_meet_51 : decode cL_meet 51 = .ok (.iload 6, 2) := by decide +kernel
theorem dL_meet_53 : decode cL_meet 53 = .ok (.if_icmp .ne 11, 3) := by decide +kernel
theorem dL_meet_56 : decode cL_meet 56 = .ok (.iload_n 0, 1) := by decide +kernel
theorem dL_meet_57 : decode cL_meet 57 = .ok (.aload_n 3, 1) := by decide +kernel
theorem dL_meet_58 : decode cL_meet 58 = .ok (.invokestatic 28, 3) := by decide +kernel
theorem dL_meet_61 : decode cL_meet 61 = .ok (.goto 8, 3) := by decide +kernel
theorem dL_meet_64 : decode cL_meet 64 = .ok (.aload_n 3, 1) := by decide +kernel
theorem dL_meet_65 : decode cL_meet 65 = .ok (.bipush 6, 2) := by decide +kernel
theorem dL_meet_67 : decode cL_meet 67 = .ok (.iaload, 1) := by decide +kernel
theorem dL_meet_68 : decode cL_meet 68 = .ok (.ineg, 1) := by decide +kernel
theorem dL_meet_69 : decode cL_meet 69 = .ok (.aload 4, 2) := by decide +kernel
theorem dL_meet_71 : decode cL_meet 71 = .ok (.invokestatic 31, 3) := by decide +kernel
theorem dL_meet_74 : decode cL_meet 74 = .ok (.iload_n 2, 1) := by decide +kernel
theorem dL_meet_75 : decode cL_meet 75 = .ok (.iload 8, 2) := by decide +kernel
theorem dL_meet_77 : decode cL_meet 77 = .ok (.iload 8, 2) := by decide +kernel
theorem dL_meet_79 : decode cL_meet 79 = .ok (.iload 6, 2) := by decide +kernel
theorem dL_meet_81 : decode cL_meet 81 = .ok (.if_icmp .ne 11, 3) := by decide +kernel
theorem dL_meet_84 : decode cL_meet 84 = .ok (.iload_n 1, 1) := by decide +kernel
theorem dL_meet_85 : decode cL_meet 85 = .ok (.aload_n 3, 1) := by decide +kernel
theorem dL_meet_86 : decode cL_meet 86 = .ok (.invokestatic 28, 3) := by decide +kernel
theorem dL_meet_89 : decode cL_meet 89 = .ok (.goto 8, 3) := by decide +kernel
theorem dL_meet_92 : decode cL_meet 92 = .ok (.aload_n 3, 1) := by decide +kernel
theorem dL_meet_93 : decode cL_meet 93 = .ok (.bipush 6, 2) := by decide +kernel
theorem dL_meet_95 : decode cL_meet 95 = .ok (.iaload, 1) := by decide +kernel
theorem dL_meet_96 : decode cL_meet 96 = .ok (.ineg, 1) := by decide +kernel
theorem dL_meet_97 : decode cL_meet 97 = .ok (.aload 5, 2) := by decide +kernel
theorem dL_meet_99 : decode cL_meet 99 = .ok (.invokestatic 31, 3) := by decide +kernel
theorem dL_meet_102 : decode cL_meet 102 = .ok (.iinc 8 1, 3) := by decide +kernel
theorem dL_meet_105 : decode cL_meet 105 = .ok (.goto (-66), 3) := by decide +kernel
theorem dL_meet_108 : decode cL_meet 108 = .ok (.iconst 0, 1) := by decide +kernel
theorem dL_meet_109 : decode cL_meet 109 = .ok (.istore 8, 2) := by decide +kernel
theorem dL_meet_111 : decode cL_meet 111 = .ok (.iload 8, 2) := by decide +kernel
theorem dL_meet_113 : decode cL_meet 113 = .ok (.bipush 6, 2) := by decide +kernel
theorem dL_meet_115 : decode cL_meet 115 = .ok (.if_icmp .ge 29, 3) := by decide +kernel
theorem dL_meet_118 : decode cL_meet 118 = .ok (.iload 8, 2) := by decide +kernel
theorem dL_meet_120 : decode cL_meet 120 = .ok (.iload_n 2, 1) := by decide +kernel
theorem dL_meet_121 : decode cL_meet 121 = .ok (.if_icmp .eq 17, 3) := by decide +kernel
theorem dL_meet_124 : decode cL_meet 124 = .ok (.iload 8, 2) := by decide +kernel
theorem dL_meet_126 : decode cL_meet 126 = .ok (.iload 6, 2) := by decide +kernel
theorem dL_meet_128 : decode cL_meet 128 = .ok (.aload_n 3, 1) := by decide +kernel
theorem dL_meet_129 : decode cL_meet 129 = .ok (.bipush 6, 2) := by decide +kernel
theorem dL_meet_131 : decode cL_meet 131 = .ok (.iaload, 1) := by decide +kernel
theorem dL_meet_132 : decode cL_meet 132 = .ok (.ineg, 1) := by decide +kernel
theorem dL_meet_133 : decode cL_meet 133 = .ok (.aload 5, 2) := by decide +kernel
theorem dL_meet_135 : decode cL_meet 135 = .ok (.invokestatic 31, 3) := by decide +kernel
theorem dL_meet_138 : decode cL_meet 138 = .ok (.iinc 8 1, 3) := by decide +kernel
theorem dL_meet_141 : decode cL_meet 141 = .ok (.goto (-30), 3) := by decide +kernel
theorem dL_meet_144 : decode cL_meet 144 = .ok (.aload_n 3, 1) := by decide +kernel
theorem dL_meet_145 : decode cL_meet 145 = .ok (.iconst 2, 1) := by decide +kernel
theorem dL_meet_146 : decode cL_meet 146 = .ok (.dup2, 1) := by decide +kernel
theorem dL_meet_147 : decode cL_meet 147 = .ok (.iaload, 1) := by decide +kernel
theorem dL_meet_148 : decode cL_meet 148 = .ok (.iconst 1, 1) := by decide +kernel
theorem dL_meet_149 : decode cL_meet 149 = .ok (.iadd, 1) := by decide +kernel
theorem dL_meet_150 : decode cL_meet 150 = .ok (.iastore, 1) := by decide +kernel
theorem dL_meet_151 : decode cL_meet 151 = .ok (.goto 39, 3) := by decide +kernel
theorem dL_meet_154 : decode cL_meet 154 = .ok (.iload_n 2, 1) := by decide +kernel
theorem dL_meet_155 : decode cL_meet 155 = .ok (.iload 6, 2) := by decide +kernel
theorem dL_meet_157 : decode cL_meet 157 = .ok (.aload_n 3, 1) := by decide +kernel
theorem dL_meet_158 : decode cL_meet 158 = .ok (.bipush 6, 2) := by decide +kernel
theorem dL_meet_160 : decode cL_meet 160 = .ok (.iaload, 1) := by decide +kernel
theorem dL_meet_161 : decode cL_meet 161 = .ok (.ineg, 1) := by decide +kernel
theorem dL_meet_162 : decode cL_meet 162 = .ok (.aload 4, 2) := by decide +kernel
theorem dL_meet_164 : decode cL_meet 164 = .ok (.invokestatic 31, 3) := by decide +kernel
theorem dL_meet_167 : decode cL_meet 167 = .ok (.iload_n 2, 1) := by decide +kernel
theorem dL_meet_168 : decode cL_meet 168 = .ok (.iload 6, 2) := by decide +kernel
theorem dL_meet_170 : decode cL_meet 170 = .ok (.iconst 1, 1) := by decide +kernel
theorem dL_meet_171 : decode cL_meet 171 = .ok (.aload 5, 2) := by decide +kernel
theorem dL_meet_173 : decode cL_meet 173 = .ok (.invokestatic 31, 3) := by decide +kernel
theorem dL_meet_176 : decode cL_meet 176 = .ok (.iload 7, 2) := by decide +kernel
theorem dL_meet_178 : decode cL_meet 178 = .ok (.iload 6, 2) := by decide +kernel
theorem dL_meet_180 : decode cL_meet 180 = .ok (.aload_n 3, 1) := by decide +kernel
theorem dL_meet_181 : decode cL_meet 181 = .ok (.bipush 6, 2) := by decide +kernel
theorem dL_meet_183 : decode cL_meet 183 = .ok (.iaload, 1) := by decide +kernel
theorem dL_meet_184 : decode cL_meet 184 = .ok (.ineg, 1) := by decide +kernel
theorem dL_meet_185 : decode cL_meet 185 = .ok (.aload 5, 2) := by decide +kernel
theorem dL_meet_187 : decode cL_meet 187 = .ok (.invokestatic 31, 3) := by decide +kernel
theorem dL_meet_190 : decode cL_meet 190 = .ok (.aload_n 3, 1) := by decide +kernel
theorem dL_meet_191 : decode cL_meet 191 = .ok (.iconst 1, 1) := by decide +kernel
theorem dL_meet_192 : decode cL_meet 192 = .ok (.dup2, 1) := by decide +kernel
theorem dL_meet_193 : decode cL_meet 193 = .ok (.iaload, 1) := by decide +kernel
theorem dL_meet_194 : decode cL_meet 194 = .ok (.iconst 1, 1) := by decide +kernel
theorem dL_meet_195 : decode cL_meet 195 = .ok (.iadd, 1) := by decide +kernel
theorem dL_meet_196 : decode cL_meet 196 = .ok (.iastore, 1) := by decide +kernel
theorem dL_meet_197 : decode cL_meet 197 = .ok (.aload_n 3, 1) := by decide +kernel
theorem dL_meet_198 : decode cL_meet 198 = .ok (.bipush 13, 2) := by decide +kernel
theorem dL_meet_200 : decode cL_meet 200 = .ok (.iload_n 0, 1) := by decide +kernel
theorem dL_meet_201 : decode cL_meet 201 = .ok (.iadd, 1) := by decide +kernel
theorem dL_meet_202 : decode cL_meet 202 = .ok (.dup2, 1) := by decide +kernel
theorem dL_meet_203 : decode cL_meet 203 = .ok (.iaload, 1) := by decide +kernel
theorem dL_meet_204 : decode cL_meet 204 = .ok (.iconst 1, 1) := by decide +kernel
theorem dL_meet_205 : decode cL_meet 205 = .ok (.iadd, 1) := by decide +kernel
theorem dL_meet_206 : decode cL_meet 206 = .ok (.iastore, 1) := by decide +kernel
theorem dL_meet_207 : decode cL_meet 207 = .ok (.aload_n 3, 1) := by decide +kernel
theorem dL_meet_208 : decode cL_meet 208 = .ok (.bipush 13, 2) := by decide +kernel
theorem dL_meet_210 : decode cL_meet 210 = .ok (.iload_n 1, 1) := by decide +kernel
theorem dL_meet_211 : decode cL_meet 211 = .ok (.iadd, 1) := by decide +kernel
theorem dL_meet_212 : decode cL_meet 212 = .ok (.dup2, 1) := by decide +kernel
theorem dL_meet_213 : decode cL_meet 213 = .ok (.iaload, 1) := by decide +kernel
theorem dL_meet_214 : decode cL_meet 214 = .ok (.iconst 1, 1) := by decide +kernel
theorem dL_meet_215 : decode cL_meet 215 = .ok (.iadd, 1) := by decide +kernel
theorem dL_meet_216 : decode cL_meet 216 = .ok (.iastore, 1) := by decide +kernel
theorem dL_meet_217 : decode cL_meet 217 = .ok (.bipush 10, 2) := by decide +kernel
theorem dL_meet_219 : decode cL_meet 219 = .ok (.iload 6, 2) := by decide +kernel
theorem dL_meet_221 : decode cL_meet 221 = .ok (.imul, 1) := by decide +kernel
theorem dL_meet_222 : decode cL_meet 222 = .ok (.iload 7, 2) := by decide +kernel
theorem dL_meet_224 : decode cL_meet 224 = .ok (.iadd, 1) := by decide +kernel
theorem dL_meet_225 : decode cL_meet 225 = .ok (.ireturn, 1) := by decide +kernel
theorem dL_same_0 : decode cL_same 0 = .ok (.iconst 0, 1) := by decide +kernel
theorem dL_same_1 : decode cL_same 1 = .ok (.istore 6, 2) := by decide +kernel
theorem dL_same_3 : decode cL_same 3 = .ok (.iconst 0, 1) := by decide +kernel
theorem dL_same_4 : decode cL_same 4 = .ok (.istore 7, 2) := by decide +kernel
theorem dL_same_6 : decode cL_same 6 = .ok (.iconst 0, 1) := by decide +kernel
theorem dL_same_7 : decode cL_same 7 = .ok (.istore 8, 2) := by decide +kernel
theorem dL_same_9 : decode cL_same 9 = .ok (.iload 8, 2) := by decide +kernel
theorem dL_same_11 : decode cL_same 11 = .ok (.iconst 4, 1) := by decide +kernel
theorem dL_same_12 : decode cL_same 12 = .ok (.if_icmp .ge 606, 3) := by decide +kernel
theorem dL_same_15 : decode cL_same 15 = .ok (.iload 8, 2) := by decide +kernel
theorem dL_same_17 : decode cL_same 17 = .ok (.aload_n 2, 1) := by decide +kernel
theorem dL_same_18 : decode cL_same 18 = .ok (.aload_n 3, 1) := by decide +kernel
theorem dL_same_19 : decode cL_same 19 = .ok (.aload 4, 2) := by decide +kernel
theorem dL_same_21 : decode cL_same 21 = .ok (.aload 5, 2) := by decide +kernel
theorem dL_same_23 : decode cL_same 23 = .ok (.invokestatic 35, 3) := by decide +kernel
theorem dL_same_26 : decode cL_same 26 = .ok (.astore 9, 2) := by decide +kernel
theorem dL_same_28 : decode cL_same 28 = .ok (.aload_n 1, 1) := by decide +kernel
theorem dL_same_29 : decode cL_same 29 = .ok (.bipush 9, 2) := by decide +kernel
theorem dL_same_31 : decode cL_same 31 = .ok (.iload 8, 2) := by decide +kernel
theorem dL_same_33 : decode cL_same 33 = .ok (.iadd, 1) := by decide +kernel
theorem dL_same_34 : decode cL_same 34 = .ok (.iaload, 1) := by decide +kernel
theorem dL_same_35 : decode cL_same 35 = .ok (.ifCond .ge 27, 3) := by decide +kernel
theorem dL_same_38 : decode cL_same 38 = .ok (.aload_n 0, 1) := by decide +kernel
theorem dL_same_39 : decode cL_same 39 = .ok (.iload 8, 2) := by decide +kernel
theorem dL_same_41 : decode cL_same 41 = .ok (.iconst 0, 1) := by decide +kernel
theorem dL_same_42 : decode cL_same 42 = .ok (.invokevirtual 39, 3) := by decide +kernel
theorem dL_same_45 : decode cL_same 45 = .ok (.iconst (-1), 1) := by decide +kernel
theorem dL_same_46 : decode cL_same 46 = .ok (.if_icmp .ne 14, 3) := by decide +kernel
theorem dL_same_49 : decode cL_same 49 = .ok (.aload_n 0, 1) := by decide +kernel
theorem dL_same_50 : decode cL_same 50 = .ok (.iload 8, 2) := by decide +kernel
theorem dL_same_52 : decode cL_same 52 = .ok (.iconst 0, 1) := by decide +kernel
theorem dL_same_53 : decode cL_same 53 = .ok (.invokevirtual 45, 3) := by decide +kernel
theorem dL_same_56 : decode cL_same 56 = .ok (.iconst (-1), 1) := by decide +kernel
theorem dL_same_57 : decode cL_same 57 = .ok (.if_icmp .eq 555, 3) := by decide +kernel
theorem dL_same_60 : decode cL_same 60 = .ok (.iconst 0, 1) := by decide +kernel
theorem dL_same_61 : decode cL_same 61 = .ok (.ireturn, 1) := by decide +kernel
theorem dL_same_62 : decode cL_same 62 = .ok (.iinc 6 1, 3) := by decide +kernel
theorem dL_same_65 : decode cL_same 65 = .ok (.iconst 0, 1) := by decide +kernel
theorem dL_same_66 : decode cL_same 66 = .ok (.istore 10, 2) := by decide +kernel
theorem dL_same_68 : decode cL_same 68 = .ok (.iconst 0, 1) := by decide +kernel
theorem dL_same_69 : decode cL_same 69 = .ok (.istore 11, 2) := by decide +kernel
theorem dL_same_71 : decode cL_same 71 = .ok (.iconst 0, 1) := by decide +kernel
theorem dL_same_72 : decode cL_same 72 = .ok (.istore 12, 2) := by decide +kernel
theorem dL_same_74 : decode cL_same 74 = .ok (.iload 12, 2) := by decide +kernel
theorem dL_same_76 : decode cL_same 76 = .ok (.bipush 6, 2) := by decide +kernel
theorem dL_same_78 : decode cL_same 78 = .ok (.if_icmp .ge 171, 3) := by decide +kernel
theorem dL_same_81 : decode cL_same 81 = .ok (.iload 12, 2) := by decide +kernel
theorem dL_same_83 : decode cL_same 83 = .ok (.aload 9, 2) := by decide +kernel
theorem dL_same_85 : decode cL_same 85 = .ok (.invokestatic 16, 3) := by decide +kernel
theorem dL_same_88 : decode cL_same 88 = .ok (.istore 13, 2) := by decide +kernel
theorem dL_same_90 : decode cL_same 90 = .ok (.iload 10, 2) := by decide +kernel
theorem dL_same_92 : decode cL_same 92 = .ok (.iload 13, 2) := by decide +kernel
theorem dL_same_94 : decode cL_same 94 = .ok (.ifCond .ge 7, 3) := by decide +kernel
theorem dL_same_97 : decode cL_same 97 = .ok (.iconst 0, 1) := by decide +kernel
theorem dL_same_98 : decode cL_same 98 = .ok (.goto 4, 3) := by decide +kernel
theorem dL_same_101 : decode cL_same 101 = .ok (.iconst 1, 1) := by decide +kernel
theorem dL_same_102 : decode cL_same 102 = .ok (.iadd, 1) := by decide +kernel
theorem dL_same_103 : decode cL_same 103 = .ok (.istore 10, 2) := by decide +kernel
theorem dL_same_105 : decode cL_same 105 = .ok (.iconst 0, 1) := by decide +kernel
theorem dL_same_106 : decode cL_same 106 = .ok (.istore 14, 2) := by decide +kernel
theorem dL_same_108 : decode cL_same 108 = .ok (.iload 14, 2) := by decide +kernel
theorem dL_same_110 : decode cL_same 110 = .ok (.iload 12, 2) := by decide +kernel
theorem dL_same_112 : decode cL_same 112 = .ok (.if_icmp .ge 36, 3) := by decide +kernel
theorem dL_same_115 : decode cL_same 115 = .ok (.iload 11, 2) := by decide +kernel
theorem dL_same_117 : decode cL_same 117 = .ok (.iload 13, 2) := by decide +kernel
theorem dL_same_119 : decode cL_same 119 = .ok (.ifCond .lt 19, 3) := by decide +kernel
theorem dL_same_122 : decode cL_same 122 = .ok (.iload 14, 2) := by decide +kernel
theorem dL_same_124 : decode cL_same 124 = .ok (.aload 9, 2) := by decide +kernel
theorem dL_same_126 : decode cL_same 126 = .ok (.invokestatic 16, 3) := by decide +kernel
theorem dL_same_129 : decode cL_same 129 = .ok (.iload 13, 2) := by decide +kernel
theorem dL_same_131 : decode cL_same 131 = .ok (.if_icmp .ne 7, 3) := by decide +kernel
theorem dL_same_134 : decode cL_same 134 = .ok (.iconst 1, 1) := by decide +kernel
theorem dL_same_135 : decode cL_same 135 = .ok (.goto 4, 3) := by decide +kernel
theorem dL_same_138 : decode cL_same 138 = .ok (.iconst 0, 1) := by decide +kernel
theorem dL_same_139 : decode cL_same 139 = .ok (.iadd, 1) := by decide +kernel
theorem dL_same_140 : decode cL_same 140 = .ok (.istore 11, 2) := by decide +kernel
theorem dL_same_142 : decode cL_same 142 = .ok (.iinc 14 1, 3) := by decide +kernel
theorem dL_same_145 : decode cL_same 145 = .ok (.goto (-37), 3) := by decide +kernel
theorem dL_same_148 : decode cL_same 148 = .ok (.aload_n 0, 1) := by decide +kernel
theorem dL_same_149 : decode cL_same 149 = .ok (.iload 8, 2) := by decide +kernel
theorem dL_same_151 : decode cL_same 151 = .ok (.iload 12, 2) := by decide +kernel
theorem dL_same_153 : decode cL_same 153 = .ok (.invokevirtual 45, 3) := by decide +kernel
theorem dL_same_156 : decode cL_same 156 = .ok (.iload 13, 2) := by decide +kernel
theorem dL_same_158 : decode cL_same 158 = .ok (.if_icmp .eq 5, 3) := by decide +kernel
theorem dL_same_161 : decode cL_same 161 = .ok (.iconst 0, 1) := by decide +kernel
theorem dL_same_162 : decode cL_same 162 = .ok (.ireturn, 1) := by decide +kernel
theorem dL_same_163 : decode cL_same 163 = .ok (.iconst 0, 1) := by decide +kernel
theorem dL_same_164 : decode cL_same 164 = .ok (.istore 14, 2) := by decide +kernel
theorem dL_same_166 : decode cL_same 166 = .ok (.iload 14, 2) := by decide +kernel
theorem dL_same_168 : decode cL_same 168 = .ok (.bipush 14, 2) := by decide +kernel
theorem dL_same_170 : decode cL_same 170 = .ok (.if_icmp .ge 73, 3) := by decide +kernel
theorem dL_same_173 : decode cL_same 173 = .ok (.iload 7, 2) := by decide +kernel
theorem dL_same_175 : decode cL_same 175 = .ok (.iload 14, 2) := by decide +kernel
theorem dL_same_177 : decode cL_same 177 = .ok (.bipush 10, 2) := by decide +kernel
theorem dL_same_179 : decode cL_same 179 = .ok (.if_icmp .ge 17, 3) := by decide +kernel
theorem dL_same_182 : decode cL_same 182 = .ok (.aload 9, 2) := by decide +kernel
theorem dL_same_184 : decode cL_same 184 = .ok (.bipush 10, 2) := by decide +kernel
theorem dL_same_186 : decode cL_same 186 = .ok (.iload 12, 2) := by decide +kernel
theorem dL_same_188 : decode cL_same 188 = .ok (.imul, 1) := by decide +kernel
theorem dL_same_189 : decode cL_same 189 = .ok (.iload 14, 2) := by decide +kernel
theorem dL_same_191 : decode cL_same 191 = .ok (.iadd, 1) := by decide +kernel
theorem dL_same_192 : decode cL_same 192 = .ok (.iaload, 1) := by decide +kernel
theorem dL_same_193 : decode cL_same 193 = .ok (.goto 4, 3) := by decide +kernel
theorem dL_same_196 : decode cL_same 196 = .ok (.iconst 0, 1) := by decide +kernel
theorem dL_same_197 : decode cL_same 197 = .ok (.iadd, 1) := by decide +kernel
theorem dL_same_198 : decode cL_same 198 = .ok (.istore 7, 2) := by decide +kernel
theorem dL_same_200 : decode cL_same 200 = .ok (.aload_n 0, 1) := by decide +kernel
theorem dL_same_201 : decode cL_same 201 = .ok (.iload 8, 2) := by decide +kernel
theorem dL_same_203 : decode cL_same 203 = .ok (.iload 12, 2) := by decide +kernel
theorem dL_same_205 : decode cL_same 205 = .ok (.iload 14, 2) := by decide +kernel
theorem dL_same_207 : decode cL_same 207 = .ok (.invokevirtual 48, 3) := by decide +kernel
theorem dL_same_210 : decode cL_same 210 = .ok (.iload 14, 2) := by decide +kernel
theorem dL_same_212 : decode cL_same 212 = .ok (.bipush 10, 2) := by decide +kernel
theorem dL_same_214 : decode cL_same 214 = .ok (.if_icmp .ge 17, 3) := by decide +kernel
theorem dL_same_217 : decode cL_same 217 = .ok (.aload 9, 2) := by decide +kernel
theorem dL_same_219 : decode cL_same 219 = .ok (.bipush 10, 2) := by decide +kernel
theorem dL_same_221 : decode cL_same 221 = .ok (.iload 12, 2) := by decide +kernel
theorem dL_same_223 : decode cL_same 223 = .ok (.imul, 1) := by decide +kernel
theorem dL_same_224 : decode cL_same 224 = .ok (.iload 14, 2) := by decide +kernel
theorem dL_same_226 : decode cL_same 226 = .ok (.iadd, 1) := by decide +kernel
theorem dL_same_227 : decode cL_same 227 = .ok (.iaload, 1) := by decide +kernel
theorem dL_same_228 : decode cL_same 228 = .ok (.goto 4, 3) := by decide +kernel
theorem dL_same_231 : decode cL_same 231 = .ok (.iconst 0, 1) := by decide +kernel
theorem dL_same_232 : decode cL_same 232 = .ok (.if_icmp .eq 5, 3) := by decide +kernel
theorem dL_same_235 : decode cL_same 235 = .ok (.iconst 0, 1) := by decide +kernel
theorem dL_same_236 : decode cL_same 236 = .ok (.ireturn, 1) := by decide +kernel
theorem dL_same_237 : decode cL_same 237 = .ok (.iinc 14 1, 3) := by decide +kernel
theorem dL_same_240 : decode cL_same 240 = .ok (.goto (-74), 3) := by decide +kernel
theorem dL_same_243 : decode cL_same 243 = .ok (.iinc 12 1, 3) := by decide +kernel
theorem dL_same_246 : decode cL_same 246 = .ok (.goto (-172), 3) := by decide +kernel
theorem dL_same_249 : decode cL_same 249 = .ok (.iconst 0, 1) := by decide +kernel
theorem dL_same_250 : decode cL_same 250 = .ok (.istore 12, 2) := by decide +kernel
theorem dL_same_252 : decode cL_same 252 = .ok (.iload 12, 2) := by decide +kernel
theorem dL_same_254 : decode cL_same 254 = .ok (.bipush 14, 2) := by decide +kernel
theorem dL_same_256 : decode cL_same 256 = .ok (.if_icmp .ge 29, 3) := by decide +kernel
theorem dL_same_259 : decode cL_same 259 = .ok (.aload_n 0, 1) := by decide +kernel
theorem dL_same_260 : decode cL_same 260 = .ok (.iload 8, 2) := by decide +kernel
theorem dL_same_262 : decode cL_same 262 = .ok (.iload 12, 2) := by decide +kernel
theorem dL_same_264 : decode cL_same 264 = .ok (.invokevirtual 52, 3) := by decide +kernel
theorem dL_same_267 : decode cL_same 267 = .ok (.iload 12, 2) := by decide +kernel
theorem dL_same_269 : decode cL_same 269 = .ok (.aload 9, 2) := by decide +kernel
theorem dL_same_271 : decode cL_same 271 = .ok (.invokestatic 22, 3) := by decide +kernel
theorem dL_same_274 : decode cL_same 274 = .ok (.if_icmp .eq 5, 3) := by decide +kernel
theorem dL_same_277 : decode cL_same 277 = .ok (.iconst 0, 1) := by decide +kernel
theorem dL_same_278 : decode cL_same 278 = .ok (.ireturn, 1) := by decide +kernel
theorem dL_same_279 : decode cL_same 279 = .ok (.iinc 12 1, 3) := by decide +kernel
theorem dL_same_282 : decode cL_same 282 = .ok (.goto (-30), 3) := by decide +kernel
theorem dL_same_285 : decode cL_same 285 = .ok (.aload_n 0, 1) := by decide +kernel
theorem dL_same_286 : decode cL_same 286 = .ok (.iload 8, 2) := by decide +kernel
theorem dL_same_288 : decode cL_same 288 = .ok (.iconst 0, 1) := by decide +kernel
theorem dL_same_289 : decode cL_same 289 = .ok (.invokevirtual 39, 3) := by decide +kernel
theorem dL_same_292 : decode cL_same 292 = .ok (.aload_n 1, 1) := by decide +kernel
theorem dL_same_293 : decode cL_same 293 = .ok (.bipush 9, 2) := by decide +kernel
theorem dL_same_295 : decode cL_same 295 = .ok (.iload 8, 2) := by decide +kernel
theorem dL_same_297 : decode cL_same 297 = .ok (.iadd, 1) := by decide +kernel
theorem dL_same_298 : decode cL_same 298 = .ok (.iaload, 1) := by decide +kernel
theorem dL_same_299 : decode cL_same 299 = .ok (.if_icmp .ne 60, 3) := by decide +kernel
theorem dL_same_302 : decode cL_same 302 = .ok (.aload_n 0, 1) := by decide +kernel
theorem dL_same_303 : decode cL_same 303 = .ok (.iload 8, 2) := by decide +kernel
theorem dL_same_305 : decode cL_same 305 = .ok (.iconst 1, 1) := by decide +kernel
theorem dL_same_306 : decode cL_same 306 = .ok (.invokevirtual 39, 3) := by decide +kernel
theorem dL_same_309 : decode cL_same 309 = .ok (.iload 8, 2) := by decide +kernel
theorem dL_same_311 : decode cL_same 311 = .ok (.aload_n 1, 1) := by decide +kernel
theorem dL_same_312 : decode cL_same 312 = .ok (.invokestatic 28, 3) := by decide +kernel
theorem dL_same_315 : decode cL_same 315 = .ok (.if_icmp .ne 44, 3) := by decide +kernel
theorem dL_same_318 : decode cL_same 318 = .ok (.aload_n 0, 1) := by decide +kernel
theorem dL_same_319 : decode cL_same 319 = .ok (.iload 8, 2) := by decide +kernel
theorem dL_same_321 : decode cL_same 321 = .ok (.iconst 2, 1) := by decide +kernel
theorem dL_same_322 : decode cL_same 322 = .ok (.invokevirtual 39, 3) := by decide +kernel
theorem dL_same_325 : decode cL_same 325 = .ok (.iload 10, 2) := by decide +kernel
theorem dL_same_327 : decode cL_same 327 = .ok (.if_icmp .ne 32, 3) := by decide +kernel
theorem dL_same_330 : decode cL_same 330 = .ok (.aload_n 0, 1) := by decide +kernel
theorem dL_same_331 : decode cL_same 331 = .ok (.iload 8, 2) := by decide +kernel
theorem dL_same_333 : decode cL_same 333 = .ok (.iconst 3, 1) := by decide +kernel
theorem dL_same_334 : decode cL_same 334 = .ok (.invokevirtual 39, 3) := by decide +kernel
theorem dL_same_337 : decode cL_same 337 = .ok (.iload 11, 2) := by decide +kernel
theorem dL_same_339 : decode cL_same 339 = .ok (.if_icmp .ne 20, 3) := by decide +kernel
theorem dL_same_342 : decode cL_same 342 = .ok (.aload_n 0, 1) := by decide +kernel
theorem dL_same_343 : decode cL_same 343 = .ok (.iload 8, 2) := by decide +kernel
theorem dL_same_345 : decode cL_same 345 = .ok (.iconst 4, 1) := by decide +kernel
theorem dL_same_346 : decode cL_same 346 = .ok (.invokevirtual 39, 3) := by decide +kernel
theorem dL_same_349 : decode cL_same 349 = .ok (.aload_n 1, 1) := by decide +kernel
theorem dL_same_350 : decode cL_same 350 = .ok (.bipush 13, 2) := by decide +kernel
theorem dL_same_352 : decode cL_same 352 = .ok (.iload 8, 2) := by decide +kernel
theorem dL_same_354 : decode cL_same 354 = .ok (.iadd, 1) := by decide +kernel
theorem dL_same_355 : decode cL_same 355 = .ok (.iaload, 1) := by decide +kernel
theorem dL_same_356 : decode cL_same 356 = .ok (.if_icmp .eq 5, 3) := by decide +kernel
theorem dL_same_359 : decode cL_same 359 = .ok (.iconst 0, 1) := by decide +kernel
theorem dL_same_360 : decode cL_same 360 = .ok (.ireturn, 1) := by decide +kernel
theorem dL_same_361 : decode cL_same 361 = .ok (.bipush (-6), 2) := by decide +kernel
theorem dL_same_363 : decode cL_same 363 = .ok (.istore 12, 2) := by decide +kernel
theorem dL_same_365 : decode cL_same 365 = .ok (.iconst (-1), 1) := by decide +kernel
theorem dL_same_366 : decode cL_same 366 = .ok (.istore 13, 2) := by decide +kernel
theorem dL_same_368 : decode cL_same 368 = .ok (.iconst 0, 1) := by decide +kernel
theorem dL_same_369 : decode cL_same 369 = .ok (.istore 14, 2) := by decide +kernel
theorem dL_same_371 : decode cL_same 371 = .ok (.iload 14, 2) := by decide +kernel
theorem dL_same_373 : decode cL_same 373 = .ok (.iconst 4, 1) := by decide +kernel
theorem dL_same_374 : decode cL_same 374 = .ok (.if_icmp .ge 225, 3) := by decide +kernel
theorem dL_same_377 : decode cL_same 377 = .ok (.aload_n 1, 1) := by decide +kernel
theorem dL_same_378 : decode cL_same 378 = .ok (.bipush 9, 2) := by decide +kernel
theorem dL_same_380 : decode cL_same 380 = .ok (.iload 14, 2) := by decide +kernel
theorem dL_same_382 : decode cL_same 382 = .ok (.iadd, 1) := by decide +kernel
theorem dL_same_383 : decode cL_same 383 = .ok (.iaload, 1) := by decide +kernel
theorem dL_same_384 : decode cL_same 384 = .ok (.ifCond .ge 6, 3) := by decide +kernel
theorem dL_same_387 : decode cL_same 387 = .ok (.goto 206, 3) := by decide +kernel
theorem dL_same_390 : decode cL_same 390 = .ok (.iload 14, 2) := by decide +kernel
theorem dL_same_392 : decode cL_same 392 = .ok (.aload_n 2, 1) := by decide +kernel
theorem dL_same_393 : decode cL_same 393 = .ok (.aload_n 3, 1) := by decide +kernel
theorem dL_same_394 : decode cL_same 394 = .ok (.aload 4, 2) := by decide +kernel
theorem dL_same_396 : decode cL_same 396 = .ok (.aload 5, 2) := by decide +kernel
theorem dL_same_398 : decode cL_same 398 = .ok (.invokestatic 35, 3) := by decide +kernel
theorem dL_same_401 : decode cL_same 401 = .ok (.astore 15, 2) := by decide +kernel
theorem dL_same_403 : decode cL_same 403 = .ok (.iconst 0, 1) := by decide +kernel
theorem dL_same_404 : decode cL_same 404 = .ok (.istore 16, 2) := by decide +kernel
theorem dL_same_406 : decode cL_same 406 = .ok (.iconst 0, 1) := by decide +kernel
theorem dL_same_407 : decode cL_same 407 = .ok (.istore 17, 2) := by decide +kernel
theorem dL_same_409 : decode cL_same 409 = .ok (.iconst 0, 1) := by decide +kernel
theorem dL_same_410 : decode cL_same 410 = .ok (.istore 18, 2) := by decide +kernel
theorem dL_same_412 : decode cL_same 412 = .ok (.iconst 0, 1) := by decide +kernel
theorem dL_same_413 : decode cL_same 413 = .ok (.istore 19, 2) := by decide +kernel
theorem dL_same_415 : decode cL_same 415 = .ok (.iload 19, 2) := by decide +kernel
theorem dL_same_417 : decode cL_same 417 = .ok (.bipush 6, 2) := by decide +kernel
theorem dL_same_419 : decode cL_same 419 = .ok (.if_icmp .ge 109, 3) := by decide +kernel
theorem dL_same_422 : decode cL_same 422 = .ok (.iload 19, 2) := by decide +kernel
theorem dL_same_424 : decode cL_same 424 = .ok (.aload 9, 2) := by decide +kernel
theorem dL_same_426 : decode cL_same 426 = .ok (.invokestatic 16, 3) := by decide +kernel
theorem dL_same_429 : decode cL_same 429 = .ok (.istore 20, 2) := by decide +kernel
theorem dL_same_431 : decode cL_same 431 = .ok (.iload 16, 2) := by decide +kernel
theorem dL_same_433 : decode cL_same 433 = .ok (.iload 20, 2) := by decide +kernel
theorem dL_same_435 : decode cL_same 435 = .ok (.ifCond .lt 19, 3) := by decide +kernel
theorem dL_same_438 : decode cL_same 438 = .ok (.iload 19, 2) := by decide +kernel
theorem dL_same_440 : decode cL_same 440 = .ok (.aload 15, 2) := by decide +kernel
theorem dL_same_442 : decode cL_same 442 = .ok (.invokestatic 16, 3) := by decide +kernel
theorem dL_same_445 : decode cL_same 445 = .ok (.iload 20, 2) := by decide +kernel
theorem dL_same_447 : decode cL_same 447 = .ok (.if_icmp .ne 7, 3) := by decide +kernel
theorem dL_same_450 : decode cL_same 450 = .ok (.iconst 1, 1) := by decide +kernel
theorem dL_same_451 : decode cL_same 451 = .ok (.goto 4, 3) := by decide +kernel
theorem dL_same_454 : decode cL_same 454 = .ok (.iconst 0, 1) := by decide +kernel
theorem dL_same_455 : decode cL_same 455 = .ok (.iadd, 1) := by decide +kernel
theorem dL_same_456 : decode cL_same 456 = .ok (.istore 16, 2) := by decide +kernel
theorem dL_same_458 : decode cL_same 458 = .ok (.iload 17, 2) := by decide +kernel
theorem dL_same_460 : decode cL_same 460 = .ok (.iload 20, 2) := by decide +kernel
theorem dL_same_462 : decode cL_same 462 = .ok (.ifCond .lt 19, 3) := by decide +kernel
theorem dL_same_465 : decode cL_same 465 = .ok (.iload 20, 2) := by decide +kernel
theorem dL_same_467 : decode cL_same 467 = .ok (.aload 15, 2) := by decide +kernel
theorem dL_same_469 : decode cL_same 469 = .ok (.invokestatic 22, 3) := by decide +kernel
theorem dL_same_472 : decode cL_same 472 = .ok (.iload 19, 2) := by decide +kernel
theorem dL_same_474 : decode cL_same 474 = .ok (.if_icmp .ne 7, 3) := by decide +kernel
theorem dL_same_477 : decode cL_same 477 = .ok (.iconst 1, 1) := by decide +kernel
theorem dL_same_478 : decode cL_same 478 = .ok (.goto 4, 3) := by decide +kernel
theorem dL_same_481 : decode cL_same 481 = .ok (.iconst 0, 1) := by decide +kernel
theorem dL_same_482 : decode cL_same 482 = .ok (.iadd, 1) := by decide +kernel
theorem dL_same_483 : decode cL_same 483 = .ok (.istore 17, 2) := by decide +kernel
theorem dL_same_485 : decode cL_same 485 = .ok (.iload 18, 2) := by decide +kernel
theorem dL_same_487 : decode cL_same 487 = .ok (.iload 19, 2) := by decide +kernel
theorem dL_same_489 : decode cL_same 489 = .ok (.aload 15, 2) := by decide +kernel
theorem dL_same_491 : decode cL_same 491 = .ok (.invokestatic 16, 3) := by decide +kernel
theorem dL_same_494 : decode cL_same 494 = .ok (.ifCond .lt 24, 3) := by decide +kernel
theorem dL_same_497 : decode cL_same 497 = .ok (.iload 19, 2) := by decide +kernel
theorem dL_same_499 : decode cL_same 499 = .ok (.aload 15, 2) := by decide +kernel
theorem dL_same_501 : decode cL_same 501 = .ok (.invokestatic 16, 3) := by decide +kernel
theorem dL_same_504 : decode cL_same 504 = .ok (.aload 9, 2) := by decide +kernel
theorem dL_same_506 : decode cL_same 506 = .ok (.invokestatic 22, 3) := by decide +kernel
theorem dL_same_509 : decode cL_same 509 = .ok (.iload 19, 2) := by decide +kernel
theorem dL_same_511 : decode cL_same 511 = .ok (.if_icmp .ne 7, 3) := by decide +kernel
theorem dL_same_514 : decode cL_same 514 = .ok (.iconst 1, 1) := by decide +kernel
theorem dL_same_515 : decode cL_same 515 = .ok (.goto 4, 3) := by decide +kernel
theorem dL_same_518 : decode cL_same 518 = .ok (.iconst 0, 1) := by decide +kernel
theorem dL_same_519 : decode cL_same 519 = .ok (.iadd, 1) := by decide +kernel
theorem dL_same_520 : decode cL_same 520 = .ok (.istore 18, 2) := by decide +kernel
theorem dL_same_522 : decode cL_same 522 = .ok (.iinc 19 1, 3) := by decide +kernel
theorem dL_same_525 : decode cL_same 525 = .ok (.goto (-110), 3) := by decide +kernel
theorem dL_same_528 : decode cL_same 528 = .ok (.aload_n 0, 1) := by decide +kernel
theorem dL_same_529 : decode cL_same 529 = .ok (.iload 8, 2) := by decide +kernel
theorem dL_same_531 : decode cL_same 531 = .ok (.iload 14, 2) := by decide +kernel
theorem dL_same_533 : decode cL_same 533 = .ok (.iconst 0, 1) := by decide +kernel
theorem dL_same_534 : decode cL_same 534 = .ok (.invokevirtual 55, 3) := by decide +kernel
theorem dL_same_537 : decode cL_same 537 = .ok (.iload 16, 2) := by decide +kernel
theorem dL_same_539 : decode cL_same 539 = .ok (.if_icmp .ne 30, 3) := by decide +kernel
theorem dL_same_542 : decode cL_same 542 = .ok (.aload_n 0, 1) := by decide +kernel
theorem dL_same_543 : decode cL_same 543 = .ok (.iload 8, 2) := by decide +kernel
theorem dL_same_545 : decode cL_same 545 = .ok (.iload 14, 2) := by decide +kernel
theorem dL_same_547 : decode cL_same 547 = .ok (.iconst 1, 1) := by decide +kernel
theorem dL_same_548 : decode cL_same 548 = .ok (.invokevirtual 55, 3) := by decide +kernel
theorem dL_same_551 : decode cL_same 551 = .ok (.iload 16, 2) := by decide +kernel
theorem dL_same_553 : decode cL_same 553 = .ok (.if_icmp .ne 16, 3) := by decide +kernel
theorem dL_same_556 : decode cL_same 556 = .ok (.aload_n 0, 1) := by decide +kernel
theorem dL_same_557 : decode cL_same 557 = .ok (.iload 8, 2) := by decide +kernel
theorem dL_same_559 : decode cL_same 559 = .ok (.iload 14, 2) := by decide +kernel
theorem dL_same_561 : decode cL_same 561 = .ok (.invokevirtual 58, 3) := by decide +kernel
theorem dL_same_564 : decode cL_same 564 = .ok (.iload 17, 2) := by decide +kernel
theorem dL_same_566 : decode cL_same 566 = .ok (.if_icmp .eq 5, 3) := by decide +kernel
theorem dL_same_569 : decode cL_same 569 = .ok (.iconst 0, 1) := by decide +kernel
theorem dL_same_570 : decode cL_same 570 = .ok (.ireturn, 1) := by decide +kernel
theorem dL_same_571 : decode cL_same 571 = .ok (.iload 14, 2) := by decide +kernel
theorem dL_same_573 : decode cL_same 573 = .ok (.iload 8, 2) := by decide +kernel
theorem dL_same_575 : decode cL_same 575 = .ok (.if_icmp .eq 18, 3) := by decide +kernel
theorem dL_same_578 : decode cL_same 578 = .ok (.iload 18, 2) := by decide +kernel
theorem dL_same_580 : decode cL_same 580 = .ok (.iload 13, 2) := by decide +kernel
theorem dL_same_582 : decode cL_same 582 = .ok (.if_icmp .le 11, 3) := by decide +kernel
theorem dL_same_585 : decode cL_same 585 = .ok (.iload 18, 2) := by decide +kernel
theorem dL_same_587 : decode cL_same 587 = .ok (.istore 13, 2) := by decide +kernel
theorem dL_same_589 : decode cL_same 589 = .ok (.iload 14, 2) := by decide +kernel
theorem dL_same_591 : decode cL_same 591 = .ok (.istore 12, 2) := by decide +kernel
theorem dL_same_593 : decode cL_same 593 = .ok (.iinc 14 1, 3) := by decide +kernel
theorem dL_same_596 : decode cL_same 596 = .ok (.goto (-225), 3) := by decide +kernel
theorem dL_same_599 : decode cL_same 599 = .ok (.aload_n 0, 1) := by decide +kernel
theorem dL_same_600 : decode cL_same 600 = .ok (.iload 8, 2) := by decide +kernel
theorem dL_same_602 : decode cL_same 602 = .ok (.invokevirtual 61, 3) := by decide +kernel
theorem dL_same_605 : decode cL_same 605 = .ok (.iload 12, 2) := by decide +kernel
theorem dL_same_607 : decode cL_same 607 = .ok (.if_icmp .eq 5, 3) := by decide +kernel
theorem dL_same_610 : decode cL_same 610 = .ok (.iconst 0, 1) := by decide +kernel
theorem dL_same_611 : decode cL_same 611 = .ok (.ireturn, 1) := by decide +kernel
theorem dL_same_612 : decode cL_same 612 = .ok (.iinc 8 1, 3) := by decide +kernel
theorem dL_same_615 : decode cL_same 615 = .ok (.goto (-606), 3) := by decide +kernel
theorem dL_same_618 : decode cL_same 618 = .ok (.iconst 0, 1) := by decide +kernel
theorem dL_same_619 : decode cL_same 619 = .ok (.istore 8, 2) := by decide +kernel
theorem dL_same_621 : decode cL_same 621 = .ok (.iload 8, 2) := by decide +kernel
theorem dL_same_623 : decode cL_same 623 = .ok (.bipush 6, 2) := by decide +kernel
theorem dL_same_625 : decode cL_same 625 = .ok (.if_icmp .ge 144, 3) := by decide +kernel
theorem dL_same_628 : decode cL_same 628 = .ok (.bipush 10, 2) := by decide +kernel
theorem dL_same_630 : decode cL_same 630 = .ok (.newarray .int, 2) := by decide +kernel
theorem dL_same_632 : decode cL_same 632 = .ok (.astore 9, 2) := by decide +kernel
theorem dL_same_634 : decode cL_same 634 = .ok (.bipush (-6), 2) := by decide +kernel
theorem dL_same_636 : decode cL_same 636 = .ok (.istore 10, 2) := by decide +kernel
theorem dL_same_638 : decode cL_same 638 = .ok (.iconst 0, 1) := by decide +kernel
theorem dL_same_639 : decode cL_same 639 = .ok (.istore 11, 2) := by decide +kernel
theorem dL_same_641 : decode cL_same 641 = .ok (.iload 11, 2) := by decide +kernel
theorem dL_same_643 : decode cL_same 643 = .ok (.iconst 4, 1) := by decide +kernel
theorem dL_same_644 : decode cL_same 644 = .ok (.if_icmp .ge 61, 3) := by decide +kernel
theorem dL_same_647 : decode cL_same 647 = .ok (.aload_n 1, 1) := by decide +kernel
theorem dL_same_648 : decode cL_same 648 = .ok (.bipush 9, 2) := by decide +kernel
theorem dL_same_650 : decode cL_same 650 = .ok (.iload 11, 2) := by decide +kernel
theorem dL_same_652 : decode cL_same 652 = .ok (.iadd, 1) := by decide +kernel
theorem dL_same_653 : decode cL_same 653 = .ok (.iaload, 1) := by decide +kernel
theorem dL_same_654 : decode cL_same 654 = .ok (.ifCond .lt 45, 3) := by decide +kernel
theorem dL_same_657 : decode cL_same 657 = .ok (.iload 8, 2) := by decide +kernel
theorem dL_same_659 : decode cL_same 659 = .ok (.iload 11, 2) := by decide +kernel
theorem dL_same_661 : decode cL_same 661 = .ok (.aload_n 2, 1) := by decide +kernel
theorem dL_same_662 : decode cL_same 662 = .ok (.aload_n 3, 1) := by decide +kernel
theorem dL_same_663 : decode cL_same 663 = .ok (.aload 4, 2) := by decide +kernel
theorem dL_same_665 : decode cL_same 665 = .ok (.aload 5, 2) := by decide +kernel
theorem dL_same_667 : decode cL_same 667 = .ok (.invokestatic 35, 3) := by decide +kernel
theorem dL_same_670 : decode cL_same 670 = .ok (.invokestatic 16, 3) := by decide +kernel
theorem dL_same_673 : decode cL_same 673 = .ok (.ifCond .lt 26, 3) := by decide +kernel
theorem dL_same_676 : decode cL_same 676 = .ok (.aload 9, 2) := by decide +kernel
theorem dL_same_678 : decode cL_same 678 = .ok (.iload 8, 2) := by decide +kernel
theorem dL_same_680 : decode cL_same 680 = .ok (.iload 11, 2) := by decide +kernel
theorem dL_same_682 : decode cL_same 682 = .ok (.aload_n 2, 1) := by decide +kernel
theorem dL_same_683 : decode cL_same 683 = .ok (.aload_n 3, 1) := by decide +kernel
theorem dL_same_684 : decode cL_same 684 = .ok (.aload 4, 2) := by decide +kernel
theorem dL_same_686 : decode cL_same 686 = .ok (.aload 5, 2) := by decide +kernel
theorem dL_same_688 : decode cL_same 688 = .ok (.invokestatic 35, 3) := by decide +kernel
theorem dL_same_691 : decode cL_same 691 = .ok (.invokestatic 16, 3) := by decide +kernel
theorem dL_same_694 : decode cL_same 694 = .ok (.dup2, 1) := by decide +kernel
theorem dL_same_695 : decode cL_same 695 = .ok (.iaload, 1) := by decide +kernel
theorem dL_same_696 : decode cL_same 696 = .ok (.iconst 1, 1) := by decide +kernel
theorem dL_same_697 : decode cL_same 697 = .ok (.iadd, 1) := by decide +kernel
theorem dL_same_698 : decode cL_same 698 = .ok (.iastore, 1) := by decide +kernel
theorem dL_same_699 : decode cL_same 699 = .ok (.iinc 11 1, 3) := by decide +kernel
theorem dL_same_702 : decode cL_same 702 = .ok (.goto (-61), 3) := by decide +kernel
theorem dL_same_705 : decode cL_same 705 = .ok (.bipush 9, 2) := by decide +kernel
theorem dL_same_707 : decode cL_same 707 = .ok (.istore 11, 2) := by decide +kernel
theorem dL_same_709 : decode cL_same 709 = .ok (.iload 11, 2) := by decide +kernel
theorem dL_same_711 : decode cL_same 711 = .ok (.ifCond .lt 39, 3) := by decide +kernel
theorem dL_same_714 : decode cL_same 714 = .ok (.aload 9, 2) := by decide +kernel
theorem dL_same_716 : decode cL_same 716 = .ok (.iload 11, 2) := by decide +kernel
theorem dL_same_718 : decode cL_same 718 = .ok (.iaload, 1) := by decide +kernel
theorem dL_same_719 : decode cL_same 719 = .ok (.ifCond .le 25, 3) := by decide +kernel
theorem dL_same_722 : decode cL_same 722 = .ok (.iload 10, 2) := by decide +kernel
theorem dL_same_724 : decode cL_same 724 = .ok (.ifCond .lt 16, 3) := by decide +kernel
theorem dL_same_727 : decode cL_same 727 = .ok (.aload 9, 2) := by decide +kernel
theorem dL_same_729 : decode cL_same 729 = .ok (.iload 11, 2) := by decide +kernel
theorem dL_same_731 : decode cL_same 731 = .ok (.iaload, 1) := by decide +kernel
theorem dL_same_732 : decode cL_same 732 = .ok (.aload 9, 2) := by decide +kernel
theorem dL_same_734 : decode cL_same 734 = .ok (.iload 10, 2) := by decide +kernel
theorem dL_same_736 : decode cL_same 736 = .ok (.iaload, 1) := by decide +kernel
theorem dL_same_737 : decode cL_same 737 = .ok (.if_icmp .lt 7, 3) := by decide +kernel
theorem dL_same_740 : decode cL_same 740 = .ok (.iload 11, 2) := by decide +kernel
theorem dL_same_742 : decode cL_same 742 = .ok (.istore 10, 2) := by decide +kernel
theorem dL_same_744 : decode cL_same 744 = .ok (.iinc 11 (-1), 3) := by decide +kernel
theorem dL_same_747 : decode cL_same 747 = .ok (.goto (-38), 3) := by decide +kernel
theorem dL_same_750 : decode cL_same 750 = .ok (.aload_n 0, 1) := by decide +kernel
theorem dL_same_751 : decode cL_same 751 = .ok (.iload 8, 2) := by decide +kernel
theorem dL_same_753 : decode cL_same 753 = .ok (.invokevirtual 65, 3) := by decide +kernel
theorem dL_same_756 : decode cL_same 756 = .ok (.iload 10, 2) := by decide +kernel
theorem dL_same_758 : decode cL_same 758 = .ok (.if_icmp .eq 5, 3) := by decide +kernel
theorem dL_same_761 : decode cL_same 761 = .ok (.iconst 0, 1) := by decide +kernel
theorem dL_same_762 : decode cL_same 762 = .ok (.ireturn, 1) := by decide +kernel
theorem dL_same_763 : decode cL_same 763 = .ok (.iinc 8 1, 3) := by decide +kernel
theorem dL_same_766 : decode cL_same 766 = .ok (.goto (-145), 3) := by decide +kernel
theorem dL_same_769 : decode cL_same 769 = .ok (.aload_n 0, 1) := by decide +kernel
theorem dL_same_770 : decode cL_same 770 = .ok (.iconst 0, 1) := by decide +kernel
theorem dL_same_771 : decode cL_same 771 = .ok (.invokevirtual 68, 3) := by decide +kernel
theorem dL_same_774 : decode cL_same 774 = .ok (.iload 6, 2) := by decide +kernel
theorem dL_same_776 : decode cL_same 776 = .ok (.if_icmp .ne 120, 3) := by decide +kernel
theorem dL_same_779 : decode cL_same 779 = .ok (.aload_n 0, 1) := by decide +kernel
theorem dL_same_780 : decode cL_same 780 = .ok (.iconst 1, 1) := by decide +kernel
theorem dL_same_781 : decode cL_same 781 = .ok (.invokevirtual 68, 3) := by decide +kernel
theorem dL_same_784 : decode cL_same 784 = .ok (.aload_n 1, 1) := by decide +kernel
theorem dL_same_785 : decode cL_same 785 = .ok (.iconst 0, 1) := by decide +kernel
theorem dL_same_786 : decode cL_same 786 = .ok (.iaload, 1) := by decide +kernel
theorem dL_same_787 : decode cL_same 787 = .ok (.if_icmp .ne 109, 3) := by decide +kernel
theorem dL_same_790 : decode cL_same 790 = .ok (.aload_n 0, 1) := by decide +kernel
theorem dL_same_791 : decode cL_same 791 = .ok (.iconst 2, 1) := by decide +kernel
theorem dL_same_792 : decode cL_same 792 = .ok (.invokevirtual 68, 3) := by decide +kernel
theorem dL_same_795 : decode cL_same 795 = .ok (.aload_n 1, 1) := by decide +kernel
theorem dL_same_796 : decode cL_same 796 = .ok (.iconst 1, 1) := by decide +kernel
theorem dL_same_797 : decode cL_same 797 = .ok (.iaload, 1) := by decide +kernel
theorem dL_same_798 : decode cL_same 798 = .ok (.if_icmp .ne 98, 3) := by decide +kernel
theorem dL_same_801 : decode cL_same 801 = .ok (.aload_n 0, 1) := by decide +kernel
theorem dL_same_802 : decode cL_same 802 = .ok (.iconst 3, 1) := by decide +kernel
theorem dL_same_803 : decode cL_same 803 = .ok (.invokevirtual 68, 3) := by decide +kernel
theorem dL_same_806 : decode cL_same 806 = .ok (.aload_n 1, 1) := by decide +kernel
theorem dL_same_807 : decode cL_same 807 = .ok (.iconst 2, 1) := by decide +kernel
theorem dL_same_808 : decode cL_same 808 = .ok (.iaload, 1) := by decide +kernel
theorem dL_same_809 : decode cL_same 809 = .ok (.if_icmp .ne 87, 3) := by decide +kernel
theorem dL_same_812 : decode cL_same 812 = .ok (.aload_n 0, 1) := by decide +kernel
theorem dL_same_813 : decode cL_same 813 = .ok (.iconst 4, 1) := by decide +kernel
theorem dL_same_814 : decode cL_same 814 = .ok (.invokevirtual 68, 3) := by decide +kernel
theorem dL_same_817 : decode cL_same 817 = .ok (.aload_n 1, 1) := by decide +kernel
theorem dL_same_818 : decode cL_same 818 = .ok (.iconst 3, 1) := by decide +kernel
theorem dL_same_819 : decode cL_same 819 = .ok (.iaload, 1) := by decide +kernel
theorem dL_same_820 : decode cL_same 820 = .ok (.if_icmp .ne 76, 3) := by decide +kernel
theorem dL_same_823 : decode cL_same 823 = .ok (.aload_n 0, 1) := by decide +kernel
theorem dL_same_824 : decode cL_same 824 = .ok (.iconst 5, 1) := by decide +kernel
theorem dL_same_825 : decode cL_same 825 = .ok (.invokevirtual 68, 3) := by decide +kernel
theorem dL_same_828 : decode cL_same 828 = .ok (.aload_n 1, 1) := by decide +kernel
theorem dL_same_829 : decode cL_same 829 = .ok (.iconst 4, 1) := by decide +kernel
theorem dL_same_830 : decode cL_same 830 = .ok (.iaload, 1) := by decide +kernel
theorem dL_same_831 : decode cL_same 831 = .ok (.if_icmp .ne 65, 3) := by decide +kernel
theorem dL_same_834 : decode cL_same 834 = .ok (.aload_n 0, 1) := by decide +kernel
theorem dL_same_835 : decode cL_same 835 = .ok (.bipush 6, 2) := by decide +kernel
theorem dL_same_837 : decode cL_same 837 = .ok (.invokevirtual 68, 3) := by decide +kernel
theorem dL_same_840 : decode cL_same 840 = .ok (.iload 7, 2) := by decide +kernel
theorem dL_same_842 : decode cL_same 842 = .ok (.if_icmp .ne 54, 3) := by decide +kernel
theorem dL_same_845 : decode cL_same 845 = .ok (.aload_n 0, 1) := by decide +kernel
theorem dL_same_846 : decode cL_same 846 = .ok (.iconst 0, 1) := by decide +kernel
theorem dL_same_847 : decode cL_same 847 = .ok (.invokevirtual 71, 3) := by decide +kernel
theorem dL_same_850 : decode cL_same 850 = .ok (.aload_n 1, 1) := by decide +kernel
theorem dL_same_851 : decode cL_same 851 = .ok (.iconst 5, 1) := by decide +kernel
theorem dL_same_852 : decode cL_same 852 = .ok (.iaload, 1) := by decide +kernel
theorem dL_same_853 : decode cL_same 853 = .ok (.if_icmp .ne 43, 3) := by decide +kernel
theorem dL_same_856 : decode cL_same 856 = .ok (.aload_n 0, 1) := by decide +kernel
theorem dL_same_857 : decode cL_same 857 = .ok (.iconst 1, 1) := by decide +kernel
theorem dL_same_858 : decode cL_same 858 = .ok (.invokevirtual 71, 3) := by decide +kernel
theorem dL_same_861 : decode cL_same 861 = .ok (.aload_n 1, 1) := by decide +kernel
theorem dL_same_862 : decode cL_same 862 = .ok (.bipush 6, 2) := by decide +kernel
theorem dL_same_864 : decode cL_same 864 = .ok (.iaload, 1) := by decide +kernel
theorem dL_same_865 : decode cL_same 865 = .ok (.if_icmp .ne 31, 3) := by decide +kernel
theorem dL_same_868 : decode cL_same 868 = .ok (.aload_n 0, 1) := by decide +kernel
theorem dL_same_869 : decode cL_same 869 = .ok (.iconst 2, 1) := by decide +kernel
theorem dL_same_870 : decode cL_same 870 = .ok (.invokevirtual 71, 3) := by decide +kernel
theorem dL_same_873 : decode cL_same 873 = .ok (.aload_n 1, 1) := by decide +kernel
theorem dL_same_874 : decode cL_same 874 = .ok (.bipush 7, 2) := by decide +kernel
theorem dL_same_876 : decode cL_same 876 = .ok (.iaload, 1) := by decide +kernel
theorem dL_same_877 : decode cL_same 877 = .ok (.if_icmp .ne 19, 3) := by decide +kernel
theorem dL_same_880 : decode cL_same 880 = .ok (.aload_n 0, 1) := by decide +kernel
theorem dL_same_881 : decode cL_same 881 = .ok (.iconst 3, 1) := by decide +kernel
theorem dL_same_882 : decode cL_same 882 = .ok (.invokevirtual 71, 3) := by decide +kernel
theorem dL_same_885 : decode cL_same 885 = .ok (.aload_n 1, 1) := by decide +kernel
theorem dL_same_886 : decode cL_same 886 = .ok (.bipush 8, 2) := by decide +kernel
theorem dL_same_888 : decode cL_same 888 = .ok (.iaload, 1) := by decide +kernel
theorem dL_same_889 : decode cL_same 889 = .ok (.if_icmp .ne 7, 3) := by decide +kernel
theorem dL_same_892 : decode cL_same 892 = .ok (.iconst 1, 1) := by decide +kernel
theorem dL_same_893 : decode cL_same 893 = .ok (.goto 4, 3) := by decide +kernel
theorem dL_same_896 : decode cL_same 896 = .ok (.iconst 0, 1) := by decide +kernel
theorem dL_same_897 : decode cL_same 897 = .ok (.ireturn, 1) := by decide +kernel
theorem dL_law_0 : decode cL_law 0 = .ok (.new 40, 3) := by decide +kernel
theorem dL_law_3 : decode cL_law 3 = .ok (.dup, 1) := by decide +kernel
theorem dL_law_4 : decode cL_law 4 = .ok (.invokespecial 74, 3) := by decide +kernel
theorem dL_law_7 : decode cL_law 7 = .ok (.astore_n 1, 1) := by decide +kernel
theorem dL_law_8 : decode cL_law 8 = .ok (.bipush 17, 2) := by decide +kernel
theorem dL_law_10 : decode cL_law 10 = .ok (.newarray .int, 2) := by decide +kernel
theorem dL_law_12 : decode cL_law 12 = .ok (.astore_n 2, 1) := by decide +kernel
theorem dL_law_13 : decode cL_law 13 = .ok (.bipush 60, 2) := by decide +kernel
theorem dL_law_15 : decode cL_law 15 = .ok (.newarray .int, 2) := by decide +kernel
theorem dL_law_17 : decode cL_law 17 = .ok (.astore_n 3, 1) := by decide +kernel
theorem dL_law_18 : decode cL_law 18 = .ok (.bipush 60, 2) := by decide +kernel
theorem dL_law_20 : decode cL_law 20 = .ok (.newarray .int, 2) := by decide +kernel
theorem dL_law_22 : decode cL_law 22 = .ok (.astore 4, 2) := by decide +kernel
theorem dL_law_24 : decode cL_law 24 = .ok (.bipush 60, 2) := by decide +kernel
theorem dL_law_26 : decode cL_law 26 = .ok (.newarray .int, 2) := by decide +kernel
theorem dL_law_28 : decode cL_law 28 = .ok (.astore 5, 2) := by decide +kernel
theorem dL_law_30 : decode cL_law 30 = .ok (.bipush 60, 2) := by decide +kernel
theorem dL_law_32 : decode cL_law 32 = .ok (.newarray .int, 2) := by decide +kernel
theorem dL_law_34 : decode cL_law 34 = .ok (.astore 6, 2) := by decide +kernel
theorem dL_law_36 : decode cL_law 36 = .ok (.aload_n 2, 1) := by decide +kernel
theorem dL_law_37 : decode cL_law 37 = .ok (.iconst 0, 1) := by decide +kernel
theorem dL_law_38 : decode cL_law 38 = .ok (.iconst 1, 1) := by decide +kernel
theorem dL_law_39 : decode cL_law 39 = .ok (.iastore, 1) := by decide +kernel
theorem dL_law_40 : decode cL_law 40 = .ok (.aload_n 2, 1) := by decide +kernel
theorem dL_law_41 : decode cL_law 41 = .ok (.iconst 5, 1) := by decide +kernel
theorem dL_law_42 : decode cL_law 42 = .ok (.iconst 4, 1) := by decide +kernel
theorem dL_law_43 : decode cL_law 43 = .ok (.iastore, 1) := by decide +kernel
theorem dL_law_44 : decode cL_law 44 = .ok (.aload_n 2, 1) := by decide +kernel
theorem dL_law_45 : decode cL_law 45 = .ok (.bipush 6, 2) := by decide +kernel
theorem dL_law_47 : decode cL_law 47 = .ok (.iconst 1, 1) := by decide +kernel
theorem dL_law_48 : decode cL_law 48 = .ok (.iastore, 1) := by decide +kernel
theorem dL_law_49 : decode cL_law 49 = .ok (.aload_n 2, 1) := by decide +kernel
theorem dL_law_50 : decode cL_law 50 = .ok (.bipush 7, 2) := by decide +kernel
theorem dL_law_52 : decode cL_law 52 = .ok (.bipush 60, 2) := by decide +kernel
theorem dL_law_54 : decode cL_law 54 = .ok (.iastore, 1) := by decide +kernel
theorem dL_law_55 : decode cL_law 55 = .ok (.aload_n 2, 1) := by decide +kernel
theorem dL_law_56 : decode cL_law 56 = .ok (.bipush 8, 2) := by decide +kernel
theorem dL_law_58 : decode cL_law 58 = .ok (.bipush 50, 2) := by decide +kernel
theorem dL_law_60 : decode cL_law 60 = .ok (.iastore, 1) := by decide +kernel
theorem dL_law_61 : decode cL_law 61 = .ok (.bipush 9, 2) := by decide +kernel
theorem dL_law_63 : decode cL_law 63 = .ok (.istore 7, 2) := by decide +kernel
theorem dL_law_65 : decode cL_law 65 = .ok (.iload 7, 2) := by decide +kernel
theorem dL_law_67 : decode cL_law 67 = .ok (.bipush 13, 2) := by decide +kernel
theorem dL_law_69 : decode cL_law 69 = .ok (.if_icmp .ge 14, 3) := by decide +kernel
theorem dL_law_72 : decode cL_law 72 = .ok (.aload_n 2, 1) := by decide +kernel
theorem dL_law_73 : decode cL_law 73 = .ok (.iload 7, 2) := by decide +kernel
theorem dL_law_75 : decode cL_law 75 = .ok (.iconst (-1), 1) := by decide +kernel
theorem dL_law_76 : decode cL_law 76 = .ok (.iastore, 1) := by decide +kernel
theorem dL_law_77 : decode cL_law 77 = .ok (.iinc 7 1, 3) := by decide +kernel
theorem dL_law_80 : decode cL_law 80 = .ok (.goto (-15), 3) := by decide +kernel
theorem dL_law_83 : decode cL_law 83 = .ok (.iconst 0, 1) := by decide +kernel
theorem dL_law_84 : decode cL_law 84 = .ok (.istore 7, 2) := by decide +kernel
theorem dL_law_86 : decode cL_law 86 = .ok (.iload 7, 2) := by decide +kernel
theorem dL_law_88 : decode cL_law 88 = .ok (.bipush 46, 2) := by decide +kernel
theorem dL_law_90 : decode cL_law 90 = .ok (.if_icmp .ge 1266, 3) := by decide +kernel
theorem dL_law_93 : decode cL_law 93 = .ok (.aload_n 0, 1) := by decide +kernel
theorem dL_law_94 : decode cL_law 94 = .ok (.iconst 2, 1) := by decide +kernel
theorem dL_law_95 : decode cL_law 95 = .ok (.iload 7, 2) := by decide +kernel
theorem dL_law_97 : decode cL_law 97 = .ok (.imul, 1) := by decide +kernel
theorem dL_law_98 : decode cL_law 98 = .ok (.invokestatic 75, 3) := by decide +kernel
theorem dL_law_101 : decode cL_law 101 = .ok (.istore 8, 2) := by decide +kernel
theorem dL_law_103 : decode cL_law 103 = .ok (.aload_n 0, 1) := by decide +kernel
theorem dL_law_104 : decode cL_law 104 = .ok (.iconst 2, 1) := by decide +kernel
theorem dL_law_105 : decode cL_law 105 = .ok (.iload 7, 2) := by decide +kernel
theorem dL_law_107 : decode cL_law 107 = .ok (.imul, 1) := by decide +kernel
theorem dL_law_108 : decode cL_law 108 = .ok (.iconst 1, 1) := by decide +kernel
theorem dL_law_109 : decode cL_law 109 = .ok (.iadd, 1) := by decide +kernel
theorem dL_law_110 : decode cL_law 110 = .ok (.invokestatic 75, 3) := by decide +kernel
theorem dL_law_113 : decode cL_law 113 = .ok (.istore 9, 2) := by decide +kernel
theorem dL_law_115 : decode cL_law 115 = .ok (.iload 7, 2) := by decide +kernel
theorem dL_law_117 : decode cL_law 117 = .ok (.iconst 3, 1) := by decide +kernel
theorem dL_law_118 : decode cL_law 118 = .ok (.if_icmp .ge 7, 3) := by decide +kernel
theorem dL_law_121 : decode cL_law 121 = .ok (.iconst 0, 1) := by decide +kernel
theorem dL_law_122 : decode cL_law 122 = .ok (.goto 22, 3) := by decide +kernel
theorem dL_law_125 : decode cL_law 125 = .ok (.iload 7, 2) := by decide +kernel
theorem dL_law_127 : decode cL_law 127 = .ok (.bipush 9, 2) := by decide +kernel
theorem dL_law_129 : decode cL_law 129 = .ok (.if_icmp .ge 8, 3) := by decide +kernel
theorem dL_law_132 : decode cL_law 132 = .ok (.bipush 6, 2) := by decide +kernel
theorem dL_law_134 : decode cL_law 134 = .ok (.goto 10, 3) := by decide +kernel
theorem dL_law_137 : decode cL_law 137 = .ok (.iload 8, 2) := by decide +kernel
theorem dL_law_139 : decode cL_law 139 = .ok (.bipush 22, 2) := by decide +kernel
theorem dL_law_141 : decode cL_law 141 = .ok (.invokestatic 79, 3) := by decide +kernel
theorem dL_law_144 : decode cL_law 144 = .ok (.istore 10, 2) := by decide +kernel
theorem dL_law_146 : decode cL_law 146 = .ok (.iload 9, 2) := by decide +kernel
theorem dL_law_148 : decode cL_law 148 = .ok (.iconst 4, 1) := by decide +kernel
theorem dL_law_149 : decode cL_law 149 = .ok (.invokestatic 79, 3) := by decide +kernel
theorem dL_law_152 : decode cL_law 152 = .ok (.istore 11, 2) := by decide +kernel
theorem dL_law_154 : decode cL_law 154 = .ok (.iload 9, 2) := by decide +kernel
theorem dL_law_156 : decode cL_law 156 = .ok (.iconst 2, 1) := by decide +kernel
theorem dL_law_157 : decode cL_law 157 = .ok (.ishr, 1) := by decide +kernel
theorem dL_law_158 : decode cL_law 158 = .ok (.iconst 4, 1) := by decide +kernel
theorem dL_law_159 : decode cL_law 159 = .ok (.invokestatic 79, 3) := by decide +kernel
theorem dL_law_162 : decode cL_law 162 = .ok (.istore 12, 2) := by decide +kernel
theorem dL_law_164 : decode cL_law 164 = .ok (.iload 9, 2) := by decide +kernel
theorem dL_law_166 : decode cL_law 166 = .ok (.iconst 4, 1) := by decide +kernel
theorem dL_law_167 : decode cL_law 167 = .ok (.ishr, 1) := by decide +kernel
theorem dL_law_168 : decode cL_law 168 = .ok (.bipush 6, 2) := by decide +kernel
theorem dL_law_170 : decode cL_law 170 = .ok (.invokestatic 79, 3) := by decide +kernel
theorem dL_law_173 : decode cL_law 173 = .ok (.istore 13, 2) := by decide +kernel
theorem dL_law_175 : decode cL_law 175 = .ok (.iload 9, 2) := by decide +kernel
theorem dL_law_177 : decode cL_law 177 = .ok (.bipush 7, 2) := by decide +kernel
theorem dL_law_179 : decode cL_law 179 = .ok (.ishr, 1) := by decide +kernel
theorem dL_law_180 : decode cL_law 180 = .ok (.iload 8, 2) := by decide +kernel
theorem dL_law_182 : decode cL_law 182 = .ok (.iconst 5, 1) := by decide +kernel
theorem dL_law_183 : decode cL_law 183 = .ok (.ishr, 1) := by decide +kernel
theorem dL_law_184 : decode cL_law 184 = .ok (.iconst 3, 1) := by decide +kernel
theorem dL_law_185 : decode cL_law 185 = .ok (.invokestatic 79, 3) := by decide +kernel
theorem dL_law_188 : decode cL_law 188 = .ok (.ifCond .ne 8, 3) := by decide +kernel
theorem dL_law_191 : decode cL_law 191 = .ok (.bipush 10, 2) := by decide +kernel
theorem dL_law_193 : decode cL_law 193 = .ok (.goto 4, 3) := by decide +kernel
theorem dL_law_196 : decode cL_law 196 = .ok (.iconst 4, 1) := by decide +kernel
theorem dL_law_197 : decode cL_law 197 = .ok (.invokestatic 79, 3) := by decide +kernel
theorem dL_law_200 : decode cL_law 200 = .ok (.istore 14, 2) := by decide +kernel
theorem dL_law_202 : decode cL_law 202 = .ok (.aload_n 2, 1) := by decide +kernel
theorem dL_law_203 : decode cL_law 203 = .ok (.bipush 9, 2) := by decide +kernel
theorem dL_law_205 : decode cL_law 205 = .ok (.iload 11, 2) := by decide +kernel
theorem dL_law_207 : decode cL_law 207 = .ok (.iadd, 1) := by decide +kernel
theorem dL_law_208 : decode cL_law 208 = .ok (.iaload, 1) := by decide +kernel
theorem dL_law_209 : decode cL_law 209 = .ok (.ifCond .lt 7, 3) := by decide +kernel
theorem dL_law_212 : decode cL_law 212 = .ok (.iconst 1, 1) := by decide +kernel
theorem dL_law_213 : decode cL_law 213 = .ok (.goto 4, 3) := by decide +kernel
theorem dL_law_216 : decode cL_law 216 = .ok (.iconst 0, 1) := by decide +kernel
theorem dL_law_217 : decode cL_law 217 = .ok (.istore 15, 2) := by decide +kernel
theorem dL_law_219 : decode cL_law 219 = .ok (.iload 15, 2) := by decide +kernel
theorem dL_law_221 : decode cL_law 221 = .ok (.ifCond .eq 17, 3) := by decide +kernel
theorem dL_law_224 : decode cL_law 224 = .ok (.aload_n 2, 1) := by decide +kernel
theorem dL_law_225 : decode cL_law 225 = .ok (.bipush 9, 2) := by decide +kernel
theorem dL_law_227 : decode cL_law 227 = .ok (.iload 12, 2) := by decide +kernel
theorem dL_law_229 : decode cL_law 229 = .ok (.iadd, 1) := by decide +kernel
theorem dL_law_230 : decode cL_law 230 = .ok (.iaload, 1) := by decide +kernel
theorem dL_law_231 : decode cL_law 231 = .ok (.ifCond .lt 7, 3) := by decide +kernel
theorem dL_law_234 : decode cL_law 234 = .ok (.iconst 1, 1) := by decide +kernel
theorem dL_law_235 : decode cL_law 235 = .ok (.goto 4, 3) := by decide +kernel
theorem dL_law_238 : decode cL_law 238 = .ok (.iconst 0, 1) := by decide +kernel
theorem dL_law_239 : decode cL_law 239 = .ok (.istore 16, 2) := by decide +kernel
theorem dL_law_241 : decode cL_law 241 = .ok (.iload 11, 2) := by decide +kernel
theorem dL_law_243 : decode cL_law 243 = .ok (.aload_n 3, 1) := by decide +kernel
theorem dL_law_244 : decode cL_law 244 = .ok (.aload 4, 2) := by decide +kernel
theorem dL_law_246 : decode cL_law 246 = .ok (.aload 5, 2) := by decide +kernel
theorem dL_law_248 : decode cL_law 248 = .ok (.aload 6, 2) := by decide +kernel
theorem dL_law_250 : decode cL_law 250 = .ok (.invokestatic 35, 3) := by decide +kernel
theorem dL_law_253 : decode cL_law 253 = .ok (.astore 17, 2) := by decide +kernel
theorem dL_law_255 : decode cL_law 255 = .ok (.iload 12, 2) := by decide +kernel
theorem dL_law_257 : decode cL_law 257 = .ok (.aload_n 3, 1) := by decide +kernel
theorem dL_law_258 : decode cL_law 258 = .ok (.aload 4, 2) := by decide +kernel
theorem dL_law_260 : decode cL_law 260 = .ok (.aload 5, 2) := by decide +kernel
theorem dL_law_262 : decode cL_law 262 = .ok (.aload 6, 2) := by decide +kernel
theorem dL_law_264 : decode cL_law 264 = .ok (.invokestatic 35, 3) := by decide +kernel
theorem dL_law_267 : decode cL_law 267 = .ok (.astore 18, 2) := by decide +kernel
theorem dL_law_269 : decode cL_law 269 = .ok (.iload 10, 2) := by decide +kernel
theorem dL_law_271 : decode cL_law 271 = .ok (.ifCond .ne 67, 3) := by decide +kernel
theorem dL_law_274 : decode cL_law 274 = .ok (.iconst 0, 1) := by decide +kernel
theorem dL_law_275 : decode cL_law 275 = .ok (.istore 19, 2) := by decide +kernel
theorem dL_law_277 : decode cL_law 277 = .ok (.iload 19, 2) := by decide +kernel
theorem dL_law_279 : decode cL_law 279 = .ok (.iconst 4, 1) := by decide +kernel
theorem dL_law_280 : decode cL_law 280 = .ok (.if_icmp .ge 19, 3) := by decide +kernel
theorem dL_law_283 : decode cL_law 283 = .ok (.aload_n 2, 1) := by decide +kernel
theorem dL_law_284 : decode cL_law 284 = .ok (.bipush 9, 2) := by decide +kernel
theorem dL_law_286 : decode cL_law 286 = .ok (.iload 19, 2) := by decide +kernel
theorem dL_law_288 : decode cL_law 288 = .ok (.iadd, 1) := by decide +kernel
theorem dL_law_289 : decode cL_law 289 = .ok (.iaload, 1) := by decide +kernel
theorem dL_law_290 : decode cL_law 290 = .ok (.ifCond .lt 9, 3) := by decide +kernel
theorem dL_law_293 : decode cL_law 293 = .ok (.iinc 19 1, 3) := by decide +kernel
theorem dL_law_296 : decode cL_law 296 = .ok (.goto (-19), 3) := by decide +kernel
theorem dL_law_299 : decode cL_law 299 = .ok (.iload 19, 2) := by decide +kernel
theorem dL_law_301 : decode cL_law 301 = .ok (.iconst 4, 1) := by decide +kernel
theorem dL_law_302 : decode cL_law 302 = .ok (.if_icmp .ne 6, 3) := by decide +kernel
theorem dL_law_305 : decode cL_law 305 = .ok (.goto 1045, 3) := by decide +kernel
theorem dL_law_308 : decode cL_law 308 = .ok (.aload_n 1, 1) := by decide +kernel
theorem dL_law_309 : decode cL_law 309 = .ok (.invokevirtual 82, 3) := by decide +kernel
theorem dL_law_312 : decode cL_law 312 = .ok (.iload 19, 2) := by decide +kernel
theorem dL_law_314 : decode cL_law 314 = .ok (.if_icmp .eq 5, 3) := by decide +kernel
theorem dL_law_317 : decode cL_law 317 = .ok (.iconst 0, 1) := by decide +kernel
theorem dL_law_318 : decode cL_law 318 = .ok (.ireturn, 1) := by decide +kernel
theorem dL_law_319 : decode cL_law 319 = .ok (.aload_n 2, 1) := by decide +kernel
theorem dL_law_320 : decode cL_law 320 = .ok (.bipush 9, 2) := by decide +kernel
theorem dL_law_322 : decode cL_law 322 = .ok (.iload 19, 2) := by decide +kernel
theorem dL_law_324 : decode cL_law 324 = .ok (.iadd, 1) := by decide +kernel
theorem dL_law_325 : decode cL_law 325 = .ok (.iconst 0, 1) := by decide +kernel
theorem dL_law_326 : decode cL_law 326 = .ok (.iastore, 1) := by decide +kernel
theorem dL_law_327 : decode cL_law 327 = .ok (.aload_n 2, 1) := by decide +kernel
theorem dL_law_328 : decode cL_law 328 = .ok (.bipush 13, 2) := by decide +kernel
theorem dL_law_330 : decode cL_law 330 = .ok (.iload 19, 2) := by decide +kernel
theorem dL_law_332 : decode cL_law 332 = .ok (.iadd, 1) := by decide +kernel
theorem dL_law_333 : decode cL_law 333 = .ok (.iconst 0, 1) := by decide +kernel
theorem dL_law_334 : decode cL_law 334 = .ok (.iastore, 1) := by decide +kernel
theorem dL_law_335 : decode cL_law 335 = .ok (.goto 998, 3) := by decide +kernel
theorem dL_law_338 : decode cL_law 338 = .ok (.iload 10, 2) := by decide +kernel
theorem dL_law_340 : decode cL_law 340 = .ok (.iconst 1, 1) := by decide +kernel
theorem dL_law_341 : decode cL_law 341 = .ok (.if_icmp .ne 110, 3) := by decide +kernel
theorem dL_law_344 : decode cL_law 344 = .ok (.iconst (-1), 1) := by decide +kernel
theorem dL_law_345 : decode cL_law 345 = .ok (.istore 19, 2) := by decide +kernel
theorem dL_law_347 : decode cL_law 347 = .ok (.bipush 9, 2) := by decide +kernel
theorem dL_law_349 : decode cL_law 349 = .ok (.istore 20, 2) := by decide +kernel
theorem dL_law_351 : decode cL_law 351 = .ok (.iload 20, 2) := by decide +kernel
theorem dL_law_353 : decode cL_law 353 = .ok (.bipush 13, 2) := by decide +kernel
theorem dL_law_355 : decode cL_law 355 = .ok (.if_icmp .ge 26, 3) := by decide +kernel
theorem dL_law_358 : decode cL_law 358 = .ok (.iload 19, 2) := by decide +kernel
theorem dL_law_360 : decode cL_law 360 = .ok (.aload_n 2, 1) := by decide +kernel
theorem dL_law_361 : decode cL_law 361 = .ok (.iload 20, 2) := by decide +kernel
theorem dL_law_363 : decode cL_law 363 = .ok (.iaload, 1) := by decide +kernel
theorem dL_law_364 : decode cL_law 364 = .ok (.ifCond .lt 7, 3) := by decide +kernel
theorem dL_law_367 : decode cL_law 367 = .ok (.iconst 1, 1) := by decide +kernel
theorem dL_law_368 : decode cL_law 368 = .ok (.goto 4, 3) := by decide +kernel
theorem dL_law_371 : decode cL_law 371 = .ok (.iconst 0, 1) := by decide +kernel
theorem dL_law_372 : decode cL_law 372 = .ok (.iadd, 1) := by decide +kernel
theorem dL_law_373 : decode cL_law 373 = .ok (.istore 19, 2) := by decide +kernel
theorem dL_law_375 : decode cL_law 375 = .ok (.iinc 20 1, 3) := by decide +kernel
theorem dL_law_378 : decode cL_law 378 = .ok (.goto (-27), 3) := by decide +kernel
theorem dL_law_381 : decode cL_law 381 = .ok (.iload 9, 2) := by decide +kernel
theorem dL_law_383 : decode cL_law 383 = .ok (.bipush 6, 2) := by decide +kernel
theorem dL_law_385 : decode cL_law 385 = .ok (.ishr, 1) := by decide +kernel
theorem dL_law_386 : decode cL_law 386 = .ok (.iconst 3, 1) := by decide +kernel
theorem dL_law_387 : decode cL_law 387 = .ok (.invokestatic 79, 3) := by decide +kernel
theorem dL_law_390 : decode cL_law 390 = .ok (.ifCond .le 6, 3) := by decide +kernel
theorem dL_law_393 : decode cL_law 393 = .ok (.goto 957, 3) := by decide +kernel
theorem dL_law_396 : decode cL_law 396 = .ok (.aload_n 1, 1) := by decide +kernel
theorem dL_law_397 : decode cL_law 397 = .ok (.iload 11, 2) := by decide +kernel
theorem dL_law_399 : decode cL_law 399 = .ok (.invokevirtual 86, 3) := by decide +kernel
theorem dL_law_402 : decode cL_law 402 = .ok (.iload 15, 2) := by decide +kernel
theorem dL_law_404 : decode cL_law 404 = .ok (.ifCond .eq 8, 3) := by decide +kernel
theorem dL_law_407 : decode cL_law 407 = .ok (.iload 19, 2) := by decide +kernel
theorem dL_law_409 : decode cL_law 409 = .ok (.goto 4, 3) := by decide +kernel
theorem dL_law_412 : decode cL_law 412 = .ok (.iconst (-1), 1) := by decide +kernel
theorem dL_law_413 : decode cL_law 413 = .ok (.if_icmp .eq 5, 3) := by decide +kernel
theorem dL_law_416 : decode cL_law 416 = .ok (.iconst 0, 1) := by decide +kernel
theorem dL_law_417 : decode cL_law 417 = .ok (.ireturn, 1) := by decide +kernel
theorem dL_law_418 : decode cL_law 418 = .ok (.aload_n 2, 1) := by decide +kernel
theorem dL_law_419 : decode cL_law 419 = .ok (.bipush 9, 2) := by decide +kernel
theorem dL_law_421 : decode cL_law 421 = .ok (.iload 11, 2) := by decide +kernel
theorem dL_law_423 : decode cL_law 423 = .ok (.iadd, 1) := by decide +kernel
theorem dL_law_424 : decode cL_law 424 = .ok (.iconst (-1), 1) := by decide +kernel
theorem dL_law_425 : decode cL_law 425 = .ok (.iastore, 1) := by decide +kernel
theorem dL_law_426 : decode cL_law 426 = .ok (.iconst 0, 1) := by decide +kernel
theorem dL_law_427 : decode cL_law 427 = .ok (.istore 20, 2) := by decide +kernel
theorem dL_law_429 : decode cL_law 429 = .ok (.iload 20, 2) := by decide +kernel
theorem dL_law_431 : decode cL_law 431 = .ok (.bipush 60, 2) := by decide +kernel
theorem dL_law_433 : decode cL_law 433 = .ok (.if_icmp .ge 15, 3) := by decide +kernel
theorem dL_law_436 : decode cL_law 436 = .ok (.aload 17, 2) := by decide +kernel
theorem dL_law_438 : decode cL_law 438 = .ok (.iload 20, 2) := by decide +kernel
theorem dL_law_440 : decode cL_law 440 = .ok (.iconst 0, 1) := by decide +kernel
theorem dL_law_441 : decode cL_law 441 = .ok (.iastore, 1) := by decide +kernel
theorem dL_law_442 : decode cL_law 442 = .ok (.iinc 20 1, 3) := by decide +kernel
theorem dL_law_445 : decode cL_law 445 = .ok (.goto (-16), 3) := by decide +kernel
theorem dL_law_448 : decode cL_law 448 = .ok (.goto 885, 3) := by decide +kernel
theorem dL_law_451 : decode cL_law 451 = .ok (.iload 10, 2) := by decide +kernel
theorem dL_law_453 : decode cL_law 453 = .ok (.iconst 2, 1) := by decide +kernel
theorem dL_law_454 : decode cL_law 454 = .ok (.if_icmp .ne 109, 3) := by decide +kernel
theorem dL_law_457 : decode cL_law 457 = .ok (.iload 9, 2) := by decide +kernel
theorem dL_law_459 : decode cL_law 459 = .ok (.iconst 4, 1) := by decide +kernel
theorem dL_law_460 : decode cL_law 460 = .ok (.invokestatic 79, 3) := by decide +kernel
theorem dL_law_463 : decode cL_law 463 = .ok (.istore 19, 2) := by decide +kernel
theorem dL_law_465 : decode cL_law 465 = .ok (.iload 19, 2) := by decide +kernel
theorem dL_law_467 : decode cL_law 467 = .ok (.ifCond .ne 17, 3) := by decide +kernel
theorem dL_law_470 : decode cL_law 470 = .ok (.iconst 1, 1) := by decide +kernel
theorem dL_law_471 : decode cL_law 471 = .ok (.iload 9, 2) := by decide +kernel
theorem dL_law_473 : decode cL_law 473 = .ok (.iconst 3, 1) := by decide +kernel
theorem dL_law_474 : decode cL_law 474 = .ok (.ishr, 1) := by decide +kernel
theorem dL_law_475 : decode cL_law 475 = .ok (.bipush 9, 2) := by decide +kernel
theorem dL_law_477 : decode cL_law 477 = .ok (.invokestatic 79, 3) := by decide +kernel
theorem dL_law_480 : decode cL_law 480 = .ok (.iadd, 1) := by decide +kernel
theorem dL_law_481 : decode cL_law 481 = .ok (.goto 50, 3) := by decide +kernel
theorem dL_law_484 : decode cL_law 484 = .ok (.iload 19, 2) := by decide +kernel
theorem dL_law_486 : decode cL_law 486 = .ok (.iconst 1, 1) := by decide +kernel
theorem dL_law_487 : decode cL_law 487 = .ok (.if_icmp .ne 15, 3) := by decide +kernel
theorem dL_law_490 : decode cL_law 490 = .ok (.iload 9, 2) := by decide +kernel
theorem dL_law_492 : decode cL_law 492 = .ok (.iconst 3, 1) := by decide +kernel
theorem dL_law_493 : decode cL_law 493 = .ok (.ishr, 1) := by decide +kernel
theorem dL_law_494 : decode cL_law 494 = .ok (.bipush 10, 2) := by decide +kernel
theorem dL_law_496 : decode cL_law 496 = .ok (.invokestatic 79, 3) := by decide +kernel
theorem dL_law_499 : decode cL_law 499 = .ok (.goto 32, 3) := by decide +kernel
theorem dL_law_502 : decode cL_law 502 = .ok (.iload 19, 2) := by decide +kernel
theorem dL_law_504 : decode cL_law 504 = .ok (.iconst 2, 1) := by decide +kernel
theorem dL_law_505 : decode cL_law 505 = .ok (.if_icmp .ne 17, 3) := by decide +kernel
theorem dL_law_508 : decode cL_law 508 = .ok (.iconst 5, 1) := by decide +kernel
theorem dL_law_509 : decode cL_law 509 = .ok (.iload 9, 2) := by decide +kernel
theorem dL_law_511 : decode cL_law 511 = .ok (.iconst 3, 1) := by decide +kernel
theorem dL_law_512 : decode cL_law 512 = .ok (.ishr, 1) := by decide +kernel
theorem dL_law_513 : decode cL_law 513 = .ok (.bipush 95, 2) := by decide +kernel
theorem dL_law_515 : decode cL_law 515 = .ok (.invokestatic 79, 3) := by decide +kernel
theorem dL_law_518 : decode cL_law 518 = .ok (.iadd, 1) := by decide +kernel
theorem dL_law_519 : decode cL_law 519 = .ok (.goto 12, 3) := by decide +kernel
theorem dL_law_522 : decode cL_law 522 = .ok (.iload 9, 2) := by decide +kernel
theorem dL_law_524 : decode cL_law 524 = .ok (.iconst 3, 1) := by decide +kernel
theorem dL_law_525 : decode cL_law 525 = .ok (.ishr, 1) := by decide +kernel
theorem dL_law_526 : decode cL_law 526 = .ok (.bipush 101, 2) := by decide +kernel
theorem dL_law_528 : decode cL_law 528 = .ok (.invokestatic 79, 3) := by decide +kernel
theorem dL_law_531 : decode cL_law 531 = .ok (.istore 20, 2) := by decide +kernel
theorem dL_law_533 : decode cL_law 533 = .ok (.aload_n 1, 1) := by decide +kernel
theorem dL_law_534 : decode cL_law 534 = .ok (.iload 19, 2) := by decide +kernel
theorem dL_law_536 : decode cL_law 536 = .ok (.iload 20, 2) := by decide +kernel
theorem dL_law_538 : decode cL_law 538 = .ok (.invokevirtual 89, 3) := by decide +kernel
theorem dL_law_541 : decode cL_law 541 = .ok (.aload_n 2, 1) := by decide +kernel
theorem dL_law_542 : decode cL_law 542 = .ok (.iconst 5, 1) := by decide +kernel
theorem dL_law_543 : decode cL_law 543 = .ok (.iload 19, 2) := by decide +kernel
theorem dL_law_545 : decode cL_law 545 = .ok (.iadd, 1) := by decide +kernel
theorem dL_law_546 : decode cL_law 546 = .ok (.iaload, 1) := by decide +kernel
theorem dL_law_547 : decode cL_law 547 = .ok (.if_icmp .eq 5, 3) := by decide +kernel
theorem dL_law_550 : decode cL_law 550 = .ok (.iconst 0, 1) := by decide +kernel
theorem dL_law_551 : decode cL_law 551 = .ok (.ireturn, 1) := by decide +kernel
theorem dL_law_552 : decode cL_law 552 = .ok (.aload_n 2, 1) := by decide +kernel
theorem dL_law_553 : decode cL_law 553 = .ok (.iconst 5, 1) := by decide +kernel
theorem dL_law_554 : decode cL_law 554 = .ok (.iload 19, 2) := by decide +kernel
theorem dL_law_556 : decode cL_law 556 = .ok (.iadd, 1) := by decide +kernel
theorem dL_law_557 : decode cL_law 557 = .ok (.iload 20, 2) := by decide +kernel
theorem dL_law_559 : decode cL_law 559 = .ok (.iastore, 1) := by decide +kernel
theorem dL_law_560 : decode cL_law 560 = .ok (.goto 773, 3) := by decide +kernel
theorem dL_law_563 : decode cL_law 563 = .ok (.iload 10, 2) := by decide +kernel
theorem dL_law_565 : decode cL_law 565 = .ok (.iconst 3, 1) := by decide +kernel
theorem dL_law_566 : decode cL_law 566 = .ok (.if_icmp .ne 34, 3) := by decide +kernel
theorem dL_law_569 : decode cL_law 569 = .ok (.iload 9, 2) := by decide +kernel
theorem dL_law_571 : decode cL_law 571 = .ok (.ldc 92, 2) := by decide +kernel
theorem dL_law_573 : decode cL_law 573 = .ok (.invokestatic 79, 3) := by decide +kernel
theorem dL_law_576 : decode cL_law 576 = .ok (.istore 19, 2) := by decide +kernel
theorem dL_law_578 : decode cL_law 578 = .ok (.aload_n 1, 1) := by decide +kernel
theorem dL_law_579 : decode cL_law 579 = .ok (.iload 19, 2) := by decide +kernel
theorem dL_law_581 : decode cL_law 581 = .ok (.invokevirtual 93, 3) := by decide +kernel
theorem dL_law_584 : decode cL_law 584 = .ok (.aload_n 2, 1) := by decide +kernel
theorem dL_law_585 : decode cL_law 585 = .ok (.iconst 0, 1) := by decide +kernel
theorem dL_law_586 : decode cL_law 586 = .ok (.iaload, 1) := by decide +kernel
theorem dL_law_587 : decode cL_law 587 = .ok (.if_icmp .eq 5, 3) := by decide +kernel
theorem dL_law_590 : decode cL_law 590 = .ok (.iconst 0, 1) := by decide +kernel
theorem dL_law_591 : decode cL_law 591 = .ok (.ireturn, 1) := by decide +kernel
theorem dL_law_592 : decode cL_law 592 = .ok (.aload_n 2, 1) := by decide +kernel
theorem dL_law_593 : decode cL_law 593 = .ok (.iconst 0, 1) := by decide +kernel
theorem dL_law_594 : decode cL_law 594 = .ok (.iload 19, 2) := by decide +kernel
theorem dL_law_596 : decode cL_law 596 = .ok (.iastore, 1) := by decide +kernel
theorem dL_law_597 : decode cL_law 597 = .ok (.goto 736, 3) := by decide +kernel
theorem dL_law_600 : decode cL_law 600 = .ok (.iload 10, 2) := by decide +kernel
theorem dL_law_602 : decode cL_law 602 = .ok (.iconst 4, 1) := by decide +kernel
theorem dL_law_603 : decode cL_law 603 = .ok (.if_icmp .ne 64, 3) := by decide +kernel
theorem dL_law_606 : decode cL_law 606 = .ok (.iload 9, 2) := by decide +kernel
theorem dL_law_608 : decode cL_law 608 = .ok (.iconst 3, 1) := by decide +kernel
theorem dL_law_609 : decode cL_law 609 = .ok (.ishr, 1) := by decide +kernel
theorem dL_law_610 : decode cL_law 610 = .ok (.bipush 100, 2) := by decide +kernel
theorem dL_law_612 : decode cL_law 612 = .ok (.invokestatic 79, 3) := by decide +kernel
theorem dL_law_615 : decode cL_law 615 = .ok (.istore 19, 2) := by decide +kernel
theorem dL_law_617 : decode cL_law 617 = .ok (.aload_n 1, 1) := by decide +kernel
theorem dL_law_618 : decode cL_law 618 = .ok (.iload 11, 2) := by decide +kernel
theorem dL_law_620 : decode cL_law 620 = .ok (.iload 19, 2) := by decide +kernel
theorem dL_law_622 : decode cL_law 622 = .ok (.invokevirtual 96, 3) := by decide +kernel
theorem dL_law_625 : decode cL_law 625 = .ok (.iload 15, 2) := by decide +kernel
theorem dL_law_627 : decode cL_law 627 = .ok (.ifCond .eq 13, 3) := by decide +kernel
theorem dL_law_630 : decode cL_law 630 = .ok (.aload_n 2, 1) := by decide +kernel
theorem dL_law_631 : decode cL_law 631 = .ok (.bipush 9, 2) := by decide +kernel
theorem dL_law_633 : decode cL_law 633 = .ok (.iload 11, 2) := by decide +kernel
theorem dL_law_635 : decode cL_law 635 = .ok (.iadd, 1) := by decide +kernel
theorem dL_law_636 : decode cL_law 636 = .ok (.iaload, 1) := by decide +kernel
theorem dL_law_637 : decode cL_law 637 = .ok (.goto 4, 3) := by decide +kernel
theorem dL_law_640 : decode cL_law 640 = .ok (.iconst (-1), 1) := by decide +kernel
theorem dL_law_641 : decode cL_law 641 = .ok (.if_icmp .eq 5, 3) := by decide +kernel
theorem dL_law_644 : decode cL_law 644 = .ok (.iconst 0, 1) := by decide +kernel
theorem dL_law_645 : decode cL_law 645 = .ok (.ireturn, 1) := by decide +kernel
theorem dL_law_646 : decode cL_law 646 = .ok (.aload_n 2, 1) := by decide +kernel
theorem dL_law_647 : decode cL_law 647 = .ok (.bipush 9, 2) := by decide +kernel
theorem dL_law_649 : decode cL_law 649 = .ok (.iload 11, 2) := by decide +kernel
theorem dL_law_651 : decode cL_law 651 = .ok (.iadd, 1) := by decide +kernel
theorem dL_law_652 : decode cL_law 652 = .ok (.iload 15, 2) := by decide +kernel
theorem dL_law_654 : decode cL_law 654 = .ok (.ifCond .eq 8, 3) := by decide +kernel
theorem dL_law_657 : decode cL_law 657 = .ok (.iload 19, 2) := by decide +kernel
theorem dL_law_659 : decode cL_law 659 = .ok (.goto 4, 3) := by decide +kernel
theorem dL_law_662 : decode cL_law 662 = .ok (.iconst (-1), 1) := by decide +kernel
theorem dL_law_663 : decode cL_law 663 = .ok (.iastore, 1) := by decide +kernel
theorem dL_law_664 : decode cL_law 664 = .ok (.goto 669, 3) := by decide +kernel
theorem dL_law_667 : decode cL_law 667 = .ok (.iload 10, 2) := by decide +kernel
theorem dL_law_669 : decode cL_law 669 = .ok (.bipush 10, 2) := by decide +kernel
theorem dL_law_671 : decode cL_law 671 = .ok (.if_icmp .ge 102, 3) := by decide +kernel
theorem dL_law_674 : decode cL_law 674 = .ok (.iload 8, 2) := by decide +kernel
theorem dL_law_676 : decode cL_law 676 = .ok (.bipush 6, 2) := by decide +kernel
theorem dL_law_678 : decode cL_law 678 = .ok (.ishr, 1) := by decide +kernel
theorem dL_law_679 : decode cL_law 679 = .ok (.iconst 3, 1) := by decide +kernel
theorem dL_law_680 : decode cL_law 680 = .ok (.invokestatic 79, 3) := by decide +kernel
theorem dL_law_683 : decode cL_law 683 = .ok (.ifCond .ne 16, 3) := by decide +kernel
theorem dL_law_686 : decode cL_law 686 = .ok (.iload 8, 2) := by decide +kernel
theorem dL_law_688 : decode cL_law 688 = .ok (.bipush 8, 2) := by decide +kernel
theorem dL_law_690 : decode cL_law 690 = .ok (.ishr, 1) := by decide +kernel
theorem dL_law_691 : decode cL_law 691 = .ok (.bipush 100, 2) := by decide +kernel
theorem dL_law_693 : decode cL_law 693 = .ok (.invokestatic 79, 3) := by decide +kernel
theorem dL_law_696 : decode cL_law 696 = .ok (.goto 13, 3) := by decide +kernel
theorem dL_law_699 : decode cL_law 699 = .ok (.iload 8, 2) := by decide +kernel
theorem dL_law_701 : decode cL_law 701 = .ok (.bipush 8, 2) := by decide +kernel
theorem dL_law_703 : decode cL_law 703 = .ok (.ishr, 1) := by decide +kernel
theorem dL_law_704 : decode cL_law 704 = .ok (.bipush 12, 2) := by decide +kernel
theorem dL_law_706 : decode cL_law 706 = .ok (.invokestatic 79, 3) := by decide +kernel
theorem dL_law_709 : decode cL_law 709 = .ok (.istore 19, 2) := by decide +kernel
theorem dL_law_711 : decode cL_law 711 = .ok (.aload_n 1, 1) := by decide +kernel
theorem dL_law_712 : decode cL_law 712 = .ok (.iload 11, 2) := by decide +kernel
theorem dL_law_714 : decode cL_law 714 = .ok (.iload 13, 2) := by decide +kernel
theorem dL_law_716 : decode cL_law 716 = .ok (.iload 14, 2) := by decide +kernel
theorem dL_law_718 : decode cL_law 718 = .ok (.iload 19, 2) := by decide +kernel
theorem dL_law_720 : decode cL_law 720 = .ok (.invokevirtual 99, 3) := by decide +kernel
theorem dL_law_723 : decode cL_law 723 = .ok (.iload 15, 2) := by decide +kernel
theorem dL_law_725 : decode cL_law 725 = .ok (.ifCond .eq 17, 3) := by decide +kernel
theorem dL_law_728 : decode cL_law 728 = .ok (.aload 17, 2) := by decide +kernel
theorem dL_law_730 : decode cL_law 730 = .ok (.bipush 10, 2) := by decide +kernel
theorem dL_law_732 : decode cL_law 732 = .ok (.iload 13, 2) := by decide +kernel
theorem dL_law_734 : decode cL_law 734 = .ok (.imul, 1) := by decide +kernel
theorem dL_law_735 : decode cL_law 735 = .ok (.iload 14, 2) := by decide +kernel
theorem dL_law_737 : decode cL_law 737 = .ok (.iadd, 1) := by decide +kernel
theorem dL_law_738 : decode cL_law 738 = .ok (.iaload, 1) := by decide +kernel
theorem dL_law_739 : decode cL_law 739 = .ok (.goto 4, 3) := by decide +kernel
theorem dL_law_742 : decode cL_law 742 = .ok (.iconst (-1), 1) := by decide +kernel
theorem dL_law_743 : decode cL_law 743 = .ok (.if_icmp .eq 5, 3) := by decide +kernel
theorem dL_law_746 : decode cL_law 746 = .ok (.iconst 0, 1) := by decide +kernel
theorem dL_law_747 : decode cL_law 747 = .ok (.ireturn, 1) := by decide +kernel
theorem dL_law_748 : decode cL_law 748 = .ok (.aload 17, 2) := by decide +kernel
theorem dL_law_750 : decode cL_law 750 = .ok (.bipush 10, 2) := by decide +kernel
theorem dL_law_752 : decode cL_law 752 = .ok (.iload 13, 2) := by decide +kernel
theorem dL_law_754 : decode cL_law 754 = .ok (.imul, 1) := by decide +kernel
theorem dL_law_755 : decode cL_law 755 = .ok (.iload 14, 2) := by decide +kernel
theorem dL_law_757 : decode cL_law 757 = .ok (.iadd, 1) := by decide +kernel
theorem dL_law_758 : decode cL_law 758 = .ok (.iload 15, 2) := by decide +kernel
theorem dL_law_760 : decode cL_law 760 = .ok (.ifCond .eq 8, 3) := by decide +kernel
theorem dL_law_763 : decode cL_law 763 = .ok (.iload 19, 2) := by decide +kernel
theorem dL_law_765 : decode cL_law 765 = .ok (.goto 4, 3) := by decide +kernel
theorem dL_law_768 : decode cL_law 768 = .ok (.iconst 0, 1) := by decide +kernel
theorem dL_law_769 : decode cL_law 769 = .ok (.iastore, 1) := by decide +kernel
theorem dL_law_770 : decode cL_law 770 = .ok (.goto 563, 3) := by decide +kernel
theorem dL_law_773 : decode cL_law 773 = .ok (.iload 10, 2) := by decide +kernel
theorem dL_law_775 : decode cL_law 775 = .ok (.bipush 19, 2) := by decide +kernel
theorem dL_law_777 : decode cL_law 777 = .ok (.if_icmp .ge 234, 3) := by decide +kernel
theorem dL_law_780 : decode cL_law 780 = .ok (.iload 16, 2) := by decide +kernel
theorem dL_law_782 : decode cL_law 782 = .ok (.ifCond .eq 23, 3) := by decide +kernel
theorem dL_law_785 : decode cL_law 785 = .ok (.iload 11, 2) := by decide +kernel
theorem dL_law_787 : decode cL_law 787 = .ok (.iload 12, 2) := by decide +kernel
theorem dL_law_789 : decode cL_law 789 = .ok (.if_icmp .eq 16, 3) := by decide +kernel
theorem dL_law_792 : decode cL_law 792 = .ok (.iload 13, 2) := by decide +kernel
theorem dL_law_794 : decode cL_law 794 = .ok (.aload 17, 2) := by decide +kernel
theorem dL_law_796 : decode cL_law 796 = .ok (.invokestatic 16, 3) := by decide +kernel
theorem dL_law_799 : decode cL_law 799 = .ok (.ifCond .ge 6, 3) := by decide +kernel
theorem dL_law_802 : decode cL_law 802 = .ok (.goto 548, 3) := by decide +kernel
theorem dL_law_805 : decode cL_law 805 = .ok (.iload 16, 2) := by decide +kernel
theorem dL_law_807 : decode cL_law 807 = .ok (.ifCond .ne 7, 3) := by decide +kernel
theorem dL_law_810 : decode cL_law 810 = .ok (.iconst (-1), 1) := by decide +kernel
theorem dL_law_811 : decode cL_law 811 = .ok (.goto 16, 3) := by decide +kernel
theorem dL_law_814 : decode cL_law 814 = .ok (.iload 11, 2) := by decide +kernel
theorem dL_law_816 : decode cL_law 816 = .ok (.iload 12, 2) := by decide +kernel
theorem dL_law_818 : decode cL_law 818 = .ok (.if_icmp .ne 8, 3) := by decide +kernel
theorem dL_law_821 : decode cL_law 821 = .ok (.bipush (-3), 2) := by decide +kernel
theorem dL_law_823 : decode cL_law 823 = .ok (.goto 4, 3) := by decide +kernel
theorem dL_law_826 : decode cL_law 826 = .ok (.iconst 0, 1) := by decide +kernel
theorem dL_law_827 : decode cL_law 827 = .ok (.istore 19, 2) := by decide +kernel
theorem dL_law_829 : decode cL_law 829 = .ok (.aload_n 1, 1) := by decide +kernel
theorem dL_law_830 : decode cL_law 830 = .ok (.iload 11, 2) := by decide +kernel
theorem dL_law_832 : decode cL_law 832 = .ok (.iload 12, 2) := by decide +kernel
theorem dL_law_834 : decode cL_law 834 = .ok (.iload 13, 2) := by decide +kernel
theorem dL_law_836 : decode cL_law 836 = .ok (.iconst 0, 1) := by decide +kernel
theorem dL_law_837 : decode cL_law 837 = .ok (.invokevirtual 103, 3) := by decide +kernel
theorem dL_law_840 : decode cL_law 840 = .ok (.istore 20, 2) := by decide +kernel
theorem dL_law_842 : decode cL_law 842 = .ok (.aload_n 1, 1) := by decide +kernel
theorem dL_law_843 : decode cL_law 843 = .ok (.iload 11, 2) := by decide +kernel
theorem dL_law_845 : decode cL_law 845 = .ok (.iload 12, 2) := by decide +kernel
theorem dL_law_847 : decode cL_law 847 = .ok (.iload 13, 2) := by decide +kernel
theorem dL_law_849 : decode cL_law 849 = .ok (.iconst 1, 1) := by decide +kernel
theorem dL_law_850 : decode cL_law 850 = .ok (.invokevirtual 103, 3) := by decide +kernel
theorem dL_law_853 : decode cL_law 853 = .ok (.istore 21, 2) := by decide +kernel
theorem dL_law_855 : decode cL_law 855 = .ok (.aload_n 1, 1) := by decide +kernel
theorem dL_law_856 : decode cL_law 856 = .ok (.iload 11, 2) := by decide +kernel
theorem dL_law_858 : decode cL_law 858 = .ok (.iload 12, 2) := by decide +kernel
theorem dL_law_860 : decode cL_law 860 = .ok (.iload 13, 2) := by decide +kernel
theorem dL_law_862 : decode cL_law 862 = .ok (.iconst 2, 1) := by decide +kernel
theorem dL_law_863 : decode cL_law 863 = .ok (.invokevirtual 103, 3) := by decide +kernel
theorem dL_law_866 : decode cL_law 866 = .ok (.istore 22, 2) := by decide +kernel
theorem dL_law_868 : decode cL_law 868 = .ok (.aload_n 1, 1) := by decide +kernel
theorem dL_law_869 : decode cL_law 869 = .ok (.iload 11, 2) := by decide +kernel
theorem dL_law_871 : decode cL_law 871 = .ok (.iload 12, 2) := by decide +kernel
theorem dL_law_873 : decode cL_law 873 = .ok (.iload 13, 2) := by decide +kernel
theorem dL_law_875 : decode cL_law 875 = .ok (.iconst 3, 1) := by decide +kernel
theorem dL_law_876 : decode cL_law 876 = .ok (.invokevirtual 103, 3) := by decide +kernel
theorem dL_law_879 : decode cL_law 879 = .ok (.istore 23, 2) := by decide +kernel
theorem dL_law_881 : decode cL_law 881 = .ok (.iload 19, 2) := by decide +kernel
theorem dL_law_883 : decode cL_law 883 = .ok (.ifCond .ne 19, 3) := by decide +kernel
theorem dL_law_886 : decode cL_law 886 = .ok (.iload 11, 2) := by decide +kernel
theorem dL_law_888 : decode cL_law 888 = .ok (.iload 12, 2) := by decide +kernel
theorem dL_law_890 : decode cL_law 890 = .ok (.iload 13, 2) := by decide +kernel
theorem dL_law_892 : decode cL_law 892 = .ok (.aload_n 2, 1) := by decide +kernel
theorem dL_law_893 : decode cL_law 893 = .ok (.aload 17, 2) := by decide +kernel
theorem dL_law_895 : decode cL_law 895 = .ok (.aload 18, 2) := by decide +kernel
theorem dL_law_897 : decode cL_law 897 = .ok (.invokestatic 106, 3) := by decide +kernel
theorem dL_law_900 : decode cL_law 900 = .ok (.istore 19, 2) := by decide +kernel
theorem dL_law_902 : decode cL_law 902 = .ok (.aload_n 1, 1) := by decide +kernel
theorem dL_law_903 : decode cL_law 903 = .ok (.iload 11, 2) := by decide +kernel
theorem dL_law_905 : decode cL_law 905 = .ok (.iload 12, 2) := by decide +kernel
theorem dL_law_907 : decode cL_law 907 = .ok (.iload 13, 2) := by decide +kernel
theorem dL_law_909 : decode cL_law 909 = .ok (.invokevirtual 110, 3) := by decide +kernel
theorem dL_law_912 : decode cL_law 912 = .ok (.iload 19, 2) := by decide +kernel
theorem dL_law_914 : decode cL_law 914 = .ok (.if_icmp .eq 5, 3) := by decide +kernel
theorem dL_law_917 : decode cL_law 917 = .ok (.iconst 0, 1) := by decide +kernel
theorem dL_law_918 : decode cL_law 918 = .ok (.ireturn, 1) := by decide +kernel
theorem dL_law_919 : decode cL_law 919 = .ok (.iload 19, 2) := by decide +kernel
theorem dL_law_921 : decode cL_law 921 = .ok (.ifCond .ge 34, 3) := by decide +kernel
theorem dL_law_924 : decode cL_law 924 = .ok (.iload 20, 2) := by decide +kernel
theorem dL_law_926 : decode cL_law 926 = .ok (.iload 19, 2) := by decide +kernel
theorem dL_law_928 : decode cL_law 928 = .ok (.if_icmp .ne 78, 3) := by decide +kernel
theorem dL_law_931 : decode cL_law 931 = .ok (.iload 21, 2) := by decide +kernel
theorem dL_law_933 : decode cL_law 933 = .ok (.iload 19, 2) := by decide +kernel
theorem dL_law_935 : decode cL_law 935 = .ok (.if_icmp .ne 71, 3) := by decide +kernel
theorem dL_law_938 : decode cL_law 938 = .ok (.iload 22, 2) := by decide +kernel
theorem dL_law_940 : decode cL_law 940 = .ok (.iload 19, 2) := by decide +kernel
theorem dL_law_942 : decode cL_law 942 = .ok (.if_icmp .ne 64, 3) := by decide +kernel
theorem dL_law_945 : decode cL_law 945 = .ok (.iload 23, 2) := by decide +kernel
theorem dL_law_947 : decode cL_law 947 = .ok (.iload 19, 2) := by decide +kernel
theorem dL_law_949 : decode cL_law 949 = .ok (.if_icmp .eq 59, 3) := by decide +kernel
theorem dL_law_952 : decode cL_law 952 = .ok (.goto 54, 3) := by decide +kernel
theorem dL_law_955 : decode cL_law 955 = .ok (.iload 20, 2) := by decide +kernel
theorem dL_law_957 : decode cL_law 957 = .ok (.iload 19, 2) := by decide +kernel
theorem dL_law_959 : decode cL_law 959 = .ok (.bipush 10, 2) := by decide +kernel
theorem dL_law_961 : decode cL_law 961 = .ok (.idiv, 1) := by decide +kernel
theorem dL_law_962 : decode cL_law 962 = .ok (.if_icmp .ne 44, 3) := by decide +kernel
theorem dL_law_965 : decode cL_law 965 = .ok (.iload 21, 2) := by decide +kernel
theorem dL_law_967 : decode cL_law 967 = .ok (.iload 19, 2) := by decide +kernel
theorem dL_law_969 : decode cL_law 969 = .ok (.bipush 10, 2) := by decide +kernel
theorem dL_law_971 : decode cL_law 971 = .ok (.irem, 1) := by decide +kernel
theorem dL_law_972 : decode cL_law 972 = .ok (.if_icmp .ne 34, 3) := by decide +kernel
theorem dL_law_975 : decode cL_law 975 = .ok (.iload 22, 2) := by decide +kernel
theorem dL_law_977 : decode cL_law 977 = .ok (.iload 21, 2) := by decide +kernel
theorem dL_law_979 : decode cL_law 979 = .ok (.iload 13, 2) := by decide +kernel
theorem dL_law_981 : decode cL_law 981 = .ok (.if_icmp .ne 7, 3) := by decide +kernel
theorem dL_law_984 : decode cL_law 984 = .ok (.iconst 1, 1) := by decide +kernel
theorem dL_law_985 : decode cL_law 985 = .ok (.goto 4, 3) := by decide +kernel
theorem dL_law_988 : decode cL_law 988 = .ok (.iconst 0, 1) := by decide +kernel
theorem dL_law_989 : decode cL_law 989 = .ok (.if_icmp .ne 17, 3) := by decide +kernel
theorem dL_law_992 : decode cL_law 992 = .ok (.iload 23, 2) := by decide +kernel
theorem dL_law_994 : decode cL_law 994 = .ok (.aload_n 1, 1) := by decide +kernel
theorem dL_law_995 : decode cL_law 995 = .ok (.iload 11, 2) := by decide +kernel
theorem dL_law_997 : decode cL_law 997 = .ok (.iload 12, 2) := by decide +kernel
theorem dL_law_999 : decode cL_law 999 = .ok (.iconst 0, 1) := by decide +kernel
theorem dL_law_1000 : decode cL_law 1000 = .ok (.invokevirtual 55, 3) := by decide +kernel
theorem dL_law_1003 : decode cL_law 1003 = .ok (.if_icmp .eq 5, 3) := by decide +kernel
theorem dL_law_1006 : decode cL_law 1006 = .ok (.iconst 0, 1) := by decide +kernel
theorem dL_law_1007 : decode cL_law 1007 = .ok (.ireturn, 1) := by decide +kernel
theorem dL_law_1008 : decode cL_law 1008 = .ok (.goto 325, 3) := by decide +kernel
theorem dL_law_1011 : decode cL_law 1011 = .ok (.iconst 1, 1) := by decide +kernel
theorem dL_law_1012 : decode cL_law 1012 = .ok (.iload 9, 2) := by decide +kernel
theorem dL_law_1014 : decode cL_law 1014 = .ok (.iload 8, 2) := by decide +kernel
theorem dL_law_1016 : decode cL_law 1016 = .ok (.bipush 6, 2) := by decide +kernel
theorem dL_law_1018 : decode cL_law 1018 = .ok (.ishr, 1) := by decide +kernel
theorem dL_law_1019 : decode cL_law 1019 = .ok (.iconst 3, 1) := by decide +kernel
theorem dL_law_1020 : decode cL_law 1020 = .ok (.invokestatic 79, 3) := by decide +kernel
theorem dL_law_1023 : decode cL_law 1023 = .ok (.ifCond .ne 8, 3) := by decide +kernel
theorem dL_law_1026 : decode cL_law 1026 = .ok (.bipush 99, 2) := by decide +kernel
theorem dL_law_1028 : decode cL_law 1028 = .ok (.goto 5, 3) := by decide +kernel
theorem dL_law_1031 : decode cL_law 1031 = .ok (.bipush 12, 2) := by decide +kernel
theorem dL_law_1033 : decode cL_law 1033 = .ok (.invokestatic 79, 3) := by decide +kernel
theorem dL_law_1036 : decode cL_law 1036 = .ok (.iadd, 1) := by decide +kernel
theorem dL_law_1037 : decode cL_law 1037 = .ok (.istore 19, 2) := by decide +kernel
theorem dL_law_1039 : decode cL_law 1039 = .ok (.iconst 0, 1) := by decide +kernel
theorem dL_law_1040 : decode cL_law 1040 = .ok (.istore 20, 2) := by decide +kernel
theorem dL_law_1042 : decode cL_law 1042 = .ok (.iconst 0, 1) := by decide +kernel
theorem dL_law_1043 : decode cL_law 1043 = .ok (.istore 21, 2) := by decide +kernel
theorem dL_law_1045 : decode cL_law 1045 = .ok (.iload 21, 2) := by decide +kernel
theorem dL_law_1047 : decode cL_law 1047 = .ok (.iload 19, 2) := by decide +kernel
theorem dL_law_1049 : decode cL_law 1049 = .ok (.if_icmp .ge 255, 3) := by decide +kernel
theorem dL_law_1052 : decode cL_law 1052 = .ok (.iconst 0, 1) := by decide +kernel
theorem dL_law_1053 : decode cL_law 1053 = .ok (.istore 22, 2) := by decide +kernel
theorem dL_law_1055 : decode cL_law 1055 = .ok (.iload 22, 2) := by decide +kernel
theorem dL_law_1057 : decode cL_law 1057 = .ok (.iconst 4, 1) := by decide +kernel
theorem dL_law_1058 : decode cL_law 1058 = .ok (.if_icmp .ge 34, 3) := by decide +kernel
theorem dL_law_1061 : decode cL_law 1061 = .ok (.aload_n 2, 1) := by decide +kernel
theorem dL_law_1062 : decode cL_law 1062 = .ok (.bipush 9, 2) := by decide +kernel
theorem dL_law_1064 : decode cL_law 1064 = .ok (.iload 22, 2) := by decide +kernel
theorem dL_law_1066 : decode cL_law 1066 = .ok (.iadd, 1) := by decide +kernel
theorem dL_law_1067 : decode cL_law 1067 = .ok (.dup2, 1) := by decide +kernel
theorem dL_law_1068 : decode cL_law 1068 = .ok (.iaload, 1) := by decide +kernel
theorem dL_law_1069 : decode cL_law 1069 = .ok (.aload_n 2, 1) := by decide +kernel
theorem dL_law_1070 : decode cL_law 1070 = .ok (.bipush 9, 2) := by decide +kernel
theorem dL_law_1072 : decode cL_law 1072 = .ok (.iload 22, 2) := by decide +kernel
theorem dL_law_1074 : decode cL_law 1074 = .ok (.iadd, 1) := by decide +kernel
theorem dL_law_1075 : decode cL_law 1075 = .ok (.iaload, 1) := by decide +kernel
theorem dL_law_1076 : decode cL_law 1076 = .ok (.ifCond .ge 7, 3) := by decide +kernel
theorem dL_law_1079 : decode cL_law 1079 = .ok (.iconst 0, 1) := by decide +kernel
theorem dL_law_1080 : decode cL_law 1080 = .ok (.goto 4, 3) := by decide +kernel
theorem dL_law_1083 : decode cL_law 1083 = .ok (.iconst 1, 1) := by decide +kernel
theorem dL_law_1084 : decode cL_law 1084 = .ok (.iadd, 1) := by decide +kernel
theorem dL_law_1085 : decode cL_law 1085 = .ok (.iastore, 1) := by decide +kernel
theorem dL_law_1086 : decode cL_law 1086 = .ok (.iinc 22 1, 3) := by decide +kernel
theorem dL_law_1089 : decode cL_law 1089 = .ok (.goto (-34), 3) := by decide +kernel
theorem dL_law_1092 : decode cL_law 1092 = .ok (.iconst 0, 1) := by decide +kernel
theorem dL_law_1093 : decode cL_law 1093 = .ok (.istore 22, 2) := by decide +kernel
theorem dL_law_1095 : decode cL_law 1095 = .ok (.iload 22, 2) := by decide +kernel
theorem dL_law_1097 : decode cL_law 1097 = .ok (.iconst 4, 1) := by decide +kernel
theorem dL_law_1098 : decode cL_law 1098 = .ok (.if_icmp .ge 200, 3) := by decide +kernel
theorem dL_law_1101 : decode cL_law 1101 = .ok (.aload_n 2, 1) := by decide +kernel
theorem dL_law_1102 : decode cL_law 1102 = .ok (.bipush 9, 2) := by decide +kernel
theorem dL_law_1104 : decode cL_law 1104 = .ok (.iload 22, 2) := by decide +kernel
theorem dL_law_1106 : decode cL_law 1106 = .ok (.iadd, 1) := by decide +kernel
theorem dL_law_1107 : decode cL_law 1107 = .ok (.iaload, 1) := by decide +kernel
theorem dL_law_1108 : decode cL_law 1108 = .ok (.aload_n 2, 1) := by decide +kernel
theorem dL_law_1109 : decode cL_law 1109 = .ok (.bipush 7, 2) := by decide +kernel
theorem dL_law_1111 : decode cL_law 1111 = .ok (.iaload, 1) := by decide +kernel
theorem dL_law_1112 : decode cL_law 1112 = .ok (.if_icmp .gt 6, 3) := by decide +kernel
theorem dL_law_1115 : decode cL_law 1115 = .ok (.goto 177, 3) := by decide +kernel
theorem dL_law_1118 : decode cL_law 1118 = .ok (.iconst (-1), 1) := by decide +kernel
theorem dL_law_1119 : decode cL_law 1119 = .ok (.istore 23, 2) := by decide +kernel
theorem dL_law_1121 : decode cL_law 1121 = .ok (.iconst 3, 1) := by decide +kernel
theorem dL_law_1122 : decode cL_law 1122 = .ok (.istore 24, 2) := by decide +kernel
theorem dL_law_1124 : decode cL_law 1124 = .ok (.iload 24, 2) := by decide +kernel
theorem dL_law_1126 : decode cL_law 1126 = .ok (.ifCond .lt 66, 3) := by decide +kernel
theorem dL_law_1129 : decode cL_law 1129 = .ok (.iload 24, 2) := by decide +kernel
theorem dL_law_1131 : decode cL_law 1131 = .ok (.iload 22, 2) := by decide +kernel
theorem dL_law_1133 : decode cL_law 1133 = .ok (.if_icmp .eq 53, 3) := by decide +kernel
theorem dL_law_1136 : decode cL_law 1136 = .ok (.aload_n 2, 1) := by decide +kernel
theorem dL_law_1137 : decode cL_law 1137 = .ok (.bipush 9, 2) := by decide +kernel
theorem dL_law_1139 : decode cL_law 1139 = .ok (.iload 24, 2) := by decide +kernel
theorem dL_law_1141 : decode cL_law 1141 = .ok (.iadd, 1) := by decide +kernel
theorem dL_law_1142 : decode cL_law 1142 = .ok (.iaload, 1) := by decide +kernel
theorem dL_law_1143 : decode cL_law 1143 = .ok (.ifCond .lt 43, 3) := by decide +kernel
theorem dL_law_1146 : decode cL_law 1146 = .ok (.aload_n 2, 1) := by decide +kernel
theorem dL_law_1147 : decode cL_law 1147 = .ok (.bipush 9, 2) := by decide +kernel
theorem dL_law_1149 : decode cL_law 1149 = .ok (.iload 24, 2) := by decide +kernel
theorem dL_law_1151 : decode cL_law 1151 = .ok (.iadd, 1) := by decide +kernel
theorem dL_law_1152 : decode cL_law 1152 = .ok (.iaload, 1) := by decide +kernel
theorem dL_law_1153 : decode cL_law 1153 = .ok (.aload_n 2, 1) := by decide +kernel
theorem dL_law_1154 : decode cL_law 1154 = .ok (.bipush 7, 2) := by decide +kernel
theorem dL_law_1156 : decode cL_law 1156 = .ok (.iaload, 1) := by decide +kernel
theorem dL_law_1157 : decode cL_law 1157 = .ok (.if_icmp .gt 29, 3) := by decide +kernel
theorem dL_law_1160 : decode cL_law 1160 = .ok (.iload 23, 2) := by decide +kernel
theorem dL_law_1162 : decode cL_law 1162 = .ok (.ifCond .lt 20, 3) := by decide +kernel
theorem dL_law_1165 : decode cL_law 1165 = .ok (.aload_n 2, 1) := by decide +kernel
theorem dL_law_1166 : decode cL_law 1166 = .ok (.bipush 9, 2) := by decide +kernel
theorem dL_law_1168 : decode cL_law 1168 = .ok (.iload 24, 2) := by decide +kernel
theorem dL_law_1170 : decode cL_law 1170 = .ok (.iadd, 1) := by decide +kernel
theorem dL_law_1171 : decode cL_law 1171 = .ok (.iaload, 1) := by decide +kernel
theorem dL_law_1172 : decode cL_law 1172 = .ok (.aload_n 2, 1) := by decide +kernel
theorem dL_law_1173 : decode cL_law 1173 = .ok (.bipush 9, 2) := by decide +kernel
theorem dL_law_1175 : decode cL_law 1175 = .ok (.iload 23, 2) := by decide +kernel
theorem dL_law_1177 : decode cL_law 1177 = .ok (.iadd, 1) := by decide +kernel
theorem dL_law_1178 : decode cL_law 1178 = .ok (.iaload, 1) := by decide +kernel
theorem dL_law_1179 : decode cL_law 1179 = .ok (.if_icmp .gt 7, 3) := by decide +kernel
theorem dL_law_1182 : decode cL_law 1182 = .ok (.iload 24, 2) := by decide +kernel
theorem dL_law_1184 : decode cL_law 1184 = .ok (.istore 23, 2) := by decide +kernel
theorem dL_law_1186 : decode cL_law 1186 = .ok (.iinc 24 (-1), 3) := by decide +kernel
theorem dL_law_1189 : decode cL_law 1189 = .ok (.goto (-65), 3) := by decide +kernel
theorem dL_law_1192 : decode cL_law 1192 = .ok (.iload 22, 2) := by decide +kernel
theorem dL_law_1194 : decode cL_law 1194 = .ok (.aload_n 3, 1) := by decide +kernel
theorem dL_law_1195 : decode cL_law 1195 = .ok (.aload 4, 2) := by decide +kernel
theorem dL_law_1197 : decode cL_law 1197 = .ok (.aload 5, 2) := by decide +kernel
theorem dL_law_1199 : decode cL_law 1199 = .ok (.aload 6, 2) := by decide +kernel
theorem dL_law_1201 : decode cL_law 1201 = .ok (.invokestatic 35, 3) := by decide +kernel
theorem dL_law_1204 : decode cL_law 1204 = .ok (.astore 24, 2) := by decide +kernel
theorem dL_law_1206 : decode cL_law 1206 = .ok (.iload 23, 2) := by decide +kernel
theorem dL_law_1208 : decode cL_law 1208 = .ok (.ifCond .ge 8, 3) := by decide +kernel
theorem dL_law_1211 : decode cL_law 1211 = .ok (.aload 24, 2) := by decide +kernel
theorem dL_law_1213 : decode cL_law 1213 = .ok (.goto 15, 3) := by decide +kernel
theorem dL_law_1216 : decode cL_law 1216 = .ok (.iload 23, 2) := by decide +kernel
theorem dL_law_1218 : decode cL_law 1218 = .ok (.aload_n 3, 1) := by decide +kernel
theorem dL_law_1219 : decode cL_law 1219 = .ok (.aload 4, 2) := by decide +kernel
theorem dL_law_1221 : decode cL_law 1221 = .ok (.aload 5, 2) := by decide +kernel
theorem dL_law_1223 : decode cL_law 1223 = .ok (.aload 6, 2) := by decide +kernel
theorem dL_law_1225 : decode cL_law 1225 = .ok (.invokestatic 35, 3) := by decide +kernel
theorem dL_law_1228 : decode cL_law 1228 = .ok (.astore 25, 2) := by decide +kernel
theorem dL_law_1230 : decode cL_law 1230 = .ok (.iconst 0, 1) := by decide +kernel
theorem dL_law_1231 : decode cL_law 1231 = .ok (.istore 26, 2) := by decide +kernel
theorem dL_law_1233 : decode cL_law 1233 = .ok (.iload 26, 2) := by decide +kernel
theorem dL_law_1235 : decode cL_law 1235 = .ok (.bipush 60, 2) := by decide +kernel
theorem dL_law_1237 : decode cL_law 1237 = .ok (.if_icmp .ge 36, 3) := by decide +kernel
theorem dL_law_1240 : decode cL_law 1240 = .ok (.aload 24, 2) := by decide +kernel
theorem dL_law_1242 : decode cL_law 1242 = .ok (.iload 26, 2) := by decide +kernel
theorem dL_law_1244 : decode cL_law 1244 = .ok (.iload 23, 2) := by decide +kernel
theorem dL_law_1246 : decode cL_law 1246 = .ok (.ifCond .ge 7, 3) := by decide +kernel
theorem dL_law_1249 : decode cL_law 1249 = .ok (.iconst 0, 1) := by decide +kernel
theorem dL_law_1250 : decode cL_law 1250 = .ok (.goto 16, 3) := by decide +kernel
theorem dL_law_1253 : decode cL_law 1253 = .ok (.aload 25, 2) := by decide +kernel
theorem dL_law_1255 : decode cL_law 1255 = .ok (.iload 26, 2) := by decide +kernel
theorem dL_law_1257 : decode cL_law 1257 = .ok (.iaload, 1) := by decide +kernel
theorem dL_law_1258 : decode cL_law 1258 = .ok (.aload_n 2, 1) := by decide +kernel
theorem dL_law_1259 : decode cL_law 1259 = .ok (.bipush 8, 2) := by decide +kernel
theorem dL_law_1261 : decode cL_law 1261 = .ok (.iaload, 1) := by decide +kernel
theorem dL_law_1262 : decode cL_law 1262 = .ok (.imul, 1) := by decide +kernel
theorem dL_law_1263 : decode cL_law 1263 = .ok (.bipush 100, 2) := by decide +kernel
theorem dL_law_1265 : decode cL_law 1265 = .ok (.idiv, 1) := by decide +kernel
theorem dL_law_1266 : decode cL_law 1266 = .ok (.iastore, 1) := by decide +kernel
theorem dL_law_1267 : decode cL_law 1267 = .ok (.iinc 26 1, 3) := by decide +kernel
theorem dL_law_1270 : decode cL_law 1270 = .ok (.goto (-37), 3) := by decide +kernel
theorem dL_law_1273 : decode cL_law 1273 = .ok (.aload_n 2, 1) := by decide +kernel
theorem dL_law_1274 : decode cL_law 1274 = .ok (.bipush 9, 2) := by decide +kernel
theorem dL_law_1276 : decode cL_law 1276 = .ok (.iload 22, 2) := by decide +kernel
theorem dL_law_1278 : decode cL_law 1278 = .ok (.iadd, 1) := by decide +kernel
theorem dL_law_1279 : decode cL_law 1279 = .ok (.iconst 0, 1) := by decide +kernel
theorem dL_law_1280 : decode cL_law 1280 = .ok (.iastore, 1) := by decide +kernel
theorem dL_law_1281 : decode cL_law 1281 = .ok (.aload_n 2, 1) := by decide +kernel
theorem dL_law_1282 : decode cL_law 1282 = .ok (.bipush 13, 2) := by decide +kernel
theorem dL_law_1284 : decode cL_law 1284 = .ok (.iload 22, 2) := by decide +kernel
theorem dL_law_1286 : decode cL_law 1286 = .ok (.iadd, 1) := by decide +kernel
theorem dL_law_1287 : decode cL_law 1287 = .ok (.iconst 0, 1) := by decide +kernel
theorem dL_law_1288 : decode cL_law 1288 = .ok (.iastore, 1) := by decide +kernel
theorem dL_law_1289 : decode cL_law 1289 = .ok (.iinc 20 1, 3) := by decide +kernel
theorem dL_law_1292 : decode cL_law 1292 = .ok (.iinc 22 1, 3) := by decide +kernel
theorem dL_law_1295 : decode cL_law 1295 = .ok (.goto (-200), 3) := by decide +kernel
theorem dL_law_1298 : decode cL_law 1298 = .ok (.iinc 21 1, 3) := by decide +kernel
theorem dL_law_1301 : decode cL_law 1301 = .ok (.goto (-256), 3) := by decide +kernel
theorem dL_law_1304 : decode cL_law 1304 = .ok (.aload_n 2, 1) := by decide +kernel
theorem dL_law_1305 : decode cL_law 1305 = .ok (.iconst 3, 1) := by decide +kernel
theorem dL_law_1306 : decode cL_law 1306 = .ok (.dup2, 1) := by decide +kernel
theorem dL_law_1307 : decode cL_law 1307 = .ok (.iaload, 1) := by decide +kernel
theorem dL_law_1308 : decode cL_law 1308 = .ok (.iload 20, 2) := by decide +kernel
theorem dL_law_1310 : decode cL_law 1310 = .ok (.iadd, 1) := by decide +kernel
theorem dL_law_1311 : decode cL_law 1311 = .ok (.iastore, 1) := by decide +kernel
theorem dL_law_1312 : decode cL_law 1312 = .ok (.aload_n 2, 1) := by decide +kernel
theorem dL_law_1313 : decode cL_law 1313 = .ok (.iconst 4, 1) := by decide +kernel
theorem dL_law_1314 : decode cL_law 1314 = .ok (.dup2, 1) := by decide +kernel
theorem dL_law_1315 : decode cL_law 1315 = .ok (.iaload, 1) := by decide +kernel
theorem dL_law_1316 : decode cL_law 1316 = .ok (.iload 19, 2) := by decide +kernel
theorem dL_law_1318 : decode cL_law 1318 = .ok (.iadd, 1) := by decide +kernel
theorem dL_law_1319 : decode cL_law 1319 = .ok (.iastore, 1) := by decide +kernel
theorem dL_law_1320 : decode cL_law 1320 = .ok (.aload_n 1, 1) := by decide +kernel
theorem dL_law_1321 : decode cL_law 1321 = .ok (.iload 19, 2) := by decide +kernel
theorem dL_law_1323 : decode cL_law 1323 = .ok (.invokevirtual 112, 3) := by decide +kernel
theorem dL_law_1326 : decode cL_law 1326 = .ok (.iload 20, 2) := by decide +kernel
theorem dL_law_1328 : decode cL_law 1328 = .ok (.if_icmp .eq 5, 3) := by decide +kernel
theorem dL_law_1331 : decode cL_law 1331 = .ok (.iconst 0, 1) := by decide +kernel
theorem dL_law_1332 : decode cL_law 1332 = .ok (.ireturn, 1) := by decide +kernel
theorem dL_law_1333 : decode cL_law 1333 = .ok (.aload_n 1, 1) := by decide +kernel
theorem dL_law_1334 : decode cL_law 1334 = .ok (.aload_n 2, 1) := by decide +kernel
theorem dL_law_1335 : decode cL_law 1335 = .ok (.aload_n 3, 1) := by decide +kernel
theorem dL_law_1336 : decode cL_law 1336 = .ok (.aload 4, 2) := by decide +kernel
theorem dL_law_1338 : decode cL_law 1338 = .ok (.aload 5, 2) := by decide +kernel
theorem dL_law_1340 : decode cL_law 1340 = .ok (.aload 6, 2) := by decide +kernel
theorem dL_law_1342 : decode cL_law 1342 = .ok (.invokestatic 115, 3) := by decide +kernel
theorem dL_law_1345 : decode cL_law 1345 = .ok (.ifCond .ne 5, 3) := by decide +kernel
theorem dL_law_1348 : decode cL_law 1348 = .ok (.iconst 0, 1) := by decide +kernel
theorem dL_law_1349 : decode cL_law 1349 = .ok (.ireturn, 1) := by decide +kernel
theorem dL_law_1350 : decode cL_law 1350 = .ok (.iinc 7 1, 3) := by decide +kernel
theorem dL_law_1353 : decode cL_law 1353 = .ok (.goto (-1267), 3) := by decide +kernel
theorem dL_law_1356 : decode cL_law 1356 = .ok (.iconst 1, 1) := by decide +kernel
theorem dL_law_1357 : decode cL_law 1357 = .ok (.ireturn, 1) := by decide +kernel
end
section
/-! THE OWN JUDGEMENT. xX k N a b σ pc lv st: from the frame at pc with locals lv (by place) and stack st, over any heap of N cells that holds the map σ (address -> cell), the method comes to its end as wanted. k: all that stays the same in one call. -/
def xNest : Cond → Bool
  | .fieldLinkNest _ _ _ _ _ _ => true
  | .methodLinkNest _ _ _ _ => true
  | .arrayOver (.object _) => true
  | _ => false
def xG : List Cond := lw_tbl.filter goodWord
def xGN : List Cond := lw_tbl.filter xNest
theorem xG_of {i : Nat} {w : Cond} (h : lw_tbl[i]? = some w) (g : goodWord w = true) : w ∈ xG := List.mem_filter.mpr ⟨List.mem_of_getElem? h, g⟩
theorem xGN_of {i : Nat} {w : Cond} (h : lw_tbl[i]? = some w) (g : xNest w = true) : w ∈ xGN := List.mem_filter.mpr ⟨List.mem_of_getElem? h, g⟩
theorem xG_good {w : Cond} (h : w ∈ xG) : (w.onTables && w.keeps) = true ∨ ∃ ty, w = .arrayClass ty := good_of_word (List.mem_filter.mp h).2
abbrev xEnv : Type := va_G × ClassId × ClassId × ClassId × ClassId
abbrev xI (E : xEnv) : ClassId := E.2.1
abbrev xCh (E : xEnv) : ClassId := E.2.2.1
abbrev xSp (E : xEnv) : ClassId := E.2.2.2.1
abbrev xVi (E : xEnv) : ClassId := E.2.2.2.2
def xtys (E : xEnv) : List (ClassId × FieldType) := [(xI E, .int), (xCh E, .char), (xSp E, .object RX2), (xVi E, .object RX3)]
def xk (E : xEnv) (U : State) : Prop := va_K E.1 vwCl (xtys E) U ∧ ∀ w ∈ xGN, va_Nw w U
theorem xNw_moved {s U : State} (hW : s.WarmedH U.vm) {w : Cond} (hn : xNest w = true) (h : va_Nw w s) : va_Nw w U := by
  cases w with
  | fieldLinkNest a i b n d q => exact va_Nw.warmF hW h
  | methodLinkNest a i x q => exact va_Nw.warmM hW h
  | arrayOver t =>
    cases t with
    | object C => exact va_AO.moved hW.alike h
    | _ => simp [xNest] at hn
  | _ => simp [xNest] at hn
theorem xk.moved {E : xEnv} {s U : State} (hW : s.WarmedH U.vm) (h : xk E s) : xk E U :=
  ⟨va_K.moved hW.alike h.1, fun w hw => xNw_moved hW (List.mem_filter.mp hw).2 (h.2 w hw)⟩
theorem xNw_same {u U : State} (hv : u.vm = U.vm) {w : Cond} (hn : xNest w = true) (h : va_Nw w u) : va_Nw w U := by
  cases w with
  | fieldLinkNest a i b n d q => exact va_Nw.same rfl hv h
  | methodLinkNest a i x q => exact va_Nw.same rfl hv h
  | arrayOver t =>
    cases t with
    | object C => exact va_AO.moved (by rw [hv]; exact Vm.Alike.refl _) h
    | _ => simp [xNest] at hn
  | _ => simp [xNest] at hn
theorem xk.same {E : xEnv} {u U : State} (hv : u.vm = U.vm) (h : xk E u) : xk E U :=
  ⟨va_K.moved (by rw [hv]; exact Vm.Alike.refl _) h.1, fun w hw => xNw_same hv (List.mem_filter.mp hw).2 (h.2 w hw)⟩
abbrev Sg : Type := Nat → Option va_E
def xup (σ : Sg) (a : Nat) (e : va_E) : Sg := fun q => if q = a then some e else σ q
theorem xup_s {σ : Sg} {a : Nat} {e : va_E} : xup σ a e a = some e := by simp [xup]
theorem xup_n {σ : Sg} {a q : Nat} {e : va_E} (h : q ≠ a) : xup σ a e q = σ q := by simp [xup, h]
def xh (E : xEnv) (B N : Nat) (σ : Sg) (H : Heap) : Prop := H.size = N ∧ B ≤ N ∧ ∀ a e, σ a = some e → B ≤ a ∧ va_at E.1 vwCl (a, e) H
theorem xh.put {E : xEnv} {B N : Nat} {σ : Sg} {H H1 : Heap} {a : Nat} {e0 e : va_E} (h : xh E B N σ H) (h0 : σ a = some e0) (z : H1.size = H.size) (oq : ∀ q : Nat, q ≠ a → H1[q]? = H[q]?) (he : va_at E.1 vwCl (a, e) H1) : xh E B N (xup σ a e) H1 := by
  refine ⟨by rw [z]; exact h.1, h.2.1, fun q x hx => ?_⟩
  by_cases hq : q = a
  · subst hq
    rw [xup_s] at hx
    cases hx
    exact ⟨(h.2.2 q e0 h0).1, he⟩
  · rw [xup_n hq] at hx
    obtain ⟨h1, h2⟩ := h.2.2 q x hx
    exact ⟨h1, h2.kept (oq q hq)⟩
theorem xh.push {E : xEnv} {B N : Nat} {σ : Sg} {H H1 : Heap} {e : va_E} (h : xh E B N σ H) (z : H1.size = N + 1) (oq : ∀ q : Nat, q < N → H1[q]? = H[q]?) (he : va_at E.1 vwCl (N, e) H1) : xh E B (N + 1) (xup σ N e) H1 := by
  refine ⟨z, Nat.le_succ_of_le h.2.1, fun q x hx => ?_⟩
  by_cases hq : q = N
  · subst hq
    rw [xup_s] at hx
    cases hx
    exact ⟨h.2.1, he⟩
  · rw [xup_n hq] at hx
    obtain ⟨h1, h2⟩ := h.2.2 q x hx
    have hl := h2.lt
    rw [h.1] at hl
    exact ⟨h1, h2.kept (oq q hl)⟩
theorem xh.fresh {E : xEnv} {B N : Nat} {σ : Sg} {H : Heap} (h : xh E B N σ H) {q : Nat} (hq : N ≤ q) : σ q = none := by
  cases hx : σ q with
  | none => rfl
  | some x =>
    have hl := ((h.2.2 q x hx).2).lt
    rw [h.1] at hl
    exact absurd hl (Nat.not_lt.mpr hq)
-- locals, by place
def xL : Nat → List (Option Value) → List (Nat × Value)
  | _, [] => []
  | i, none :: l => xL (i + 1) l
  | i, some v :: l => (i, v) :: xL (i + 1) l
def xget : List (Option Value) → Nat → Option Value
  | [], _ => none
  | o :: _, 0 => o
  | _ :: l, n + 1 => xget l n
def xset : List (Option Value) → Nat → Value → List (Option Value)
  | [], _, _ => []
  | _ :: l, 0, v => some v :: l
  | o :: l, n + 1, v => o :: xset l n v
def xset2 : List (Option Value) → Nat → Value → List (Option Value)
  | [], _, _ => []
  | [_], 0, v => [some v]
  | _ :: _ :: l, 0, v => some v :: none :: l
  | o :: l, n + 1, v => o :: xset2 l n v
def xnl (lv : List (Option Value)) (i : Nat) : Bool := match i with
  | 0 => true
  | n + 1 => match xget lv n with
    | some v => v.category != 2
    | none => true
theorem xget_mem : ∀ (lv : List (Option Value)) (i j : Nat) (v : Value), xget lv j = some v → (i + j, v) ∈ xL i lv
  | [], _, _, _, h => by simp [xget] at h
  | o :: l, i, 0, v, h => by
    simp only [xget] at h
    subst h
    simp [xL]
  | o :: l, i, n + 1, v, h => by
    simp only [xget] at h
    have h1 := xget_mem l (i + 1) n v h
    rw [show i + 1 + n = i + (n + 1) by omega] at h1
    cases o with
    | none => exact h1
    | some x => exact List.mem_cons_of_mem _ h1
theorem xmem_get : ∀ (lv : List (Option Value)) (i : Nat) (q : Nat × Value), q ∈ xL i lv → i ≤ q.1 ∧ xget lv (q.1 - i) = some q.2
  | [], _, _, h => by simp [xL] at h
  | none :: l, i, q, h => by
    obtain ⟨h1, h2⟩ := xmem_get l (i + 1) q h
    refine ⟨by omega, ?_⟩
    rw [show q.1 - i = (q.1 - (i + 1)) + 1 by omega]
    exact h2
  | some v :: l, i, q, h => by
    rcases List.mem_cons.mp h with h | h
    · subst h
      simp [xget]
    · obtain ⟨h1, h2⟩ := xmem_get l (i + 1) q h
      refine ⟨by omega, ?_⟩
      rw [show q.1 - i = (q.1 - (i + 1)) + 1 by omega]
      exact h2
theorem xmem_of : ∀ (lv : List (Option Value)) (i j : Nat) (v : Value), xget lv j = some v → (i + j, v) ∈ xL i lv := xget_mem
theorem xget_set : ∀ (lv : List (Option Value)) (i j : Nat) (v x : Value), xget (xset lv i v) j = some x → (j = i ∧ x = v) ∨ (j ≠ i ∧ xget lv j = some x)
  | [], _, _, _, _, h => by simp [xset, xget] at h
  | o :: l, 0, 0, v, x, h => by
    simp only [xset, xget] at h
    cases h
    exact Or.inl ⟨rfl, rfl⟩
  | o :: l, 0, j + 1, v, x, h => Or.inr ⟨by omega, h⟩
  | o :: l, i + 1, 0, v, x, h => Or.inr ⟨by omega, h⟩
  | o :: l, i + 1, j + 1, v, x, h => by
    rcases xget_set l i j v x h with ⟨h1, h2⟩ | ⟨h1, h2⟩
    · exact Or.inl ⟨by omega, h2⟩
    · exact Or.inr ⟨by omega, h2⟩
theorem xget_set2 : ∀ (lv : List (Option Value)) (i j : Nat) (v x : Value), xget (xset2 lv i v) j = some x → (j = i ∧ x = v) ∨ (j ≠ i ∧ j ≠ i + 1 ∧ xget lv j = some x)
  | [], _, _, _, _, h => by simp [xset2, xget] at h
  | [o], 0, 0, v, x, h => by
    simp only [xset2, xget] at h
    cases h
    exact Or.inl ⟨rfl, rfl⟩
  | [o], 0, j + 1, v, x, h => by simp [xset2, xget] at h
  | o :: o2 :: l, 0, 0, v, x, h => by
    simp only [xset2, xget] at h
    cases h
    exact Or.inl ⟨rfl, rfl⟩
  | o :: o2 :: l, 0, 1, v, x, h => by simp [xset2, xget] at h
  | o :: o2 :: l, 0, j + 2, v, x, h => Or.inr ⟨by omega, by omega, h⟩
  | [o], i + 1, 0, v, x, h => Or.inr ⟨by omega, by omega, h⟩
  | o :: o2 :: l, i + 1, 0, v, x, h => Or.inr ⟨by omega, by omega, h⟩
  | [o], i + 1, j + 1, v, x, h => by simp [xset2, xget] at h
  | o :: o2 :: l, i + 1, j + 1, v, x, h => by
    rcases xget_set2 (o2 :: l) i j v x h with ⟨h1, h2⟩ | ⟨h1, h2, h3⟩
    · exact Or.inl ⟨by omega, h2⟩
    · exact Or.inr ⟨by omega, by omega, h3⟩
theorem xat {ls : Array Slot} {nL : Nat} {lv : List (Option Value)} (h : lv_has ls nL (xL 0 lv)) {i : Nat} {v : Value} (hg : xget lv i = some v) : ls[i]? = some (.val v) := by
  have h1 := xget_mem lv 0 i v hg
  rw [Nat.zero_add] at h1
  exact h.2.2 _ h1
theorem xst1 {ls : Array Slot} {nL : Nat} {lv : List (Option Value)} {i : Nat} {v : Value} (hn : xnl lv i = true) (h : lv_has ls nL ((i, v) :: (xL 0 lv).filter (fun q => !(q.1 == i) && !(q.1 + 1 == i && q.2.category == 2)))) : lv_has ls nL (xL 0 (xset lv i v)) := by
  refine ⟨h.1, h.2.1, fun q hq => ?_⟩
  obtain ⟨-, h2⟩ := xmem_get _ 0 q hq
  rw [Nat.sub_zero] at h2
  refine h.2.2 q ?_
  rcases xget_set lv i q.1 v q.2 h2 with ⟨h3, h4⟩ | ⟨h3, h4⟩
  · exact List.mem_cons.mpr (Or.inl (Prod.ext h3 h4))
  · refine List.mem_cons_of_mem _ (List.mem_filter.mpr ⟨?_, ?_⟩)
    · have h5 := xget_mem lv 0 q.1 q.2 h4
      rw [Nat.zero_add] at h5
      exact h5
    · by_cases h6 : q.1 + 1 = i
      · subst h6
        simp only [xnl, h4] at hn
        simp at hn
        simp [hn]
      · simp [h3, h6]
theorem xst2 {ls : Array Slot} {nL : Nat} {lv : List (Option Value)} {i : Nat} {v : Value} (hn : xnl lv i = true) (h : lv_has ls nL ((i, v) :: (xL 0 lv).filter (fun q => !(q.1 == i) && (!(q.1 == i + 1) && !(q.1 + 1 == i && q.2.category == 2))))) : lv_has ls nL (xL 0 (xset2 lv i v)) := by
  refine ⟨h.1, h.2.1, fun q hq => ?_⟩
  obtain ⟨-, h2⟩ := xmem_get _ 0 q hq
  rw [Nat.sub_zero] at h2
  refine h.2.2 q ?_
  rcases xget_set2 lv i q.1 v q.2 h2 with ⟨h3, h4⟩ | ⟨h3, h3b, h4⟩
  · exact List.mem_cons.mpr (Or.inl (Prod.ext h3 h4))
  · refine List.mem_cons_of_mem _ (List.mem_filter.mpr ⟨?_, ?_⟩)
    · have h5 := xget_mem lv 0 q.1 q.2 h4
      rw [Nat.zero_add] at h5
      exact h5
    · by_cases h6 : q.1 + 1 = i
      · subst h6
        simp only [xnl, h4] at hn
        simp at hn
        simp [hn]
        omega
      · simp [h3, h3b, h6]
-- the judgement
abbrev xT : Type := Program × Launch × Env × Room × State × MethodId × Array Value × List Frame × Method × Code × (State → Prop) × xEnv × Nat × Nat
def xX (k : xT) (N a b : Nat) (σ : Sg) (pc : Nat) (lv : List (Option Value)) (st : List Value) : Prop := match k with
  | (p, l, e, R, s, m, args, below, meth, c, Q, E, B, nL) => ∀ (H : Heap) (locs : List Loc) (ls : Array Slot), xh E B N σ H → va_S (fun q => B ≤ q) s.heap H locs → lv_has ls nL (xL 0 lv) → W p l e R s m args below meth c H locs a b Q (F0 m pc ls st)
def xC (k : xT) (l0 : Launch) (E0 : xEnv) (B0 : Nat) (cc : ByteArray) (nL0 : Nat) (ret : Option FieldType) (own mn : String) (fr lo ce sl : Nat) : Prop := match k with
  | (p, l, e, R, s, m, args, below, meth, c, Q, E, B, nL) => l = l0 ∧ E = E0 ∧ B = B0 ∧ nL = nL0 ∧ p.tables.exec = Jvm.exec ∧ c.code = cc ∧ c.maxLocals = nL0 ∧ s.vm.findClass own = some m.cls ∧ (∀ w ∈ xG, w.before args s = true) ∧ xk E0 s ∧ (R.frames = fr ∧ R.locals = lo ∧ R.cells = ce ∧ R.slots = sl) ∧ meth.sig.returnType = ret ∧ meth.locks = false ∧ meth.name = mn ∧ B0 ≤ s.heap.size
def xQc (E : xEnv) (B N : Nat) (σ : Sg) (oc : Option Value) : Array Value → State → Outcome → State → Prop := fun _ st o t => o = .returned oc ∧ xh E B N σ t.heap ∧ xk E t ∧ va_F (fun q => B ≤ q) st t
def xZ (k : xT) (ce sl N : Nat) (σ : Sg) (oc : Option Value) : Prop := match k with
  | (p, l, e, R, s, m, args, below, meth, c, Q, E, B, nL) => Q = MQ below (xQc E B N σ oc) args s ce sl (fun q => B ≤ q)
/-- a method's contract: called with av over the map σ (N cells), it answers oc, over the map σ2 (N2 cells) -/
def xM (l : Launch) (y : MethodName) (cc : ByteArray) (nL : Nat) (ret : Option FieldType) (fr lo ce sl : Nat) (E : xEnv) (B : Nat) (av : List Value) (N : Nat) (σ : Sg) (N2 : Nat) (σ2 : Sg) (oc : Option Value) : Prop :=
  Met l y (.code y cc nL ret :: xG) { frames := fr, cells := ce, slots := sl, locals := lo } (va_Pc av (fun U => xh E B N σ U.heap ∧ xk E U)) (xQc E B N2 σ2 oc) ce sl (fun q => B ≤ q)
theorem xM_of {l : Launch} {y : MethodName} {cc : ByteArray} {nL : Nat} {ret : Option FieldType} {fr lo ce sl : Nat} {E : xEnv} {B : Nat} {av : List Value} {N : Nat} {σ : Sg} {N2 : Nat} {σ2 : Sg} {oc : Option Value} (lv0 : List (Option Value)) (hy : plainName y.cls = true) (hlen : (lg_sl av).length ≤ nL) (ha : xL 0 lv0 = lv_args 0 av)
    (body : ∀ k : xT, xC k l E B cc nL ret y.cls y.name fr lo ce sl → xZ k ce sl N2 σ2 oc → xX k N 0 0 σ 0 lv0 []) : xM l y cc nL ret fr lo ce sl E B av N σ N2 σ2 oc := by
  refine Met.ofW (cc := cc) (maxL := nL) (ret := ret) hy rfl ?_
  intro p e s m args below meth c s₁ Bd hml hv
  obtain ⟨rfl, hh, hk⟩ := hv
  have hts := atoms_spec (ws := .code y cc nL ret :: xG) Bd.pre
  have h := body (p, l, e, { frames := fr, cells := ce, slots := sl, locals := lo }, s, m, av.toArray, below, meth, c, MQ below (xQc E B N2 σ2 oc) av.toArray s ce sl (fun q => B ≤ q), E, B, nL) ⟨rfl, rfl, rfl, rfl, Bd.exec, Bd.bytes, hml, findClass_of_methodNamed Bd.named, fun w hw => hts w (List.mem_cons_of_mem _ hw), hk, ⟨rfl, rfl, rfl, rfl⟩, Bd.returns, Bd.notSynchronized, (name_of_methodNamed Bd.named Bd.method).1, by rw [hh.1]; exact hh.2.1⟩ rfl
  rw [lg_entry_eq]
  have hl := lv_entry av (n := nL) hlen
  rw [← ha] at hl
  exact h s.heap [] _ hh va_S.rf hl

section XR
variable {k : xT} {l : Launch} {E : xEnv} {B : Nat} {cc : ByteArray} {nL : Nat} {ret : Option FieldType} {own mn : String} {fr lo ce sl N a b : Nat} {σ : Sg} {pc : Nat} {lv : List (Option Value)} {st : List Value}
theorem xX.widen {a2 b2 : Nat} (h1 : a ≤ a2) (h2 : b ≤ b2) (kk : xX k N a2 b2 σ pc lv st) : xX k N a b σ pc lv st := by
  obtain ⟨p, l0, e, R, s, m, args, below, meth, c, Q, E0, B0, nL0⟩ := k
  intro H locs ls hh hS hl
  exact W.widen h1 h2 (kk H locs ls hh hS hl)
theorem xX.sg {σ2 : Sg} (h : σ = σ2) (kk : xX k N a b σ2 pc lv st) : xX k N a b σ pc lv st := h ▸ kk
theorem xX.cg {σ2 : Sg} {lv2 : List (Option Value)} {st2 : List Value} (kk : xX k N a b σ2 pc lv2 st2) (h : σ = σ2) (h2 : lv = lv2) (h3 : st = st2) : xX k N a b σ pc lv st := by subst h; subst h2; subst h3; exact kk
theorem xX.loc {lv2 : List (Option Value)} (h : lv = lv2) (kk : xX k N a b σ pc lv2 st) : xX k N a b σ pc lv st := h ▸ kk
theorem x_iconst (C : xC k l E B cc nL ret own mn fr lo ce sl) {n : Int} {v : Int32} (d : decode cc pc = .ok (.iconst n, 1)) (hv : Int32.ofInt n = v)
    (kk : xX k N a b σ (pc + 1) lv (.int v :: st)) : xX k N a b σ pc lv (st) := by
  obtain ⟨p, l0, e, R, s, m, args, below, meth, c, Q, E0, B0, nL0⟩ := k
  obtain ⟨rfl, rfl, rfl, rfl, hx, hb, hml, hown, hts, hk, ⟨hR1, hR2, hR3, hR4⟩, hr, hlk, hmn, hBs⟩ := C
  intro H locs ls hh hS hl
  exact lv_iconst hx hb d hv (kk H locs ls hh hS hl)
theorem x_bipush (C : xC k l E B cc nL ret own mn fr lo ce sl) {n : Int} {v : Int32} (d : decode cc pc = .ok (.bipush n, 2)) (hv : (Int8.ofInt n).toInt32 = v)
    (kk : xX k N a b σ (pc + 2) lv (.int v :: st)) : xX k N a b σ pc lv (st) := by
  obtain ⟨p, l0, e, R, s, m, args, below, meth, c, Q, E0, B0, nL0⟩ := k
  obtain ⟨rfl, rfl, rfl, rfl, hx, hb, hml, hown, hts, hk, ⟨hR1, hR2, hR3, hR4⟩, hr, hlk, hmn, hBs⟩ := C
  intro H locs ls hh hS hl
  exact lv_bipush hx hb d hv (kk H locs ls hh hS hl)
theorem x_sipush (C : xC k l E B cc nL ret own mn fr lo ce sl) {n : Int} {v : Int32} (d : decode cc pc = .ok (.sipush n, 3)) (hv : (Int16.ofInt n).toInt32 = v)
    (kk : xX k N a b σ (pc + 3) lv (.int v :: st)) : xX k N a b σ pc lv (st) := by
  obtain ⟨p, l0, e, R, s, m, args, below, meth, c, Q, E0, B0, nL0⟩ := k
  obtain ⟨rfl, rfl, rfl, rfl, hx, hb, hml, hown, hts, hk, ⟨hR1, hR2, hR3, hR4⟩, hr, hlk, hmn, hBs⟩ := C
  intro H locs ls hh hS hl
  exact lv_sipush hx hb d hv (kk H locs ls hh hS hl)
theorem x_ldc (C : xC k l E B cc nL ret own mn fr lo ce sl) {i : Nat} {v : Int32} (w : Cond.constant own i v ∈ xG) (d : decode cc pc = .ok (.ldc i, 2))
    (kk : xX k N a b σ (pc + 2) lv (.int v :: st)) : xX k N a b σ pc lv (st) := by
  obtain ⟨p, l0, e, R, s, m, args, below, meth, c, Q, E0, B0, nL0⟩ := k
  obtain ⟨rfl, rfl, rfl, rfl, hx, hb, hml, hown, hts, hk, ⟨hR1, hR2, hR3, hR4⟩, hr, hlk, hmn, hBs⟩ := C
  intro H locs ls hh hS hl
  exact lv_ldc hx hb hown (hts _ w) d (kk H locs ls hh hS hl)
theorem x_ldc2 (C : xC k l E B cc nL ret own mn fr lo ce sl) {i : Nat} {v : Int64} (w : Cond.constantLong own i v ∈ xG) (d : decode cc pc = .ok (.ldc2_w i, 3))
    (kk : xX k N a b σ (pc + 3) lv (.long v :: st)) : xX k N a b σ pc lv (st) := by
  obtain ⟨p, l0, e, R, s, m, args, below, meth, c, Q, E0, B0, nL0⟩ := k
  obtain ⟨rfl, rfl, rfl, rfl, hx, hb, hml, hown, hts, hk, ⟨hR1, hR2, hR3, hR4⟩, hr, hlk, hmn, hBs⟩ := C
  intro H locs ls hh hS hl
  exact lv_ldc2 hx hb hown (hts _ w) d (kk H locs ls hh hS hl)
theorem x_null (C : xC k l E B cc nL ret own mn fr lo ce sl) (d : decode cc pc = .ok (.aconst_null, 1))
    (kk : xX k N a b σ (pc + 1) lv (.null :: st)) : xX k N a b σ pc lv (st) := by
  obtain ⟨p, l0, e, R, s, m, args, below, meth, c, Q, E0, B0, nL0⟩ := k
  obtain ⟨rfl, rfl, rfl, rfl, hx, hb, hml, hown, hts, hk, ⟨hR1, hR2, hR3, hR4⟩, hr, hlk, hmn, hBs⟩ := C
  intro H locs ls hh hS hl
  exact lv_null hx hb d (kk H locs ls hh hS hl)
theorem x_iload_n (C : xC k l E B cc nL ret own mn fr lo ce sl) {i : Fin 4} {x : Int32} (d : decode cc pc = .ok (.iload_n i, 1)) (h : xget lv (i : Nat) = some (.int x))
    (kk : xX k N a b σ (pc + 1) lv (.int x :: st)) : xX k N a b σ pc lv (st) := by
  obtain ⟨p, l0, e, R, s, m, args, below, meth, c, Q, E0, B0, nL0⟩ := k
  obtain ⟨rfl, rfl, rfl, rfl, hx, hb, hml, hown, hts, hk, ⟨hR1, hR2, hR3, hR4⟩, hr, hlk, hmn, hBs⟩ := C
  intro H locs ls hh hS hl
  exact lv_iload_n hx hb d rfl (xat hl h) (kk H locs ls hh hS hl)
theorem x_iload (C : xC k l E B cc nL ret own mn fr lo ce sl) {i : Nat} {x : Int32} (d : decode cc pc = .ok (.iload i, 2)) (h : xget lv i = some (.int x))
    (kk : xX k N a b σ (pc + 2) lv (.int x :: st)) : xX k N a b σ pc lv (st) := by
  obtain ⟨p, l0, e, R, s, m, args, below, meth, c, Q, E0, B0, nL0⟩ := k
  obtain ⟨rfl, rfl, rfl, rfl, hx, hb, hml, hown, hts, hk, ⟨hR1, hR2, hR3, hR4⟩, hr, hlk, hmn, hBs⟩ := C
  intro H locs ls hh hS hl
  exact lv_iload hx hb d (xat hl h) (kk H locs ls hh hS hl)
theorem x_lload_n (C : xC k l E B cc nL ret own mn fr lo ce sl) {i : Fin 4} {x : Int64} (d : decode cc pc = .ok (.lload_n i, 1)) (h : xget lv (i : Nat) = some (.long x))
    (kk : xX k N a b σ (pc + 1) lv (.long x :: st)) : xX k N a b σ pc lv (st) := by
  obtain ⟨p, l0, e, R, s, m, args, below, meth, c, Q, E0, B0, nL0⟩ := k
  obtain ⟨rfl, rfl, rfl, rfl, hx, hb, hml, hown, hts, hk, ⟨hR1, hR2, hR3, hR4⟩, hr, hlk, hmn, hBs⟩ := C
  intro H locs ls hh hS hl
  exact lv_lload_n hx hb d rfl (xat hl h) (kk H locs ls hh hS hl)
theorem x_lload (C : xC k l E B cc nL ret own mn fr lo ce sl) {i : Nat} {x : Int64} (d : decode cc pc = .ok (.lload i, 2)) (h : xget lv i = some (.long x))
    (kk : xX k N a b σ (pc + 2) lv (.long x :: st)) : xX k N a b σ pc lv (st) := by
  obtain ⟨p, l0, e, R, s, m, args, below, meth, c, Q, E0, B0, nL0⟩ := k
  obtain ⟨rfl, rfl, rfl, rfl, hx, hb, hml, hown, hts, hk, ⟨hR1, hR2, hR3, hR4⟩, hr, hlk, hmn, hBs⟩ := C
  intro H locs ls hh hS hl
  exact lv_lload hx hb d (xat hl h) (kk H locs ls hh hS hl)
theorem x_aload_n (C : xC k l E B cc nL ret own mn fr lo ce sl) {i : Fin 4} {x : Nat} (d : decode cc pc = .ok (.aload_n i, 1)) (h : xget lv (i : Nat) = some (.ref x))
    (kk : xX k N a b σ (pc + 1) lv (.ref x :: st)) : xX k N a b σ pc lv (st) := by
  obtain ⟨p, l0, e, R, s, m, args, below, meth, c, Q, E0, B0, nL0⟩ := k
  obtain ⟨rfl, rfl, rfl, rfl, hx, hb, hml, hown, hts, hk, ⟨hR1, hR2, hR3, hR4⟩, hr, hlk, hmn, hBs⟩ := C
  intro H locs ls hh hS hl
  exact lv_aload_n hx hb d rfl (xat hl h) (kk H locs ls hh hS hl)
theorem x_aload (C : xC k l E B cc nL ret own mn fr lo ce sl) {i : Nat} {x : Nat} (d : decode cc pc = .ok (.aload i, 2)) (h : xget lv i = some (.ref x))
    (kk : xX k N a b σ (pc + 2) lv (.ref x :: st)) : xX k N a b σ pc lv (st) := by
  obtain ⟨p, l0, e, R, s, m, args, below, meth, c, Q, E0, B0, nL0⟩ := k
  obtain ⟨rfl, rfl, rfl, rfl, hx, hb, hml, hown, hts, hk, ⟨hR1, hR2, hR3, hR4⟩, hr, hlk, hmn, hBs⟩ := C
  intro H locs ls hh hS hl
  exact lv_aload hx hb d (xat hl h) (kk H locs ls hh hS hl)
theorem x_aload_nN (C : xC k l E B cc nL ret own mn fr lo ce sl) {i : Fin 4} (d : decode cc pc = .ok (.aload_n i, 1)) (h : xget lv (i : Nat) = some .null)
    (kk : xX k N a b σ (pc + 1) lv (.null :: st)) : xX k N a b σ pc lv (st) := by
  obtain ⟨p, l0, e, R, s, m, args, below, meth, c, Q, E0, B0, nL0⟩ := k
  obtain ⟨rfl, rfl, rfl, rfl, hx, hb, hml, hown, hts, hk, ⟨hR1, hR2, hR3, hR4⟩, hr, hlk, hmn, hBs⟩ := C
  intro H locs ls hh hS hl
  exact lv_aload_nN hx hb d rfl (xat hl h) (kk H locs ls hh hS hl)
theorem x_aloadN (C : xC k l E B cc nL ret own mn fr lo ce sl) {i : Nat} (d : decode cc pc = .ok (.aload i, 2)) (h : xget lv i = some .null)
    (kk : xX k N a b σ (pc + 2) lv (.null :: st)) : xX k N a b σ pc lv (st) := by
  obtain ⟨p, l0, e, R, s, m, args, below, meth, c, Q, E0, B0, nL0⟩ := k
  obtain ⟨rfl, rfl, rfl, rfl, hx, hb, hml, hown, hts, hk, ⟨hR1, hR2, hR3, hR4⟩, hr, hlk, hmn, hBs⟩ := C
  intro H locs ls hh hS hl
  exact lv_aloadN hx hb d (xat hl h) (kk H locs ls hh hS hl)
theorem x_istore_n (C : xC k l E B cc nL ret own mn fr lo ce sl) {i : Fin 4} {x : Int32} (d : decode cc pc = .ok (.istore_n i, 1)) (hn : (i : Nat) < nL) (ho : xnl lv (i : Nat) = true)
    (kk : xX k N a b σ (pc + 1) (xset lv (i : Nat) (.int x)) st) : xX k N a b σ pc lv (.int x :: st) := by
  obtain ⟨p, l0, e, R, s, m, args, below, meth, c, Q, E0, B0, nL0⟩ := k
  obtain ⟨rfl, rfl, rfl, rfl, hx, hb, hml, hown, hts, hk, ⟨hR1, hR2, hR3, hR4⟩, hr, hlk, hmn, hBs⟩ := C
  intro H locs ls hh hS hl
  exact lv_istore_n hx hb d rfl hl hn rfl (fun ls2 hl2 => kk H locs ls2 hh hS (xst1 ho hl2))
theorem x_istore (C : xC k l E B cc nL ret own mn fr lo ce sl) {i : Nat} {x : Int32} (d : decode cc pc = .ok (.istore i, 2)) (hn : (i : Nat) < nL) (ho : xnl lv i = true)
    (kk : xX k N a b σ (pc + 2) (xset lv i (.int x)) st) : xX k N a b σ pc lv (.int x :: st) := by
  obtain ⟨p, l0, e, R, s, m, args, below, meth, c, Q, E0, B0, nL0⟩ := k
  obtain ⟨rfl, rfl, rfl, rfl, hx, hb, hml, hown, hts, hk, ⟨hR1, hR2, hR3, hR4⟩, hr, hlk, hmn, hBs⟩ := C
  intro H locs ls hh hS hl
  exact lv_istore hx hb d hl hn rfl (fun ls2 hl2 => kk H locs ls2 hh hS (xst1 ho hl2))
theorem x_lstore_n (C : xC k l E B cc nL ret own mn fr lo ce sl) {i : Fin 4} {x : Int64} (d : decode cc pc = .ok (.lstore_n i, 1)) (hn : (i : Nat) + 1 < nL) (ho : xnl lv (i : Nat) = true)
    (kk : xX k N a b σ (pc + 1) (xset2 lv (i : Nat) (.long x)) st) : xX k N a b σ pc lv (.long x :: st) := by
  obtain ⟨p, l0, e, R, s, m, args, below, meth, c, Q, E0, B0, nL0⟩ := k
  obtain ⟨rfl, rfl, rfl, rfl, hx, hb, hml, hown, hts, hk, ⟨hR1, hR2, hR3, hR4⟩, hr, hlk, hmn, hBs⟩ := C
  intro H locs ls hh hS hl
  exact lv_lstore_n hx hb d rfl hl hn rfl (fun ls2 hl2 => kk H locs ls2 hh hS (xst2 ho hl2))
theorem x_lstore (C : xC k l E B cc nL ret own mn fr lo ce sl) {i : Nat} {x : Int64} (d : decode cc pc = .ok (.lstore i, 2)) (hn : (i : Nat) + 1 < nL) (ho : xnl lv i = true)
    (kk : xX k N a b σ (pc + 2) (xset2 lv i (.long x)) st) : xX k N a b σ pc lv (.long x :: st) := by
  obtain ⟨p, l0, e, R, s, m, args, below, meth, c, Q, E0, B0, nL0⟩ := k
  obtain ⟨rfl, rfl, rfl, rfl, hx, hb, hml, hown, hts, hk, ⟨hR1, hR2, hR3, hR4⟩, hr, hlk, hmn, hBs⟩ := C
  intro H locs ls hh hS hl
  exact lv_lstore hx hb d hl hn rfl (fun ls2 hl2 => kk H locs ls2 hh hS (xst2 ho hl2))
theorem x_astore_n (C : xC k l E B cc nL ret own mn fr lo ce sl) {i : Fin 4} {x : Nat} (d : decode cc pc = .ok (.astore_n i, 1)) (hn : (i : Nat) < nL) (ho : xnl lv (i : Nat) = true)
    (kk : xX k N a b σ (pc + 1) (xset lv (i : Nat) (.ref x)) st) : xX k N a b σ pc lv (.ref x :: st) := by
  obtain ⟨p, l0, e, R, s, m, args, below, meth, c, Q, E0, B0, nL0⟩ := k
  obtain ⟨rfl, rfl, rfl, rfl, hx, hb, hml, hown, hts, hk, ⟨hR1, hR2, hR3, hR4⟩, hr, hlk, hmn, hBs⟩ := C
  intro H locs ls hh hS hl
  exact lv_astore_n hx hb d rfl hl hn rfl (fun ls2 hl2 => kk H locs ls2 hh hS (xst1 ho hl2))
theorem x_astore (C : xC k l E B cc nL ret own mn fr lo ce sl) {i : Nat} {x : Nat} (d : decode cc pc = .ok (.astore i, 2)) (hn : (i : Nat) < nL) (ho : xnl lv i = true)
    (kk : xX k N a b σ (pc + 2) (xset lv i (.ref x)) st) : xX k N a b σ pc lv (.ref x :: st) := by
  obtain ⟨p, l0, e, R, s, m, args, below, meth, c, Q, E0, B0, nL0⟩ := k
  obtain ⟨rfl, rfl, rfl, rfl, hx, hb, hml, hown, hts, hk, ⟨hR1, hR2, hR3, hR4⟩, hr, hlk, hmn, hBs⟩ := C
  intro H locs ls hh hS hl
  exact lv_astore hx hb d hl hn rfl (fun ls2 hl2 => kk H locs ls2 hh hS (xst1 ho hl2))
theorem x_astore_nN (C : xC k l E B cc nL ret own mn fr lo ce sl) {i : Fin 4} (d : decode cc pc = .ok (.astore_n i, 1)) (hn : (i : Nat) < nL) (ho : xnl lv (i : Nat) = true)
    (kk : xX k N a b σ (pc + 1) (xset lv (i : Nat) .null) st) : xX k N a b σ pc lv (.null :: st) := by
  obtain ⟨p, l0, e, R, s, m, args, below, meth, c, Q, E0, B0, nL0⟩ := k
  obtain ⟨rfl, rfl, rfl, rfl, hx, hb, hml, hown, hts, hk, ⟨hR1, hR2, hR3, hR4⟩, hr, hlk, hmn, hBs⟩ := C
  intro H locs ls hh hS hl
  exact lv_astore_nN hx hb d rfl hl hn rfl (fun ls2 hl2 => kk H locs ls2 hh hS (xst1 ho hl2))
theorem x_astoreN (C : xC k l E B cc nL ret own mn fr lo ce sl) {i : Nat} (d : decode cc pc = .ok (.astore i, 2)) (hn : i < nL) (ho : xnl lv i = true)
    (kk : xX k N a b σ (pc + 2) (xset lv i .null) st) : xX k N a b σ pc lv (.null :: st) := by
  obtain ⟨p, l0, e, R, s, m, args, below, meth, c, Q, E0, B0, nL0⟩ := k
  obtain ⟨rfl, rfl, rfl, rfl, hx, hb, hml, hown, hts, hk, ⟨hR1, hR2, hR3, hR4⟩, hr, hlk, hmn, hBs⟩ := C
  intro H locs ls hh hS hl
  exact lv_astoreN hx hb d hl hn rfl (fun ls2 hl2 => kk H locs ls2 hh hS (xst1 ho hl2))
theorem x_iinc (C : xC k l E B cc nL ret own mn fr lo ce sl) {i : Nat} {n : Int} {x v : Int32} (d : decode cc pc = .ok (.iinc i n, 3)) (h : xget lv i = some (.int x)) (hv : x + Int32.ofInt n = v) (hn : i < nL) (ho : xnl lv i = true)
    (kk : xX k N a b σ (pc + 3) (xset lv i (.int v)) st) : xX k N a b σ pc lv st := by
  obtain ⟨p, l0, e, R, s, m, args, below, meth, c, Q, E0, B0, nL0⟩ := k
  obtain ⟨rfl, rfl, rfl, rfl, hx, hb, hml, hown, hts, hk, ⟨hR1, hR2, hR3, hR4⟩, hr, hlk, hmn, hBs⟩ := C
  intro H locs ls hh hS hl
  have h1 := xget_mem lv 0 i _ h
  rw [Nat.zero_add] at h1
  obtain ⟨j, hj⟩ := List.getElem?_of_mem h1
  exact lv_iinc hx hb d hl (k := j) hj hv hn rfl (fun ls2 hl2 => kk H locs ls2 hh hS (xst1 ho hl2))
theorem x_iadd (C : xC k l E B cc nL ret own mn fr lo ce sl) {x y : Int32} (d : decode cc pc = .ok (.iadd, 1))
    (kk : xX k N a b σ (pc + 1) lv (.int (x + y) :: st)) : xX k N a b σ pc lv (.int y :: .int x :: st) := by
  obtain ⟨p, l0, e, R, s, m, args, below, meth, c, Q, E0, B0, nL0⟩ := k
  obtain ⟨rfl, rfl, rfl, rfl, hx, hb, hml, hown, hts, hk, ⟨hR1, hR2, hR3, hR4⟩, hr, hlk, hmn, hBs⟩ := C
  intro H locs ls hh hS hl
  exact lv_iadd hx hb d (kk H locs ls hh hS hl)
theorem x_isub (C : xC k l E B cc nL ret own mn fr lo ce sl) {x y : Int32} (d : decode cc pc = .ok (.isub, 1))
    (kk : xX k N a b σ (pc + 1) lv (.int (x - y) :: st)) : xX k N a b σ pc lv (.int y :: .int x :: st) := by
  obtain ⟨p, l0, e, R, s, m, args, below, meth, c, Q, E0, B0, nL0⟩ := k
  obtain ⟨rfl, rfl, rfl, rfl, hx, hb, hml, hown, hts, hk, ⟨hR1, hR2, hR3, hR4⟩, hr, hlk, hmn, hBs⟩ := C
  intro H locs ls hh hS hl
  exact lv_isub hx hb d (kk H locs ls hh hS hl)
theorem x_imul (C : xC k l E B cc nL ret own mn fr lo ce sl) {x y : Int32} (d : decode cc pc = .ok (.imul, 1))
    (kk : xX k N a b σ (pc + 1) lv (.int (x * y) :: st)) : xX k N a b σ pc lv (.int y :: .int x :: st) := by
  obtain ⟨p, l0, e, R, s, m, args, below, meth, c, Q, E0, B0, nL0⟩ := k
  obtain ⟨rfl, rfl, rfl, rfl, hx, hb, hml, hown, hts, hk, ⟨hR1, hR2, hR3, hR4⟩, hr, hlk, hmn, hBs⟩ := C
  intro H locs ls hh hS hl
  exact lv_imul hx hb d (kk H locs ls hh hS hl)
theorem x_iand (C : xC k l E B cc nL ret own mn fr lo ce sl) {x y : Int32} (d : decode cc pc = .ok (.iand, 1))
    (kk : xX k N a b σ (pc + 1) lv (.int (x &&& y) :: st)) : xX k N a b σ pc lv (.int y :: .int x :: st) := by
  obtain ⟨p, l0, e, R, s, m, args, below, meth, c, Q, E0, B0, nL0⟩ := k
  obtain ⟨rfl, rfl, rfl, rfl, hx, hb, hml, hown, hts, hk, ⟨hR1, hR2, hR3, hR4⟩, hr, hlk, hmn, hBs⟩ := C
  intro H locs ls hh hS hl
  exact lv_iand hx hb d (kk H locs ls hh hS hl)
theorem x_idiv (C : xC k l E B cc nL ret own mn fr lo ce sl) {x y : Int32} (d : decode cc pc = .ok (.idiv, 1)) (h : ¬ y = 0)
    (kk : xX k N a b σ (pc + 1) lv (.int (x / y) :: st)) : xX k N a b σ pc lv (.int y :: .int x :: st) := by
  obtain ⟨p, l0, e, R, s, m, args, below, meth, c, Q, E0, B0, nL0⟩ := k
  obtain ⟨rfl, rfl, rfl, rfl, hx, hb, hml, hown, hts, hk, ⟨hR1, hR2, hR3, hR4⟩, hr, hlk, hmn, hBs⟩ := C
  intro H locs ls hh hS hl
  exact lv_idiv hx hb d h (kk H locs ls hh hS hl)
theorem x_irem (C : xC k l E B cc nL ret own mn fr lo ce sl) {x y : Int32} (d : decode cc pc = .ok (.irem, 1)) (h : ¬ y = 0)
    (kk : xX k N a b σ (pc + 1) lv (.int (x - x / y * y) :: st)) : xX k N a b σ pc lv (.int y :: .int x :: st) := by
  obtain ⟨p, l0, e, R, s, m, args, below, meth, c, Q, E0, B0, nL0⟩ := k
  obtain ⟨rfl, rfl, rfl, rfl, hx, hb, hml, hown, hts, hk, ⟨hR1, hR2, hR3, hR4⟩, hr, hlk, hmn, hBs⟩ := C
  intro H locs ls hh hS hl
  exact lv_irem hx hb d h (kk H locs ls hh hS hl)
theorem x_ineg (C : xC k l E B cc nL ret own mn fr lo ce sl) {x : Int32} (d : decode cc pc = .ok (.ineg, 1))
    (kk : xX k N a b σ (pc + 1) lv (.int (-x) :: st)) : xX k N a b σ pc lv (.int x :: st) := by
  obtain ⟨p, l0, e, R, s, m, args, below, meth, c, Q, E0, B0, nL0⟩ := k
  obtain ⟨rfl, rfl, rfl, rfl, hx, hb, hml, hown, hts, hk, ⟨hR1, hR2, hR3, hR4⟩, hr, hlk, hmn, hBs⟩ := C
  intro H locs ls hh hS hl
  exact lv_ineg hx hb d (kk H locs ls hh hS hl)
theorem x_ishr (C : xC k l E B cc nL ret own mn fr lo ce sl) {x y : Int32} (d : decode cc pc = .ok (.ishr, 1))
    (kk : xX k N a b σ (pc + 1) lv (.int (x >>> (y &&& 31)) :: st)) : xX k N a b σ pc lv (.int y :: .int x :: st) := by
  obtain ⟨p, l0, e, R, s, m, args, below, meth, c, Q, E0, B0, nL0⟩ := k
  obtain ⟨rfl, rfl, rfl, rfl, hx, hb, hml, hown, hts, hk, ⟨hR1, hR2, hR3, hR4⟩, hr, hlk, hmn, hBs⟩ := C
  intro H locs ls hh hS hl
  exact lv_ishr hx hb d (kk H locs ls hh hS hl)
theorem x_ladd (C : xC k l E B cc nL ret own mn fr lo ce sl) {x y : Int64} (d : decode cc pc = .ok (.ladd, 1))
    (kk : xX k N a b σ (pc + 1) lv (.long (x + y) :: st)) : xX k N a b σ pc lv (.long y :: .long x :: st) := by
  obtain ⟨p, l0, e, R, s, m, args, below, meth, c, Q, E0, B0, nL0⟩ := k
  obtain ⟨rfl, rfl, rfl, rfl, hx, hb, hml, hown, hts, hk, ⟨hR1, hR2, hR3, hR4⟩, hr, hlk, hmn, hBs⟩ := C
  intro H locs ls hh hS hl
  exact lv_ladd hx hb d (kk H locs ls hh hS hl)
theorem x_lmul (C : xC k l E B cc nL ret own mn fr lo ce sl) {x y : Int64} (d : decode cc pc = .ok (.lmul, 1))
    (kk : xX k N a b σ (pc + 1) lv (.long (x * y) :: st)) : xX k N a b σ pc lv (.long y :: .long x :: st) := by
  obtain ⟨p, l0, e, R, s, m, args, below, meth, c, Q, E0, B0, nL0⟩ := k
  obtain ⟨rfl, rfl, rfl, rfl, hx, hb, hml, hown, hts, hk, ⟨hR1, hR2, hR3, hR4⟩, hr, hlk, hmn, hBs⟩ := C
  intro H locs ls hh hS hl
  exact lv_lmul hx hb d (kk H locs ls hh hS hl)
theorem x_i2l (C : xC k l E B cc nL ret own mn fr lo ce sl) {x : Int32} (d : decode cc pc = .ok (.i2l, 1))
    (kk : xX k N a b σ (pc + 1) lv (.long x.toInt64 :: st)) : xX k N a b σ pc lv (.int x :: st) := by
  obtain ⟨p, l0, e, R, s, m, args, below, meth, c, Q, E0, B0, nL0⟩ := k
  obtain ⟨rfl, rfl, rfl, rfl, hx, hb, hml, hown, hts, hk, ⟨hR1, hR2, hR3, hR4⟩, hr, hlk, hmn, hBs⟩ := C
  intro H locs ls hh hS hl
  exact lv_i2l hx hb d rfl (kk H locs ls hh hS hl)
theorem x_i2c (C : xC k l E B cc nL ret own mn fr lo ce sl) {x v : Int32} (d : decode cc pc = .ok (.i2c, 1)) (hv : (x.toUInt32 % 65536).toInt32 = v)
    (kk : xX k N a b σ (pc + 1) lv (.int v :: st)) : xX k N a b σ pc lv (.int x :: st) := by
  obtain ⟨p, l0, e, R, s, m, args, below, meth, c, Q, E0, B0, nL0⟩ := k
  obtain ⟨rfl, rfl, rfl, rfl, hx, hb, hml, hown, hts, hk, ⟨hR1, hR2, hR3, hR4⟩, hr, hlk, hmn, hBs⟩ := C
  intro H locs ls hh hS hl
  exact lv_i2c hx hb d hv (kk H locs ls hh hS hl)
theorem x_dup (C : xC k l E B cc nL ret own mn fr lo ce sl) {v : Value} (d : decode cc pc = .ok (.dup, 1)) (hc : v.category = 1)
    (kk : xX k N a b σ (pc + 1) lv (v :: v :: st)) : xX k N a b σ pc lv (v :: st) := by
  obtain ⟨p, l0, e, R, s, m, args, below, meth, c, Q, E0, B0, nL0⟩ := k
  obtain ⟨rfl, rfl, rfl, rfl, hx, hb, hml, hown, hts, hk, ⟨hR1, hR2, hR3, hR4⟩, hr, hlk, hmn, hBs⟩ := C
  intro H locs ls hh hS hl
  exact lv_dup hx hb d hc (kk H locs ls hh hS hl)
theorem x_dup2 (C : xC k l E B cc nL ret own mn fr lo ce sl) {v u : Value} (d : decode cc pc = .ok (.dup2, 1)) (hc : v.category = 1) (hc2 : u.category = 1)
    (kk : xX k N a b σ (pc + 1) lv (v :: u :: v :: u :: st)) : xX k N a b σ pc lv (v :: u :: st) := by
  obtain ⟨p, l0, e, R, s, m, args, below, meth, c, Q, E0, B0, nL0⟩ := k
  obtain ⟨rfl, rfl, rfl, rfl, hx, hb, hml, hown, hts, hk, ⟨hR1, hR2, hR3, hR4⟩, hr, hlk, hmn, hBs⟩ := C
  intro H locs ls hh hS hl
  exact lv_dup2_11 hx hb d hc hc2 (kk H locs ls hh hS hl)
theorem x_pop (C : xC k l E B cc nL ret own mn fr lo ce sl) {v : Value} (d : decode cc pc = .ok (.pop, 1)) (hc : v.category = 1)
    (kk : xX k N a b σ (pc + 1) lv (st)) : xX k N a b σ pc lv (v :: st) := by
  obtain ⟨p, l0, e, R, s, m, args, below, meth, c, Q, E0, B0, nL0⟩ := k
  obtain ⟨rfl, rfl, rfl, rfl, hx, hb, hml, hown, hts, hk, ⟨hR1, hR2, hR3, hR4⟩, hr, hlk, hmn, hBs⟩ := C
  intro H locs ls hh hS hl
  exact lv_pop hx hb d hc (kk H locs ls hh hS hl)
theorem x_if_eq (C : xC k l E B cc nL ret own mn fr lo ce sl) {x : Int32} {off : Int} (tgt : Nat) (d : decode cc pc = .ok (.ifCond .eq off, 3)) (ht : (pc : Int) + off = (tgt : Int))
    (kt : x = 0 → xX k N a b σ (tgt) lv (st)) (kf : ¬ x = 0 → xX k N a b σ (pc + 3) lv (st)) : xX k N a b σ pc lv (.int x :: st) := by
  obtain ⟨p, l0, e, R, s, m, args, below, meth, c, Q, E0, B0, nL0⟩ := k
  obtain ⟨rfl, rfl, rfl, rfl, hx, hb, hml, hown, hts, hk, ⟨hR1, hR2, hR3, hR4⟩, hr, hlk, hmn, hBs⟩ := C
  intro H locs ls hh hS hl
  exact lv_if_eq hx hb d ht (fun h => kt h H locs ls hh hS hl) (fun h => kf h H locs ls hh hS hl)
theorem x_ic_eq (C : xC k l E B cc nL ret own mn fr lo ce sl) {x y : Int32} {off : Int} (tgt : Nat) (d : decode cc pc = .ok (.if_icmp .eq off, 3)) (ht : (pc : Int) + off = (tgt : Int))
    (kt : x = y → xX k N a b σ (tgt) lv (st)) (kf : ¬ x = y → xX k N a b σ (pc + 3) lv (st)) : xX k N a b σ pc lv (.int y :: .int x :: st) := by
  obtain ⟨p, l0, e, R, s, m, args, below, meth, c, Q, E0, B0, nL0⟩ := k
  obtain ⟨rfl, rfl, rfl, rfl, hx, hb, hml, hown, hts, hk, ⟨hR1, hR2, hR3, hR4⟩, hr, hlk, hmn, hBs⟩ := C
  intro H locs ls hh hS hl
  exact lv_icmp_eq hx hb d ht (fun h => kt h H locs ls hh hS hl) (fun h => kf h H locs ls hh hS hl)
theorem x_if_ne (C : xC k l E B cc nL ret own mn fr lo ce sl) {x : Int32} {off : Int} (tgt : Nat) (d : decode cc pc = .ok (.ifCond .ne off, 3)) (ht : (pc : Int) + off = (tgt : Int))
    (kt : ¬ x = 0 → xX k N a b σ (tgt) lv (st)) (kf : x = 0 → xX k N a b σ (pc + 3) lv (st)) : xX k N a b σ pc lv (.int x :: st) := by
  obtain ⟨p, l0, e, R, s, m, args, below, meth, c, Q, E0, B0, nL0⟩ := k
  obtain ⟨rfl, rfl, rfl, rfl, hx, hb, hml, hown, hts, hk, ⟨hR1, hR2, hR3, hR4⟩, hr, hlk, hmn, hBs⟩ := C
  intro H locs ls hh hS hl
  exact lv_if_ne hx hb d ht (fun h => kt h H locs ls hh hS hl) (fun h => kf h H locs ls hh hS hl)
theorem x_ic_ne (C : xC k l E B cc nL ret own mn fr lo ce sl) {x y : Int32} {off : Int} (tgt : Nat) (d : decode cc pc = .ok (.if_icmp .ne off, 3)) (ht : (pc : Int) + off = (tgt : Int))
    (kt : ¬ x = y → xX k N a b σ (tgt) lv (st)) (kf : x = y → xX k N a b σ (pc + 3) lv (st)) : xX k N a b σ pc lv (.int y :: .int x :: st) := by
  obtain ⟨p, l0, e, R, s, m, args, below, meth, c, Q, E0, B0, nL0⟩ := k
  obtain ⟨rfl, rfl, rfl, rfl, hx, hb, hml, hown, hts, hk, ⟨hR1, hR2, hR3, hR4⟩, hr, hlk, hmn, hBs⟩ := C
  intro H locs ls hh hS hl
  exact lv_icmp_ne hx hb d ht (fun h => kt h H locs ls hh hS hl) (fun h => kf h H locs ls hh hS hl)
theorem x_if_lt (C : xC k l E B cc nL ret own mn fr lo ce sl) {x : Int32} {off : Int} (tgt : Nat) (d : decode cc pc = .ok (.ifCond .lt off, 3)) (ht : (pc : Int) + off = (tgt : Int))
    (kt : x < 0 → xX k N a b σ (tgt) lv (st)) (kf : ¬ x < 0 → xX k N a b σ (pc + 3) lv (st)) : xX k N a b σ pc lv (.int x :: st) := by
  obtain ⟨p, l0, e, R, s, m, args, below, meth, c, Q, E0, B0, nL0⟩ := k
  obtain ⟨rfl, rfl, rfl, rfl, hx, hb, hml, hown, hts, hk, ⟨hR1, hR2, hR3, hR4⟩, hr, hlk, hmn, hBs⟩ := C
  intro H locs ls hh hS hl
  exact lv_if_lt hx hb d ht (fun h => kt h H locs ls hh hS hl) (fun h => kf h H locs ls hh hS hl)
theorem x_ic_lt (C : xC k l E B cc nL ret own mn fr lo ce sl) {x y : Int32} {off : Int} (tgt : Nat) (d : decode cc pc = .ok (.if_icmp .lt off, 3)) (ht : (pc : Int) + off = (tgt : Int))
    (kt : x < y → xX k N a b σ (tgt) lv (st)) (kf : ¬ x < y → xX k N a b σ (pc + 3) lv (st)) : xX k N a b σ pc lv (.int y :: .int x :: st) := by
  obtain ⟨p, l0, e, R, s, m, args, below, meth, c, Q, E0, B0, nL0⟩ := k
  obtain ⟨rfl, rfl, rfl, rfl, hx, hb, hml, hown, hts, hk, ⟨hR1, hR2, hR3, hR4⟩, hr, hlk, hmn, hBs⟩ := C
  intro H locs ls hh hS hl
  exact lv_icmp_lt hx hb d ht (fun h => kt h H locs ls hh hS hl) (fun h => kf h H locs ls hh hS hl)
theorem x_if_ge (C : xC k l E B cc nL ret own mn fr lo ce sl) {x : Int32} {off : Int} (tgt : Nat) (d : decode cc pc = .ok (.ifCond .ge off, 3)) (ht : (pc : Int) + off = (tgt : Int))
    (kt : 0 ≤ x → xX k N a b σ (tgt) lv (st)) (kf : ¬ 0 ≤ x → xX k N a b σ (pc + 3) lv (st)) : xX k N a b σ pc lv (.int x :: st) := by
  obtain ⟨p, l0, e, R, s, m, args, below, meth, c, Q, E0, B0, nL0⟩ := k
  obtain ⟨rfl, rfl, rfl, rfl, hx, hb, hml, hown, hts, hk, ⟨hR1, hR2, hR3, hR4⟩, hr, hlk, hmn, hBs⟩ := C
  intro H locs ls hh hS hl
  exact lv_if_ge hx hb d ht (fun h => kt h H locs ls hh hS hl) (fun h => kf h H locs ls hh hS hl)
theorem x_ic_ge (C : xC k l E B cc nL ret own mn fr lo ce sl) {x y : Int32} {off : Int} (tgt : Nat) (d : decode cc pc = .ok (.if_icmp .ge off, 3)) (ht : (pc : Int) + off = (tgt : Int))
    (kt : y ≤ x → xX k N a b σ (tgt) lv (st)) (kf : ¬ y ≤ x → xX k N a b σ (pc + 3) lv (st)) : xX k N a b σ pc lv (.int y :: .int x :: st) := by
  obtain ⟨p, l0, e, R, s, m, args, below, meth, c, Q, E0, B0, nL0⟩ := k
  obtain ⟨rfl, rfl, rfl, rfl, hx, hb, hml, hown, hts, hk, ⟨hR1, hR2, hR3, hR4⟩, hr, hlk, hmn, hBs⟩ := C
  intro H locs ls hh hS hl
  exact lv_icmp_ge hx hb d ht (fun h => kt h H locs ls hh hS hl) (fun h => kf h H locs ls hh hS hl)
theorem x_if_gt (C : xC k l E B cc nL ret own mn fr lo ce sl) {x : Int32} {off : Int} (tgt : Nat) (d : decode cc pc = .ok (.ifCond .gt off, 3)) (ht : (pc : Int) + off = (tgt : Int))
    (kt : 0 < x → xX k N a b σ (tgt) lv (st)) (kf : ¬ 0 < x → xX k N a b σ (pc + 3) lv (st)) : xX k N a b σ pc lv (.int x :: st) := by
  obtain ⟨p, l0, e, R, s, m, args, below, meth, c, Q, E0, B0, nL0⟩ := k
  obtain ⟨rfl, rfl, rfl, rfl, hx, hb, hml, hown, hts, hk, ⟨hR1, hR2, hR3, hR4⟩, hr, hlk, hmn, hBs⟩ := C
  intro H locs ls hh hS hl
  exact lv_if_gt hx hb d ht (fun h => kt h H locs ls hh hS hl) (fun h => kf h H locs ls hh hS hl)
theorem x_ic_gt (C : xC k l E B cc nL ret own mn fr lo ce sl) {x y : Int32} {off : Int} (tgt : Nat) (d : decode cc pc = .ok (.if_icmp .gt off, 3)) (ht : (pc : Int) + off = (tgt : Int))
    (kt : y < x → xX k N a b σ (tgt) lv (st)) (kf : ¬ y < x → xX k N a b σ (pc + 3) lv (st)) : xX k N a b σ pc lv (.int y :: .int x :: st) := by
  obtain ⟨p, l0, e, R, s, m, args, below, meth, c, Q, E0, B0, nL0⟩ := k
  obtain ⟨rfl, rfl, rfl, rfl, hx, hb, hml, hown, hts, hk, ⟨hR1, hR2, hR3, hR4⟩, hr, hlk, hmn, hBs⟩ := C
  intro H locs ls hh hS hl
  exact lv_icmp_gt hx hb d ht (fun h => kt h H locs ls hh hS hl) (fun h => kf h H locs ls hh hS hl)
theorem x_if_le (C : xC k l E B cc nL ret own mn fr lo ce sl) {x : Int32} {off : Int} (tgt : Nat) (d : decode cc pc = .ok (.ifCond .le off, 3)) (ht : (pc : Int) + off = (tgt : Int))
    (kt : x ≤ 0 → xX k N a b σ (tgt) lv (st)) (kf : ¬ x ≤ 0 → xX k N a b σ (pc + 3) lv (st)) : xX k N a b σ pc lv (.int x :: st) := by
  obtain ⟨p, l0, e, R, s, m, args, below, meth, c, Q, E0, B0, nL0⟩ := k
  obtain ⟨rfl, rfl, rfl, rfl, hx, hb, hml, hown, hts, hk, ⟨hR1, hR2, hR3, hR4⟩, hr, hlk, hmn, hBs⟩ := C
  intro H locs ls hh hS hl
  exact lv_if_le hx hb d ht (fun h => kt h H locs ls hh hS hl) (fun h => kf h H locs ls hh hS hl)
theorem x_ic_le (C : xC k l E B cc nL ret own mn fr lo ce sl) {x y : Int32} {off : Int} (tgt : Nat) (d : decode cc pc = .ok (.if_icmp .le off, 3)) (ht : (pc : Int) + off = (tgt : Int))
    (kt : x ≤ y → xX k N a b σ (tgt) lv (st)) (kf : ¬ x ≤ y → xX k N a b σ (pc + 3) lv (st)) : xX k N a b σ pc lv (.int y :: .int x :: st) := by
  obtain ⟨p, l0, e, R, s, m, args, below, meth, c, Q, E0, B0, nL0⟩ := k
  obtain ⟨rfl, rfl, rfl, rfl, hx, hb, hml, hown, hts, hk, ⟨hR1, hR2, hR3, hR4⟩, hr, hlk, hmn, hBs⟩ := C
  intro H locs ls hh hS hl
  exact lv_icmp_le hx hb d ht (fun h => kt h H locs ls hh hS hl) (fun h => kf h H locs ls hh hS hl)
theorem x_goto (C : xC k l E B cc nL ret own mn fr lo ce sl) {off : Int} (tgt : Nat) (d : decode cc pc = .ok (.goto off, 3)) (ht : (pc : Int) + off = (tgt : Int))
    (kk : xX k N a b σ (tgt) lv (st)) : xX k N a b σ pc lv (st) := by
  obtain ⟨p, l0, e, R, s, m, args, below, meth, c, Q, E0, B0, nL0⟩ := k
  obtain ⟨rfl, rfl, rfl, rfl, hx, hb, hml, hown, hts, hk, ⟨hR1, hR2, hR3, hR4⟩, hr, hlk, hmn, hBs⟩ := C
  intro H locs ls hh hS hl
  exact lv_goto hx hb d ht (kk H locs ls hh hS hl)
theorem x_ifnull (C : xC k l E B cc nL ret own mn fr lo ce sl) {x : Nat} {off : Int} (d : decode cc pc = .ok (.ifnull off, 3))
    (kk : xX k N a b σ (pc + 3) lv (st)) : xX k N a b σ pc lv (.ref x :: st) := by
  obtain ⟨p, l0, e, R, s, m, args, below, meth, c, Q, E0, B0, nL0⟩ := k
  obtain ⟨rfl, rfl, rfl, rfl, hx, hb, hml, hown, hts, hk, ⟨hR1, hR2, hR3, hR4⟩, hr, hlk, hmn, hBs⟩ := C
  intro H locs ls hh hS hl
  exact lv_ifnull hx hb d (kk H locs ls hh hS hl)
theorem x_ifnullN (C : xC k l E B cc nL ret own mn fr lo ce sl) {off : Int} (tgt : Nat) (d : decode cc pc = .ok (.ifnull off, 3)) (ht : (pc : Int) + off = (tgt : Int))
    (kk : xX k N a b σ (tgt) lv (st)) : xX k N a b σ pc lv (.null :: st) := by
  obtain ⟨p, l0, e, R, s, m, args, below, meth, c, Q, E0, B0, nL0⟩ := k
  obtain ⟨rfl, rfl, rfl, rfl, hx, hb, hml, hown, hts, hk, ⟨hR1, hR2, hR3, hR4⟩, hr, hlk, hmn, hBs⟩ := C
  intro H locs ls hh hS hl
  exact lv_ifnullN hx hb d ht (kk H locs ls hh hS hl)
theorem x_ifnn (C : xC k l E B cc nL ret own mn fr lo ce sl) {x : Nat} {off : Int} (tgt : Nat) (d : decode cc pc = .ok (.ifnonnull off, 3)) (ht : (pc : Int) + off = (tgt : Int))
    (kk : xX k N a b σ (tgt) lv (st)) : xX k N a b σ pc lv (.ref x :: st) := by
  obtain ⟨p, l0, e, R, s, m, args, below, meth, c, Q, E0, B0, nL0⟩ := k
  obtain ⟨rfl, rfl, rfl, rfl, hx, hb, hml, hown, hts, hk, ⟨hR1, hR2, hR3, hR4⟩, hr, hlk, hmn, hBs⟩ := C
  intro H locs ls hh hS hl
  exact lv_ifnonnull hx hb d ht (kk H locs ls hh hS hl)
theorem x_ifnnN (C : xC k l E B cc nL ret own mn fr lo ce sl) {off : Int} (d : decode cc pc = .ok (.ifnonnull off, 3))
    (kk : xX k N a b σ (pc + 3) lv (st)) : xX k N a b σ pc lv (.null :: st) := by
  obtain ⟨p, l0, e, R, s, m, args, below, meth, c, Q, E0, B0, nL0⟩ := k
  obtain ⟨rfl, rfl, rfl, rfl, hx, hb, hml, hown, hts, hk, ⟨hR1, hR2, hR3, hR4⟩, hr, hlk, hmn, hBs⟩ := C
  intro H locs ls hh hS hl
  exact lv_ifnonnullN hx hb d (kk H locs ls hh hS hl)
theorem x_lcmp (C : xC k l E B cc nL ret own mn fr lo ce sl) {x y : Int64} (d : decode cc pc = .ok (.lcmp, 1))
    (kk : xX k N a b σ (pc + 1) lv (.int (lg_cmp x y) :: st)) : xX k N a b σ pc lv (.long y :: .long x :: st) := by
  obtain ⟨p, l0, e, R, s, m, args, below, meth, c, Q, E0, B0, nL0⟩ := k
  obtain ⟨rfl, rfl, rfl, rfl, hx, hb, hml, hown, hts, hk, ⟨hR1, hR2, hR3, hR4⟩, hr, hlk, hmn, hBs⟩ := C
  intro H locs ls hh hS hl
  exact W.lcmp hx hb d (kk H locs ls hh hS hl)
theorem x_tbO (C : xC k l E B cc nL ret own mn fr lo ce sl) {dflt lo2 hi : Int} {offs : Array Int} {len : Nat} {x : Int32} (tgt : Nat) (d : decode cc pc = .ok (.tableswitch dflt lo2 hi offs, len)) (h : x.toInt < lo2 ∨ hi < x.toInt) (ht : (pc : Int) + dflt = (tgt : Int))
    (kk : xX k N a b σ (tgt) lv (st)) : xX k N a b σ pc lv (.int x :: st) := by
  obtain ⟨p, l0, e, R, s, m, args, below, meth, c, Q, E0, B0, nL0⟩ := k
  obtain ⟨rfl, rfl, rfl, rfl, hx, hb, hml, hown, hts, hk, ⟨hR1, hR2, hR3, hR4⟩, hr, hlk, hmn, hBs⟩ := C
  intro H locs ls hh hS hl
  exact lv_tableOut hx hb d h ht (kk H locs ls hh hS hl)
theorem x_tbI (C : xC k l E B cc nL ret own mn fr lo ce sl) {dflt lo2 hi off : Int} {offs : Array Int} {len : Nat} {x : Int32} (tgt : Nat) (d : decode cc pc = .ok (.tableswitch dflt lo2 hi offs, len)) (h1 : ¬ x.toInt < lo2) (h2 : ¬ hi < x.toInt) (ho : offs[(x.toInt - lo2).toNat]? = some off) (ht : (pc : Int) + off = (tgt : Int))
    (kk : xX k N a b σ (tgt) lv (st)) : xX k N a b σ pc lv (.int x :: st) := by
  obtain ⟨p, l0, e, R, s, m, args, below, meth, c, Q, E0, B0, nL0⟩ := k
  obtain ⟨rfl, rfl, rfl, rfl, hx, hb, hml, hown, hts, hk, ⟨hR1, hR2, hR3, hR4⟩, hr, hlk, hmn, hBs⟩ := C
  intro H locs ls hh hS hl
  exact lv_tableIn hx hb d h1 h2 ho ht (kk H locs ls hh hS hl)
theorem x_lkp (C : xC k l E B cc nL ret own mn fr lo ce sl) {dflt off : Int} {ps : Array (Int × Int)} {len : Nat} {x : Int32} (tgt : Nat) (d : decode cc pc = .ok (.lookupswitch dflt ps, len)) (hp : (ps.toList.zip (ps.toList.drop 1)).all (fun (a, next) => a.1 < next.1) = true) (ho : Op.lookupswitch.offset ps.toList dflt x.toInt = off) (ht : (pc : Int) + off = (tgt : Int))
    (kk : xX k N a b σ (tgt) lv (st)) : xX k N a b σ pc lv (.int x :: st) := by
  obtain ⟨p, l0, e, R, s, m, args, below, meth, c, Q, E0, B0, nL0⟩ := k
  obtain ⟨rfl, rfl, rfl, rfl, hx, hb, hml, hown, hts, hk, ⟨hR1, hR2, hR3, hR4⟩, hr, hlk, hmn, hBs⟩ := C
  intro H locs ls hh hS hl
  exact lv_lookup hx hb d hp ho ht (kk H locs ls hh hS hl)
/-- a field access of class own at pool number idx: field j of class ci -/
def xFd (own : String) (idx : Nat) (q : vw_C) (ci j : Nat) : Prop := vwCl[ci]? = some q ∧ j < q.2.2 ∧ (Cond.fieldLink own idx (q.2.1 j).1 (q.2.1 j).2.1 (q.2.1 j).2.2.1 ∈ xG ∨ ∃ host : String, Cond.fieldLinkNest own idx (q.2.1 j).1 (q.2.1 j).2.1 (q.2.1 j).2.2.1 host ∈ xGN) ∧ (∀ w ∈ u_ws q.1 q.2.1 q.2.2, w ∈ xG) ∧ (∃ ty0 : Nat → FieldType, ∀ k, k < q.2.2 → parseFieldDescriptor (q.2.1 k).2.2.1 = some (ty0 k)) ∧ (∀ a, a < q.2.2 → ∀ b, b < q.2.2 → a ≠ b → (q.2.1 a).2.1 ≠ (q.2.1 b).2.1)
theorem x_get (C : xC k l E B cc nL ret own mn fr lo ce sl) {idx ci j a0 : Nat} {q : vw_C} (F : xFd own idx q ci j) {fs : List Value} {v : Value} (he : σ a0 = some (.inr (ci, fs))) (hv : fs[j]? = some v) (d : decode cc pc = .ok (.getfield idx, 3))
    (kk : xX k N a b σ (pc + 3) lv (v :: st)) : xX k N a b σ pc lv (.ref a0 :: st) := by
  obtain ⟨p, l0, e, R, s, m, args, below, meth, c, Q, E0, B0, nL0⟩ := k
  obtain ⟨rfl, rfl, rfl, rfl, hx, hb, hml, hown, hts, hk, ⟨hR1, hR2, hR3, hR4⟩, hr, hlk, hmn, hBs⟩ := C
  obtain ⟨hc, hj, hln, hin, -, -⟩ := F
  obtain ⟨Cn, T, n⟩ := q
  intro H locs ls hh hS hl
  have hP : va_P E0.1 vwCl [(a0, .inr (ci, fs))] H := fun i q2 hq => by
    have h1 := hh.2.2 a0 _ he
    cases i with
    | zero => cases hq; exact h1.2
    | succ i => simp at hq
  rcases hln with h | ⟨host, h⟩
  · exact va_get hx hb hts hin hown hk.1 hP 0 rfl hc j hj (hts _ h) (fun _ h9 => h9) hv d (kk H locs ls hh hS hl)
  · exact va_getN hx hb hts hin hown hk.1 hP 0 rfl hc j hj (va_Nw.use rfl (hk.2 _ h)) (fun _ h9 => h9) hv d (kk H locs ls hh hS hl)
theorem x_put (C : xC k l E B cc nL ret own mn fr lo ce sl) {idx ci j a0 : Nat} {q : vw_C} (F : xFd own idx q ci j) {fs : List Value} {v : Value} {ty : FieldType} {σ2 : Sg} (he : σ a0 = some (.inr (ci, fs))) (hfin : (q.2.1 j).2.2.2 = false) (hd : parseFieldDescriptor (q.2.1 j).2.2.1 = some ty) (hn : narrow ty v = v) (hfit : fits ty v = true) (hl0 : j < fs.length) (hs : xup σ a0 (.inr (ci, fs.set j v)) = σ2) (d : decode cc pc = .ok (.putfield idx, 3))
    (kk : xX k N a b σ2 (pc + 3) lv (st)) : xX k N a b σ pc lv (v :: .ref a0 :: st) := by
  obtain ⟨p, l0, e, R, s, m, args, below, meth, c, Q, E0, B0, nL0⟩ := k
  obtain ⟨rfl, rfl, rfl, rfl, hx, hb, hml, hown, hts, hk, ⟨hR1, hR2, hR3, hR4⟩, hr, hlk, hmn, hBs⟩ := C
  obtain ⟨hc, hj, hln, hin, ⟨ty0, hty⟩, hnm⟩ := F
  obtain ⟨Cn, T, n⟩ := q
  subst hs
  intro H locs ls hh hS hl
  have hap := va_apart (own := own) hts hin ty0 hty hnm hk.1 hc
  obtain ⟨hba, h0⟩ := hh.2.2 a0 _ he
  obtain ⟨r2, h1, cell, q1, q2, q3, q4⟩ := h0
  have hr2 : r2 = (Cn, T, n) := Option.some.inj (h1.symm.trans hc)
  subst hr2
  obtain ⟨hS2, hfc, kC, hkC, hkind⟩ := hk.1.1 ci _ hc
  obtain ⟨cf, kf, fi, f, hi, hsl⟩ := hS2 j hj
  have hlay := hts _ (hin _ (u_in_lay hj))
  unfold u_lay at hlay
  rw [if_neg (by rw [hfin]; decide)] at hlay
  have hst := (u_facts hfc hkC (u_lays hts hin hj) hi).1
  have h6 := u_store hfc hkC hkind hlay hi hd hn hfit
  rcases hln with h | ⟨host, h⟩
  · refine W.putK hx hb (f := f) ⟨hown, hts _ h, ⟨_, _, _, hi⟩, hst⟩ (by rw [q2]; exact h6) q1 q3 (by rw [hsl]; exact k2_hasslot (q4 j hj)) rfl rfl d fun H2 e1 e2 e3 => ?_
    rw [hsl] at e1 ⊢
    exact kk H2 _ ls (hh.put he e2 e3 ⟨_, hc, t_OB.to (V := updV (vp_V fs) j v) ⟨_, e1, q2, q3, t_set q4 hap hj v⟩ (fun i _ => vp_updV_set hl0 v i)⟩) (hS.put e2 e3 hba) hl
  · refine va_WputK hx hb (f := f) hown (va_Nw.use rfl (hk.2 _ h)) hi hst (by rw [q2]; exact h6) q1 q3 (by rw [hsl]; exact k2_hasslot (q4 j hj)) rfl rfl d fun H2 e1 e2 e3 => ?_
    rw [hsl] at e1 ⊢
    exact kk H2 _ ls (hh.put he e2 e3 ⟨_, hc, t_OB.to (V := updV (vp_V fs) j v) ⟨_, e1, q2, q3, t_set q4 hap hj v⟩ (fun i _ => vp_updV_set hl0 v i)⟩) (hS.put e2 e3 hba) hl
theorem x_putF (C : xC k l E B cc nL ret own mn fr lo ce sl) (hmi : mn = "<init>") {idx ci j a0 : Nat} {q : vw_C} (F : xFd own idx q ci j) {fs : List Value} {v : Value} {ty : FieldType} {σ2 : Sg} (he : σ a0 = some (.inr (ci, fs))) (hfin : (q.2.1 j).2.2.2 = true) (hdecl : (q.2.1 j).1 = own) (hw : Cond.fieldLink own idx (q.2.1 j).1 (q.2.1 j).2.1 (q.2.1 j).2.2.1 ∈ xG) (hd : parseFieldDescriptor (q.2.1 j).2.2.1 = some ty) (hn : narrow ty v = v) (hfit : fits ty v = true) (hl0 : j < fs.length) (hs : xup σ a0 (.inr (ci, fs.set j v)) = σ2) (d : decode cc pc = .ok (.putfield idx, 3))
    (kk : xX k N a b σ2 (pc + 3) lv (st)) : xX k N a b σ pc lv (v :: .ref a0 :: st) := by
  obtain ⟨p, l0, e, R, s, m, args, below, meth, c, Q, E0, B0, nL0⟩ := k
  obtain ⟨rfl, rfl, rfl, rfl, hx, hb, hml, hown, hts, hk, ⟨hR1, hR2, hR3, hR4⟩, hr, hlk, hmn, hBs⟩ := C
  obtain ⟨hc, hj, -, hin, ⟨ty0, hty⟩, hnm⟩ := F
  obtain ⟨Cn, T, n⟩ := q
  subst hs
  intro H locs ls hh hS hl
  have hap := va_apart (own := own) hts hin ty0 hty hnm hk.1 hc
  obtain ⟨hba, h0⟩ := hh.2.2 a0 _ he
  obtain ⟨r2, h1, cell, q1, q2, q3, q4⟩ := h0
  have hr2 : r2 = (Cn, T, n) := Option.some.inj (h1.symm.trans hc)
  subst hr2
  obtain ⟨hS2, hfc, kC, hkC, hkind⟩ := hk.1.1 ci _ hc
  obtain ⟨cf, kf, fi, f, hi, hsl⟩ := hS2 j hj
  have hlay := hts _ (hin _ (u_in_lay hj))
  unfold u_lay at hlay
  rw [if_pos hfin] at hlay
  have hst := (u_facts hfc hkC (u_lays hts hin hj) hi).1
  have hcf : m.cls = cf := by
    obtain ⟨_, _, c2, _, _, _, -, -, hf2, -, -, -, hown2, -⟩ := Cond.laysFinal_spec hlay
    have e1 : c2 = cf := by have := hi.symm.trans hf2; simp at this; exact this.1.symm
    rw [hdecl] at hown2
    rw [← e1]; exact Option.some.inj (hown.symm.trans hown2)
  have h6 := u_fits hfc hkC hkind (Or.inr hlay) hi hd hn hfit
  refine W.putFinK hx hb hown (hts _ hw) hi hst hcf (hmn.trans hmi) (by rw [q2]; exact h6) q1 q3 (by rw [hsl]; exact k2_hasslot (q4 j hj)) rfl rfl d fun H2 e1 e2 e3 => ?_
  rw [hsl] at e1 ⊢
  exact kk H2 _ ls (hh.put he e2 e3 ⟨_, hc, t_OB.to (V := updV (vp_V fs) j v) ⟨_, e1, q2, q3, t_set q4 hap hj v⟩ (fun i _ => vp_updV_set hl0 v i)⟩) (hS.put e2 e3 hba) hl
theorem x_iald (C : xC k l E B cc nL ret own mn fr lo ce sl) {a0 n : Nat} {f : Nat → Int32} {i : Int32} (he : σ a0 = some (.inl (xI E, n, .inl f))) (hin : vp_in i n) (d : decode cc pc = .ok (.iaload, 1))
    (kk : xX k N a b σ (pc + 1) lv (.int (f i.toNatClampNeg) :: st)) : xX k N a b σ pc lv (.int i :: .ref a0 :: st) := by
  obtain ⟨p, l0, e, R, s, m, args, below, meth, c, Q, E0, B0, nL0⟩ := k
  obtain ⟨rfl, rfl, rfl, rfl, hx, hb, hml, hown, hts, hk, ⟨hR1, hR2, hR3, hR4⟩, hr, hlk, hmn, hBs⟩ := C
  intro H locs ls hh hS hl
  have hP : va_P E0.1 vwCl [(a0, .inl (xI E0, n, .inl f))] H := fun i q2 hq => by
    have h1 := hh.2.2 a0 _ he
    cases i with
    | zero => cases hq; exact h1.2
    | succ i => simp at hq
  exact va_iald hx hb hk.1 hP 0 0 rfl rfl hin d (kk H locs ls hh hS hl)
theorem x_cald (C : xC k l E B cc nL ret own mn fr lo ce sl) {a0 n : Nat} {f : Nat → Int32} {i : Int32} (he : σ a0 = some (.inl (xCh E, n, .inl f))) (hin : vp_in i n) (d : decode cc pc = .ok (.caload, 1))
    (kk : xX k N a b σ (pc + 1) lv (.int (f i.toNatClampNeg) :: st)) : xX k N a b σ pc lv (.int i :: .ref a0 :: st) := by
  obtain ⟨p, l0, e, R, s, m, args, below, meth, c, Q, E0, B0, nL0⟩ := k
  obtain ⟨rfl, rfl, rfl, rfl, hx, hb, hml, hown, hts, hk, ⟨hR1, hR2, hR3, hR4⟩, hr, hlk, hmn, hBs⟩ := C
  intro H locs ls hh hS hl
  have hP : va_P E0.1 vwCl [(a0, .inl (xCh E0, n, .inl f))] H := fun i q2 hq => by
    have h1 := hh.2.2 a0 _ he
    cases i with
    | zero => cases hq; exact h1.2
    | succ i => simp at hq
  exact va_cald hx hb hk.1 hP 0 1 rfl rfl hin d (kk H locs ls hh hS hl)
theorem x_aald (C : xC k l E B cc nL ret own mn fr lo ce sl) {a0 n t0 : Nat} {cA : ClassId} {Cn : String} {f : Nat → Option Nat} {i : Int32} {v : Value} (he : σ a0 = some (.inl (cA, n, .inr (.inr (.inr (.inr f)))))) (ht : (xtys E)[t0]? = some (cA, .object Cn)) (hin : vp_in i n) (hv : va_rf (f i.toNatClampNeg) = v) (d : decode cc pc = .ok (.aaload, 1))
    (kk : xX k N a b σ (pc + 1) lv (v :: st)) : xX k N a b σ pc lv (.int i :: .ref a0 :: st) := by
  obtain ⟨p, l0, e, R, s, m, args, below, meth, c, Q, E0, B0, nL0⟩ := k
  obtain ⟨rfl, rfl, rfl, rfl, hx, hb, hml, hown, hts, hk, ⟨hR1, hR2, hR3, hR4⟩, hr, hlk, hmn, hBs⟩ := C
  subst hv
  intro H locs ls hh hS hl
  have hP : va_P E0.1 vwCl [(a0, .inl (cA, n, .inr (.inr (.inr (.inr f)))))] H := fun i q2 hq => by
    have h1 := hh.2.2 a0 _ he
    cases i with
    | zero => cases hq; exact h1.2
    | succ i => simp at hq
  exact va_aldq hx hb hk.1 hP 0 t0 rfl ht hin d (kk H locs ls hh hS hl)
theorem x_alen (C : xC k l E B cc nL ret own mn fr lo ce sl) {a0 n t0 : Nat} {cA : ClassId} {ty : FieldType} {x} (he : σ a0 = some (.inl (cA, n, x))) (ht : (xtys E)[t0]? = some (cA, ty)) (d : decode cc pc = .ok (.arraylength, 1))
    (kk : xX k N a b σ (pc + 1) lv (.int (nI n) :: st)) : xX k N a b σ pc lv (.ref a0 :: st) := by
  obtain ⟨p, l0, e, R, s, m, args, below, meth, c, Q, E0, B0, nL0⟩ := k
  obtain ⟨rfl, rfl, rfl, rfl, hx, hb, hml, hown, hts, hk, ⟨hR1, hR2, hR3, hR4⟩, hr, hlk, hmn, hBs⟩ := C
  intro H locs ls hh hS hl
  have hP : va_P E0.1 vwCl [(a0, .inl (cA, n, x))] H := fun i q2 hq => by
    have h1 := hh.2.2 a0 _ he
    cases i with
    | zero => cases hq; exact h1.2
    | succ i => simp at hq
  exact va_alen hx hb hk.1 hP 0 t0 rfl ht rfl d (kk H locs ls hh hS hl)
theorem x_cell {cA : ClassId} {n : Nat} {f g : Nat → Int32} (h : ∀ j, j < n → f j = g j) : vp_cell cA (n, .inl f) = vp_cell cA (n, .inl g) := by
  rw [vp_cell_i, vp_cell_i]
  unfold arrV
  congr 1
  congr 1
  funext j
  show Value.int (f j.val) = Value.int (g j.val)
  rw [h j.val j.isLt]
theorem x_iast (C : xC k l E B cc nL ret own mn fr lo ce sl) {a0 n : Nat} {f g : Nat → Int32} {i x : Int32} {σ2 : Sg} (he : σ a0 = some (.inl (xI E, n, .inl f))) (hin : vp_in i n) (hg : ∀ j, j < n → upd f i.toNatClampNeg x j = g j) (hs : xup σ a0 (.inl (xI E, n, .inl g)) = σ2) (d : decode cc pc = .ok (.iastore, 1))
    (kk : xX k N a b σ2 (pc + 1) lv (st)) : xX k N a b σ pc lv (.int x :: .int i :: .ref a0 :: st) := by
  obtain ⟨p, l0, e, R, s, m, args, below, meth, c, Q, E0, B0, nL0⟩ := k
  obtain ⟨rfl, rfl, rfl, rfl, hx, hb, hml, hown, hts, hk, ⟨hR1, hR2, hR3, hR4⟩, hr, hlk, hmn, hBs⟩ := C
  subst hs
  intro H locs ls hh hS hl
  obtain ⟨hba, h0⟩ := hh.2.2 a0 _ he
  refine W.iast hx hb h0 ((hk.1.2 0 _ rfl).1 n (fun j => .int (f j))) (fun q => by cases q) (by show ¬ (i < 0 ∨ (arrV _ _ _).slots.size ≤ _); rw [arrV_size]; exact hin) rfl rfl d fun H1 e z oq => ?_
  refine kk H1 _ ls (hh.put he z oq ?_) (hS.put z oq hba) hl
  show H1[a0]? = some (vp_cell _ _)
  rw [← x_cell hg, e]
  rw [vp_cell_i, vp_cell_i, arrV_store]
  congr 2
  funext q
  by_cases hq : q = i.toNatClampNeg
  · subst hq
    simp [updV, upd, vp_nar]
    try rfl
  · simp [updV, upd, hq]
theorem x_cast (C : xC k l E B cc nL ret own mn fr lo ce sl) {a0 n : Nat} {f g : Nat → Int32} {i x : Int32} {σ2 : Sg} (he : σ a0 = some (.inl (xCh E, n, .inl f))) (hin : vp_in i n) (hg : ∀ j, j < n → upd f i.toNatClampNeg (vp_nar .char x) j = g j) (hs : xup σ a0 (.inl (xCh E, n, .inl g)) = σ2) (d : decode cc pc = .ok (.castore, 1))
    (kk : xX k N a b σ2 (pc + 1) lv (st)) : xX k N a b σ pc lv (.int x :: .int i :: .ref a0 :: st) := by
  obtain ⟨p, l0, e, R, s, m, args, below, meth, c, Q, E0, B0, nL0⟩ := k
  obtain ⟨rfl, rfl, rfl, rfl, hx, hb, hml, hown, hts, hk, ⟨hR1, hR2, hR3, hR4⟩, hr, hlk, hmn, hBs⟩ := C
  subst hs
  intro H locs ls hh hS hl
  obtain ⟨hba, h0⟩ := hh.2.2 a0 _ he
  refine W.cast hx hb h0 ((hk.1.2 1 _ rfl).1 n (fun j => .int (f j))) (fun q => by cases q) (by show ¬ (i < 0 ∨ (arrV _ _ _).slots.size ≤ _); rw [arrV_size]; exact hin) rfl rfl d fun H1 e z oq => ?_
  refine kk H1 _ ls (hh.put he z oq ?_) (hS.put z oq hba) hl
  show H1[a0]? = some (vp_cell _ _)
  rw [← x_cell hg, e]
  rw [vp_cell_i, vp_cell_i, arrV_store]
  congr 2
  funext q
  by_cases hq : q = i.toNatClampNeg
  · subst hq
    simp [updV, upd, vp_nar]
    try rfl
  · simp [updV, upd, hq]
theorem x_copy (C : xC k l E B cc nL ret own mn fr lo ce sl) {a0 a1 n0 n1 idx : Nat} {f g g2 : Nat → Int32} {sp dp n : Int32} {σ2 : Sg} (w1 : Cond.methodLink own idx arraycopyName ∈ xG) (w2 : Cond.native arraycopyName ∈ xG) (w3 : Cond.static arraycopyName ∈ xG) (w4 : Cond.initialized "java/lang/System" ∈ xG) (he0 : σ a0 = some (.inl (xI E, n0, .inl f))) (he1 : σ a1 = some (.inl (xI E, n1, .inl g))) (hd : a0 ≠ a1) (h1 : ¬ sp < 0) (h2 : ¬ dp < 0) (h3 : ¬ n < 0) (h4 : sp.toNatClampNeg + n.toNatClampNeg ≤ n0) (h5 : dp.toNatClampNeg + n.toNatClampNeg ≤ n1) (hg : ∀ j, j < n1 → va_cpy f g sp.toNatClampNeg dp.toNatClampNeg n.toNatClampNeg j = g2 j) (hfr : 1 ≤ fr) (hlo : (st.map fun v => v.category).sum + (nativeFrameWords "java/lang/System" "arraycopy" 5 + 11) ≤ lo) (hs : xup σ a1 (.inl (xI E, n1, .inl g2)) = σ2) (d : decode cc pc = .ok (.invokestatic idx, 3))
    (kk : xX k N a b σ2 (pc + 3) lv (st)) : xX k N a b σ pc lv (.int n :: .int dp :: .ref a1 :: .int sp :: .ref a0 :: st) := by
  obtain ⟨p, l0, e, R, s, m, args, below, meth, c, Q, E0, B0, nL0⟩ := k
  obtain ⟨rfl, rfl, rfl, rfl, hx, hb, hml, hown, hts, hk, ⟨hR1, hR2, hR3, hR4⟩, hr, hlk, hmn, hBs⟩ := C
  subst hs
  intro H locs ls hh hS hl
  obtain ⟨hb0, hc0⟩ := hh.2.2 a0 _ he0
  obtain ⟨hb1, hc1⟩ := hh.2.2 a1 _ he1
  have hP : va_P E0.1 vwCl [(a0, .inl (xI E0, n0, .inl f)), (a1, .inl (xI E0, n1, .inl g))] H := fun i q2 hq => by
    match i, hq with
    | 0, hq => cases hq; exact hc0
    | 1, hq => cases hq; exact hc1
    | i + 2, hq => simp at hq
  have hD : va_D (fun q => q = a1 ∨ q = a0) [(a0, .inl (xI E0, n0, .inl f)), (a1, .inl (xI E0, n1, .inl g))] := by
    refine ⟨fun i j p q hi hj hpq => ?_, fun i q hq => ?_⟩
    · match i, j, hi, hj with
      | 0, 0, _, _ => rfl
      | 1, 1, _, _ => rfl
      | 0, 1, hi, hj => cases hi; cases hj; exact absurd hpq hd
      | 1, 0, hi, hj => cases hi; cases hj; exact absurd hpq.symm hd
      | i + 2, _, hi, _ => simp at hi
      | _, j + 2, _, hj => simp at hj
    · match i, hq with
      | 0, hq => cases hq; exact Or.inr rfl
      | 1, hq => cases hq; exact Or.inl rfl
      | i + 2, hq => simp at hq
  have nn : ∀ z : Int32, ¬ z < 0 → z.toInt = (z.toNatClampNeg : Int) := by
    intro z hz
    have hz0 : (0 : Int) ≤ z.toInt := by
      have := Int32.not_lt.mp hz
      simpa using Int32.le_iff_toInt_le.mp this
    show z.toInt = ((z.toInt.toNat : Nat) : Int)
    omega
  intro T hT X
  obtain ⟨-, k0, hk0, cm0, hkk0⟩ := (hk.1.2 0 _ rfl).1 n0 (fun j => .int (f j))
  obtain ⟨-, k1, hk1, cm1, hkk1⟩ := (hk.1.2 0 _ rfl).1 n1 (fun j => .int (g j))
  obtain ⟨vm2, X2, step⟩ := X.arraycopy hx hown (hts _ w1) (hts _ w2) (hts _ w3) (hts _ w4) (src := a0) (dst := a1) (cs := vp_cell (xI E0) (n0, .inl f)) (cd := vp_cell (xI E0) (n1, .inl g)) (srcPos := sp) (destPos := dp) (n := n) (by rw [hT]; exact hc0) (by rw [hT]; exact hc1)
    (fun _ h => by cases h) (fun _ h => by cases h) (fun h => by cases h) (fun h => by cases h) hk0 hk1 hkk0 hkk1 (by simp [refKind]) h1 h2 h3
    (by rw [nn sp h1, nn n h3]; show ¬ _ > ((arrV (xI E0) n0 (fun j => .int (f j))).slots.size : Int); rw [arrV_size]; omega)
    (by rw [nn dp h2, nn n h3]; show ¬ _ > ((arrV (xI E0) n1 (fun j => .int (g j))).slots.size : Int); rw [arrV_size]; omega)
    (fun vm₁ _ i hi => by
      have e : (vp_cell (xI E0) (n0, .inl f)).slots.getD (sp.toNatClampNeg + i) .null = .int (f (sp.toNatClampNeg + i)) := by
        show (arrV (xI E0) n0 (fun j => .int (f j))).slots.getD _ _ = _
        rw [Array.getD_eq_getD_getElem?, arrV_read _ _ (by omega)]
        rfl
      refine ⟨?_, ?_⟩
      · rw [e]
        rfl
      · rw [e]
        exact trivial)
    (g := F0 m pc ls (.int n :: .int dp :: .ref a1 :: .int sp :: .ref a0 :: st)) rfl (by rw [hml]; exact hl.1) (rest := st) rfl (by rw [hb]; exact d) (by rw [hR1]; exact hfr) (by rw [hR2]; show 2 * 0 + _ + _ ≤ _; omega)
  have e1 : copied (vp_cell (xI E0) (n0, .inl f)) (vp_cell (xI E0) (n1, .inl g)) sp dp n = vp_cell (xI E0) (n1, .inl (va_cpy f g sp.toNatClampNeg dp.toNatClampNeg n.toNatClampNeg)) := va_copied (fun z => .int z) (xI E0) (xI E0) f g h4
  rw [e1] at X2 step
  have hlt : a1 < H.size := (Array.getElem?_eq_some_iff.mp hc1).1
  have hheap : ((T.setVm vm2).setCell a1 (vp_cell (xI E0) (n1, .inl (va_cpy f g sp.toNatClampNeg dp.toNatClampNeg n.toNatClampNeg)))).heap = H.setIfInBounds a1 (vp_cell (xI E0) (n1, .inl (va_cpy f g sp.toNatClampNeg dp.toNatClampNeg n.toNatClampNeg))) := by rw [← hT]; rfl
  have oq : ∀ q : Nat, q ≠ a1 → (H.setIfInBounds a1 (vp_cell (xI E0) (n1, .inl (va_cpy f g sp.toNatClampNeg dp.toNatClampNeg n.toNatClampNeg))))[q]? = H[q]? := fun q hq => by simp [Array.getElem?_setIfInBounds, Ne.symm hq]
  obtain ⟨t, b1, b2⟩ := kk _ _ ls (hh.put he1 (by simp) oq (show (H.setIfInBounds a1 _)[a1]? = some (vp_cell (xI E0) (n1, .inl g2)) by rw [← x_cell hg]; simp [Array.getElem?_setIfInBounds, hlt])) ⟨by simp; exact hS.1, fun q g1 g2 => by
      rw [oq q (fun e => g2 (by rw [e]; exact hb1))]
      exact hS.2.1 q g1 g2, fun q hq => by
      rcases List.mem_append.mp hq with h | h
      · exact hS.2.2 q h
      · obtain ⟨z, -, hz⟩ := List.mem_map.mp h
        rw [← hz]
        exact hb1⟩ hl _ hheap X2
  exact ⟨t, step t b1, b2⟩
theorem x_mmax (C : xC k l E B cc nL ret own mn fr lo ce sl) {idx : Nat} {x y : Int32} (w1 : Cond.methodLink own idx Lib.Math.max.name ∈ xG) (w2 : Cond.static Lib.Math.max.name ∈ xG) (w3 : Cond.initialized "java/lang/Math" ∈ xG) (w4 : Cond.code Lib.Math.max.name Lib.Math.max.code 2 (some .int) ∈ xG) (hfr : 1 ≤ fr) (hlo : (st.map fun v => v.category).sum + 13 ≤ lo) (hca : a ≤ ce) (hcb : b ≤ sl) (d : decode cc pc = .ok (.invokestatic idx, 3))
    (kk : xX k N a b σ (pc + 3) lv (.int (if x < y then y else x) :: st)) : xX k N a b σ pc lv (.int y :: .int x :: st) := by
  obtain ⟨p, l0, e, R, s, m, args, below, meth, c, Q, E0, B0, nL0⟩ := k
  obtain ⟨rfl, rfl, rfl, rfl, hx, hb, hml, hown, hts, hk, ⟨hR1, hR2, hR3, hR4⟩, hr, hlk, hmn, hBs⟩ := C
  intro H locs ls hh hS hl
  exact va_mmax hx hb (by rw [hml]; exact hl.1.symm) hown (hts _ w1) (hts _ w2) (hts _ w3) (hts _ w4) (by rw [hR1]; exact hfr) (by rw [hR2]; exact hlo) (by rw [hR3]; exact hca) (by rw [hR4]; exact hcb) d (kk H locs ls hh hS hl)
theorem x_mmin (C : xC k l E B cc nL ret own mn fr lo ce sl) {idx : Nat} {x y : Int32} (w1 : Cond.methodLink own idx Lib.Math.min.name ∈ xG) (w2 : Cond.static Lib.Math.min.name ∈ xG) (w3 : Cond.initialized "java/lang/Math" ∈ xG) (w4 : Cond.code Lib.Math.min.name Lib.Math.min.code 2 (some .int) ∈ xG) (hfr : 1 ≤ fr) (hlo : (st.map fun v => v.category).sum + 13 ≤ lo) (hca : a ≤ ce) (hcb : b ≤ sl) (d : decode cc pc = .ok (.invokestatic idx, 3))
    (kk : xX k N a b σ (pc + 3) lv (.int (if y < x then y else x) :: st)) : xX k N a b σ pc lv (.int y :: .int x :: st) := by
  obtain ⟨p, l0, e, R, s, m, args, below, meth, c, Q, E0, B0, nL0⟩ := k
  obtain ⟨rfl, rfl, rfl, rfl, hx, hb, hml, hown, hts, hk, ⟨hR1, hR2, hR3, hR4⟩, hr, hlk, hmn, hBs⟩ := C
  intro H locs ls hh hS hl
  exact va_mmin hx hb (by rw [hml]; exact hl.1.symm) hown (hts _ w1) (hts _ w2) (hts _ w3) (hts _ w4) (by rw [hR1]; exact hfr) (by rw [hR2]; exact hlo) (by rw [hR3]; exact hca) (by rw [hR4]; exact hcb) d (kk H locs ls hh hS hl)
end XR
abbrev xLk (own : String) (idx : Nat) (y : MethodName) : Prop := Cond.methodLink own idx y ∈ xG ∨ ∃ host : String, Cond.methodLinkNest own idx y host ∈ xGN
abbrev xAr (y : MethodName) (n : Nat) : Prop := y.cls ≠ "java/lang/invoke/MethodHandle" ∧ y.cls ≠ "java/lang/invoke/VarHandle" ∧ (parseMethodDescriptor y.desc).map (fun d => d.parameters.length) = some n
/-- the words of a method that is called: its code, its class, how many arguments -/
def xYv (y : MethodName) (cc : ByteArray) (nL : Nat) (ret : Option FieldType) (n ci : Nat) (q : vw_C) : Prop := Cond.instanceMethod y ∈ xG ∧ Cond.selects y.cls y y ∈ xG ∧ Cond.code y cc nL ret ∈ xG ∧ Cond.initialized y.cls ∈ xG ∧ xAr y n ∧ vwCl[ci]? = some q ∧ q.1 = y.cls
def xYs (y : MethodName) (cc : ByteArray) (nL : Nat) (ret : Option FieldType) (n : Nat) : Prop := Cond.static y ∈ xG ∧ Cond.code y cc nL ret ∈ xG ∧ Cond.initialized y.cls ∈ xG ∧ xAr y n
def xYi (y : MethodName) (cc : ByteArray) (nL : Nat) (n : Nat) : Prop := Cond.instanceMethod y ∈ xG ∧ Cond.code y cc nL none ∈ xG ∧ Cond.initialized y.cls ∈ xG ∧ xAr y n ∧ y.name = "<init>"
theorem x_ws {args : Array Value} {s : State} {y : MethodName} {cc : ByteArray} {nL : Nat} {ret : Option FieldType} (hts : ∀ w ∈ xG, w.before args s = true) (hc : Cond.code y cc nL ret ∈ xG) : ∀ w ∈ (Cond.code y cc nL ret :: xG), ∀ (a' : Array Value) (U : State), s.WarmedH U.vm → w.before a' U = true := fun w hw a' U hW => by
  have hm : w ∈ xG := by
    rcases List.mem_cons.mp hw with h | h
    · rw [h]; exact hc
    · exact h
  exact word_at hW (xG_good hm) (hts w hm)
theorem x_pre {E : xEnv} {B N : Nat} {σ : Sg} {av : List Value} : FrameBlind (va_Pc av (fun U => xh E B N σ U.heap ∧ xk E U)) := fun a U g mk q => ⟨q.1, q.2.1, xk.same (u := U) (U := U.calling g mk a) rfl q.2.2⟩
section XRC
variable {k : xT} {l : Launch} {E : xEnv} {B : Nat} {cc : ByteArray} {nL : Nat} {ret : Option FieldType} {own mn : String} {fr lo ce sl N a b : Nat} {σ : Sg} {pc : Nat} {lv : List (Option Value)} {st : List Value}
variable {y : MethodName} {cc2 : ByteArray} {nL2 : Nat} {ret2 : Option FieldType} {fr2 lo2 ce2 sl2 : Nat} {As : List Value} {N2 : Nat} {σ1 σ2 σ3 : Sg} {oc : Option Value} {idx n b0 : Nat} {st0 : List Value}
/-- from a call's run to what follows -/
theorem x_run {p : Program} {e : Env} {R : Room} {s : State} {m : MethodId} {args : Array Value} {below : List Frame} {meth : Method} {c : Code} {H : Heap} {locs : List Loc} {ls : Array Slot} {Q : State → Prop} {g : JFrame} {av : Array Value} {stk : List Value} (hs : xk E s) (hg : g = F0 m pc ls stk) (hr : va_Run p l e R s m args below meth c H locs a b ce2 sl2 g st (xQc E B N2 σ2 oc av) (fun q => B ≤ q)) (hS : va_S (fun q => B ≤ q) s.heap H locs) (hl : lv_has ls nL (xL 0 lv)) (hB : B ≤ s.heap.size)
    (kk : ∀ (H : Heap) (locs : List Loc) (ls : Array Slot), xh E B N2 σ2 H → va_S (fun q => B ≤ q) s.heap H locs → lv_has ls nL (xL 0 lv) → W p l e R s m args below meth c H locs (a + ce2) (b + sl2) Q (F0 m (pc + 3) ls (oc.toList ++ st))) : W p l e R s m args below meth c H locs a b Q g := by
  subst hg
  intro T hT X
  obtain ⟨v, st₀, t, T2, L, h0, X2, hL, e1, e2, ⟨hv, hx2, -, hF⟩, stp⟩ := hr T hT X
  cases hv
  obtain ⟨hz, hk2⟩ := hF
  rw [h0] at hz hk2
  obtain ⟨t2, a1, b1⟩ := kk T2.heap (locs ++ L) ls (by rw [e1]; exact hx2) ⟨Nat.le_trans hS.1 (by rw [e1]; exact hz), fun q h1 h2 => by rw [e1, hk2 q (Nat.lt_of_lt_of_le h1 hS.1) h2]; exact hS.2.1 q h1 h2, fun q hq => by
    rcases List.mem_append.mp hq with h | h
    · exact hS.2.2 q h
    · exact hL q h⟩ hl T2 rfl X2
  exact ⟨t2, stp t2 a1, b1⟩
theorem x_callV (C : xC k l E B cc nL ret own mn fr lo ce sl) (hM : xM l y cc2 nL2 ret2 fr2 lo2 ce2 sl2 E B (.ref b0 :: As) N σ1 N2 σ2 oc) {ci : Nat} {q : vw_C} {fs : List Value} (hY : xYv y cc2 nL2 ret2 n ci q) (hl0 : xLk own idx y) (d : decode cc pc = .ok (.invokevirtual idx, 3)) (he : σ b0 = some (.inr (ci, fs))) (hs1 : σ = σ1) (hs2 : σ2 = σ3) (hn : As.length = n) (hst : st0 = As.reverse ++ .ref b0 :: st) (hcat : (st.map fun v => v.category).sum ≤ 8) (hr1 : fr2 + 1 ≤ fr) (hr2 : 8 + (nL2 + 11) + lo2 ≤ lo) (hr3 : a + ce2 ≤ ce) (hr4 : b + sl2 ≤ sl)
    (kk : xX k N2 (a + ce2) (b + sl2) σ3 (pc + 3) lv (oc.toList ++ st)) : xX k N a b σ pc lv st0 := by
  obtain ⟨p, l0, e, R, s, m, args, below, meth, c, Q, E0, B0, nL0⟩ := k
  obtain ⟨rfl, rfl, rfl, rfl, hx, hb, hml, hown, hts, hk, ⟨hR1, hR2, hR3, hR4⟩, hr, hlk, hmn, hBs⟩ := C
  subst hs1; subst hs2; subst hst
  obtain ⟨w1, w2, w3, w4, ⟨w5, w6, w7⟩, w8, w9⟩ := hY
  intro H locs ls hh hS hl
  have hP : va_P E0.1 vwCl [(b0, .inr (ci, fs))] H := fun i q2 hq => by
    have h1 := hh.2.2 b0 _ he
    cases i with
    | zero => cases hq; exact h1.2
    | succ i => simp at hq
  have hpv : PreV s H y.cls b0 (va_Pc (.ref b0 :: As) (fun U => xh E0 B0 N σ U.heap ∧ xk E0 U)) As := ⟨x_pre, by rw [← w9]; exact va_recv (q0 := 0) hk.1 hP w8 rfl, fun U hU hW => ⟨rfl, by rw [hU]; exact hh, xk.moved hW hk⟩⟩
  have hlen : ∀ sig, parseMethodDescriptor y.desc = some sig → n = sig.parameters.length := fun sig h => by
    rw [h] at w7
    exact (Option.some.inj w7).symm
  rcases hl0 with h | ⟨host, h⟩
  · have hrun := va_runV (e := e) (meth := meth) (below := below) (H := H) (locs := locs) (cells := a) (slots := b) (rest := st) (g := F0 m pc ls (As.reverse ++ .ref b0 :: st)) ⟨hx, hb, hml, hown, hts⟩ hM (index := idx) ⟨⟨rfl, rfl, by rw [hR1]; exact hr1, by rw [hR2]; exact hr2, x_ws hts w3, List.mem_cons_self, hts _ w3, hts _ w4, ⟨w5, w6⟩, hlen, hts _ h⟩, hts _ w1, hts _ w2⟩ hpv rfl hn hl.1 rfl (lv_room hcat) d ⟨by rw [hR3]; exact hr3, by rw [hR4]; exact hr4⟩
    exact x_run hk rfl hrun hS hl hBs kk
  · have hrun := va_runVN (e := e) (meth := meth) (below := below) (H := H) (locs := locs) (cells := a) (slots := b) (rest := st) (g := F0 m pc ls (As.reverse ++ .ref b0 :: st)) ⟨hx, hb, hml, hown, hts⟩ hM (index := idx) (host := host) ⟨⟨⟨rfl, rfl, by rw [hR1]; exact hr1, by rw [hR2]; exact hr2, x_ws hts w3, List.mem_cons_self⟩, hts _ w3, hts _ w4, ⟨w5, w6⟩, hlen, va_Nw.use rfl (hk.2 _ h)⟩, hts _ w1, hts _ w2⟩ hpv rfl hn hl.1 rfl (lv_room hcat) d ⟨by rw [hR3]; exact hr3, by rw [hR4]; exact hr4⟩
    exact x_run hk rfl hrun hS hl hBs kk
theorem x_callS (C : xC k l E B cc nL ret own mn fr lo ce sl) (hM : xM l y cc2 nL2 ret2 fr2 lo2 ce2 sl2 E B As N σ1 N2 σ2 oc) (hY : xYs y cc2 nL2 ret2 n) (hl0 : xLk own idx y) (d : decode cc pc = .ok (.invokestatic idx, 3)) (hs1 : σ = σ1) (hs2 : σ2 = σ3) (hn : As.length = n) (hst : st0 = As.reverse ++ st) (hcat : (st.map fun v => v.category).sum ≤ 8) (hr1 : fr2 + 1 ≤ fr) (hr2 : 8 + (nL2 + 11) + lo2 ≤ lo) (hr3 : a + ce2 ≤ ce) (hr4 : b + sl2 ≤ sl)
    (kk : xX k N2 (a + ce2) (b + sl2) σ3 (pc + 3) lv (oc.toList ++ st)) : xX k N a b σ pc lv st0 := by
  obtain ⟨p, l0, e, R, s, m, args, below, meth, c, Q, E0, B0, nL0⟩ := k
  obtain ⟨rfl, rfl, rfl, rfl, hx, hb, hml, hown, hts, hk, ⟨hR1, hR2, hR3, hR4⟩, hr, hlk, hmn, hBs⟩ := C
  subst hs1; subst hs2; subst hst
  obtain ⟨w1, w3, w4, w5, w6, w7⟩ := hY
  intro H locs ls hh hS hl
  have hpv : PreS s H (va_Pc As (fun U => xh E0 B0 N σ U.heap ∧ xk E0 U)) As := ⟨x_pre, fun U hU hW => ⟨rfl, by rw [hU]; exact hh, xk.moved hW hk⟩⟩
  have hlen : ∀ sig, parseMethodDescriptor y.desc = some sig → n = sig.parameters.length := fun sig h => by
    rw [h] at w7
    exact (Option.some.inj w7).symm
  rcases hl0 with h | ⟨host, h⟩
  · have hrun := va_runS (e := e) (meth := meth) (below := below) (H := H) (locs := locs) (cells := a) (slots := b) (rest := st) (g := F0 m pc ls (As.reverse ++ st)) ⟨hx, hb, hml, hown, hts⟩ hM (index := idx) ⟨⟨rfl, rfl, by rw [hR1]; exact hr1, by rw [hR2]; exact hr2, x_ws hts w3, List.mem_cons_self, hts _ w3, hts _ w4, ⟨w5, w6⟩, hlen, hts _ h⟩, hts _ w1⟩ hpv rfl hn hl.1 rfl (lv_room hcat) d ⟨by rw [hR3]; exact hr3, by rw [hR4]; exact hr4⟩
    exact x_run hk rfl hrun hS hl hBs kk
  · have hrun := va_runSN (e := e) (meth := meth) (below := below) (H := H) (locs := locs) (cells := a) (slots := b) (rest := st) (g := F0 m pc ls (As.reverse ++ st)) ⟨hx, hb, hml, hown, hts⟩ hM (index := idx) (host := host) ⟨⟨⟨rfl, rfl, by rw [hR1]; exact hr1, by rw [hR2]; exact hr2, x_ws hts w3, List.mem_cons_self⟩, hts _ w3, hts _ w4, ⟨w5, w6⟩, hlen, va_Nw.use rfl (hk.2 _ h)⟩, hts _ w1, trivial⟩ hpv rfl hn hl.1 rfl (lv_room hcat) d ⟨by rw [hR3]; exact hr3, by rw [hR4]; exact hr4⟩
    exact x_run hk rfl hrun hS hl hBs kk
theorem x_callI (C : xC k l E B cc nL ret own mn fr lo ce sl) (hM : xM l y cc2 nL2 none fr2 lo2 ce2 sl2 E B (.ref b0 :: As) N σ1 N2 σ2 oc) (hY : xYi y cc2 nL2 n) (hl0 : Cond.methodLink own idx y ∈ xG) (d : decode cc pc = .ok (.invokespecial idx, 3)) (hs1 : σ = σ1) (hs2 : σ2 = σ3) (hn : As.length = n) (hst : st0 = As.reverse ++ .ref b0 :: st) (hcat : (st.map fun v => v.category).sum ≤ 8) (hr1 : fr2 + 1 ≤ fr) (hr2 : 8 + (nL2 + 11) + lo2 ≤ lo) (hr3 : a + ce2 ≤ ce) (hr4 : b + sl2 ≤ sl)
    (kk : xX k N2 (a + ce2) (b + sl2) σ3 (pc + 3) lv (oc.toList ++ st)) : xX k N a b σ pc lv st0 := by
  obtain ⟨p, l0, e, R, s, m, args, below, meth, c, Q, E0, B0, nL0⟩ := k
  obtain ⟨rfl, rfl, rfl, rfl, hx, hb, hml, hown, hts, hk, ⟨hR1, hR2, hR3, hR4⟩, hr, hlk, hmn, hBs⟩ := C
  subst hs1; subst hs2; subst hst
  obtain ⟨w1, w3, w4, ⟨w5, w6, w7⟩, w8⟩ := hY
  intro H locs ls hh hS hl
  have hpv : PreS s H (va_Pc (.ref b0 :: As) (fun U => xh E0 B0 N σ U.heap ∧ xk E0 U)) (.ref b0 :: As) := ⟨x_pre, fun U hU hW => ⟨rfl, by rw [hU]; exact hh, xk.moved hW hk⟩⟩
  have hlen : ∀ sig, parseMethodDescriptor y.desc = some sig → n = sig.parameters.length := fun sig h => by
    rw [h] at w7
    exact (Option.some.inj w7).symm
  have hrun := va_runI (e := e) (meth := meth) (below := below) (H := H) (locs := locs) (cells := a) (slots := b) (rest := st) (g := F0 m pc ls (As.reverse ++ .ref b0 :: st)) ⟨hx, hb, hml, hown, hts⟩ hM (index := idx) ⟨⟨rfl, rfl, by rw [hR1]; exact hr1, by rw [hR2]; exact hr2, x_ws hts w3, List.mem_cons_self, hts _ w3, hts _ w4, ⟨w5, w6⟩, hlen, hts _ hl0⟩, w8, hts _ w1⟩ hpv rfl hn hl.1 rfl (lv_room hcat) d ⟨by rw [hR3]; exact hr3, by rw [hR4]; exact hr4⟩
  exact x_run hk rfl hrun hS hl hBs kk
theorem x_new (C : xC k l E B cc nL ret own mn fr lo ce sl) {ci i2 : Nat} {q : vw_C} {fs : List Value} {σ9 : Sg} (hc : vwCl[ci]? = some q) (hin : ∀ w ∈ u_ws q.1 q.2.1 q.2.2, w ∈ xG) (ty0 : Nat → FieldType) (hty : ∀ j, j < q.2.2 → parseFieldDescriptor (q.2.1 j).2.2.1 = some (ty0 j)) (w1 : Cond.classLink own i2 q.1 ∈ xG) (w2 : Cond.instantiable q.1 q.2.2 ∈ xG) (w3 : Cond.initialized q.1 ∈ xG) (hfs : ∀ j, j < q.2.2 → defaultValue (ty0 j) = vp_V fs j) (hca : a + 1 ≤ ce) (hcb : b + q.2.2 ≤ sl) (hs : xup σ N (.inr (ci, fs)) = σ9) (d : decode cc pc = .ok (.new i2, 3))
    (kk : xX k (N + 1) (a + 1) (b + q.2.2) σ9 (pc + 3) lv (.ref N :: st)) : xX k N a b σ pc lv st := by
  obtain ⟨p, l0, e, R, s, m, args, below, meth, c, Q, E0, B0, nL0⟩ := k
  obtain ⟨rfl, rfl, rfl, rfl, hx, hb, hml, hown, hts, hk, ⟨hR1, hR2, hR3, hR4⟩, hr, hlk, hmn, hBs⟩ := C
  obtain ⟨Cn, T, n⟩ := q
  subst hs
  intro H locs ls hh hS hl
  have hKn := hk.1.1 ci _ hc
  refine W.newcK hx hb hown (hts _ w1) (hts _ w2) (hts _ w3) rfl d (by rw [hR3]; exact hca) (by rw [hR4]; exact hcb) hKn.2.1 hh.1 fun H1 kC hkC e1 z1 o1 => ?_
  refine kk H1 locs ls (hh.push z1 o1 ⟨_, hc, (u_born ty0 hts hin hKn hkC e1 hty).to hfs⟩) ⟨Nat.le_trans hS.1 (by rw [z1, hh.1]; exact Nat.le_succ N), fun x h1 h2 => (o1 x (Nat.lt_of_lt_of_le h1 (by rw [← hh.1]; exact hS.1))).trans (hS.2.1 x h1 h2), hS.2.2⟩ hl
theorem x_newi (C : xC k l E B cc nL ret own mn fr lo ce sl) {n : Int32} {n2 : Nat} {σ9 : Sg} (w1 : Cond.arrayClass .int ∈ xG) (hn : ¬ n < 0) (hN : n.toNatClampNeg = n2) (hby : n2 * componentBytes .int ≤ 536870912) (hca : a + 1 ≤ ce) (hcb : b + n2 ≤ sl) (hs : xup σ N (.inl (xI E, n2, .inl (fun _ => 0))) = σ9) (d : decode cc pc = .ok (.newarray .int, 2))
    (kk : xX k (N + 1) (a + 1) (b + n2) σ9 (pc + 2) lv (.ref N :: st)) : xX k N a b σ pc lv (.int n :: st) := by
  obtain ⟨p, l0, e, R, s, m, args, below, meth, c, Q, E0, B0, nL0⟩ := k
  obtain ⟨rfl, rfl, rfl, rfl, hx, hb, hml, hown, hts, hk, ⟨hR1, hR2, hR3, hR4⟩, hr, hlk, hmn, hBs⟩ := C
  subst hs
  intro H locs ls hh hS hl
  refine va_newaK hx hb (atype := .int) (hts _ w1) rfl d rfl hn hN hby (by rw [hR3]; exact hca) (by rw [hR4]; exact hcb) hh.1 fun H1 cA e1 z1 o1 hAr hNm => ?_
  have hcA : cA = xI E0 := by
    have h1 := (hk.1.2 0 _ rfl).2
    have h2 : s.vm.findClass ("[" ++ FieldType.toString .int) = some (xI E0) := h1
    exact Option.some.inj (hNm.symm.trans h2)
  subst hcA
  refine kk H1 locs ls (hh.push z1 o1 e1) ⟨Nat.le_trans hS.1 (by rw [z1, hh.1]; exact Nat.le_succ N), fun x h1 h2 => (o1 x (Nat.lt_of_lt_of_le h1 (by rw [← hh.1]; exact hS.1))).trans (hS.2.1 x h1 h2), hS.2.2⟩ hl
theorem x_newc (C : xC k l E B cc nL ret own mn fr lo ce sl) {n : Int32} {n2 : Nat} {σ9 : Sg} (w1 : Cond.arrayClass .char ∈ xG) (hn : ¬ n < 0) (hN : n.toNatClampNeg = n2) (hby : n2 * componentBytes .char ≤ 536870912) (hca : a + 1 ≤ ce) (hcb : b + n2 ≤ sl) (hs : xup σ N (.inl (xCh E, n2, .inl (fun _ => 0))) = σ9) (d : decode cc pc = .ok (.newarray .char, 2))
    (kk : xX k (N + 1) (a + 1) (b + n2) σ9 (pc + 2) lv (.ref N :: st)) : xX k N a b σ pc lv (.int n :: st) := by
  obtain ⟨p, l0, e, R, s, m, args, below, meth, c, Q, E0, B0, nL0⟩ := k
  obtain ⟨rfl, rfl, rfl, rfl, hx, hb, hml, hown, hts, hk, ⟨hR1, hR2, hR3, hR4⟩, hr, hlk, hmn, hBs⟩ := C
  subst hs
  intro H locs ls hh hS hl
  refine va_newaK hx hb (atype := .char) (hts _ w1) rfl d rfl hn hN hby (by rw [hR3]; exact hca) (by rw [hR4]; exact hcb) hh.1 fun H1 cA e1 z1 o1 hAr hNm => ?_
  have hcA : cA = xCh E0 := by
    have h1 := (hk.1.2 1 _ rfl).2
    have h2 : s.vm.findClass ("[" ++ FieldType.toString .char) = some (xCh E0) := h1
    exact Option.some.inj (hNm.symm.trans h2)
  subst hcA
  refine kk H1 locs ls (hh.push z1 o1 e1) ⟨Nat.le_trans hS.1 (by rw [z1, hh.1]; exact Nat.le_succ N), fun x h1 h2 => (o1 x (Nat.lt_of_lt_of_le h1 (by rw [← hh.1]; exact hS.1))).trans (hS.2.1 x h1 h2), hS.2.2⟩ hl
theorem x_newq (C : xC k l E B cc nL ret own mn fr lo ce sl) {n : Int32} {n2 t0 i2 : Nat} {cA : ClassId} {Cn : String} {σ9 : Sg} (w1 : Cond.classLink own i2 Cn ∈ xG) (w2 : Cond.arrayOver (.object Cn) ∈ xGN) (ht : (xtys E)[t0]? = some (cA, .object Cn)) (hn : ¬ n < 0) (hN : n.toNatClampNeg = n2) (hby : n2 * 4 ≤ 536870912) (hca : a + 1 ≤ ce) (hcb : b + n2 ≤ sl) (hs : xup σ N (.inl (cA, n2, .inr (.inr (.inr (.inr (fun _ => none)))))) = σ9) (d : decode cc pc = .ok (.anewarray i2, 3))
    (kk : xX k (N + 1) (a + 1) (b + n2) σ9 (pc + 3) lv (.ref N :: st)) : xX k N a b σ pc lv (.int n :: st) := by
  obtain ⟨p, l0, e, R, s, m, args, below, meth, c, Q, E0, B0, nL0⟩ := k
  obtain ⟨rfl, rfl, rfl, rfl, hx, hb, hml, hown, hts, hk, ⟨hR1, hR2, hR3, hR4⟩, hr, hlk, hmn, hBs⟩ := C
  subst hs; subst hN
  intro H locs ls hh hS hl
  refine W.anew hx hb hown (hts _ w1) (va_AO.use (hk.2 _ w2)) rfl d rfl hn hby (by rw [hR3]; exact hca) (by rw [hR4]; exact hcb) fun cB kA comp f1 f2 f3 f4 => ?_
  have hcA : cB = cA := by
    obtain ⟨kA2, comp2, g1, g2, g3, g4⟩ := (hk.1.2 t0 _ ht).2
    exact Option.some.inj (f1.symm.trans g4)
  subst hcA
  generalize hH1 : H.push ({ cls := cB, slots := Array.replicate n.toNatClampNeg .null, vm := .none } : Cell) = H1
  have z1 : H1.size = N + 1 := by rw [← hH1, Array.size_push, hh.1]
  have e1 : H1[N]? = some (arrV cB n.toNatClampNeg (fun _ => .null)) := by rw [← hH1, ← hh.1, Array.getElem?_push_size, ← arrV_new]
  have o1 : ∀ q : Nat, q < N → H1[q]? = H[q]? := fun q hq => by rw [← hH1, Array.getElem?_push, if_neg (by rw [hh.1]; exact Nat.ne_of_lt hq)]
  rw [hh.1]
  refine kk H1 locs ls (hh.push z1 o1 (show H1[N]? = some (vp_cell _ _) by rw [vp_cell_q]; exact e1)) ⟨Nat.le_trans hS.1 (by rw [z1, hh.1]; exact Nat.le_succ N), fun x h1 h2 => (o1 x (Nat.lt_of_lt_of_le h1 (by rw [← hh.1]; exact hS.1))).trans (hS.2.1 x h1 h2), hS.2.2⟩ hl
theorem x_aast (C : xC k l E B cc nL ret own mn fr lo ce sl) {a0 n t0 v ci : Nat} {cA : ClassId} {r : vw_C} {f g : Nat → Option Nat} {vs : List Value} {i : Int32} {σ9 : Sg} (he : σ a0 = some (.inl (cA, n, .inr (.inr (.inr (.inr f)))))) (ht : (xtys E)[t0]? = some (cA, .object r.1)) (hv : σ v = some (.inr (ci, vs))) (hc : vwCl[ci]? = some r) (hin : vp_in i n) (hg : ∀ j, j < n → va_up f i.toNatClampNeg (some v) j = g j) (hs : xup σ a0 (.inl (cA, n, .inr (.inr (.inr (.inr g))))) = σ9) (d : decode cc pc = .ok (.aastore, 1))
    (kk : xX k N a b σ9 (pc + 1) lv (st)) : xX k N a b σ pc lv (.ref v :: .int i :: .ref a0 :: st) := by
  obtain ⟨p, l0, e, R, s, m, args, below, meth, c, Q, E0, B0, nL0⟩ := k
  obtain ⟨rfl, rfl, rfl, rfl, hx, hb, hml, hown, hts, hk, ⟨hR1, hR2, hR3, hR4⟩, hr, hlk, hmn, hBs⟩ := C
  subst hs
  intro H locs ls hh hS hl
  have hlt : i.toNatClampNeg < n := Nat.not_le.mp fun q => hin (Or.inr q)
  have h0 : ¬ i < 0 := fun q => hin (Or.inl q)
  obtain ⟨hba, hca⟩ := hh.2.2 a0 _ he
  obtain ⟨-, r2, hr2, cellV, g1, g2, g3, -⟩ := hh.2.2 v _ hv
  have hcls := (hk.1.1 ci r hc).2
  obtain ⟨kA, comp, k1, k2, k3, -⟩ := (hk.1.2 t0 _ ht).2
  have hcomp : comp = E0.1.1 ci := Option.some.inj (k3.symm.trans hcls.1)
  subst hcomp
  obtain ⟨kC, hkC, -⟩ := hcls.2
  refine W.aast hx hb hca (fun q h => by cases h) (fun h => by cases h) k1 k2 rfl hkC ⟨h0, by show _ < (arrV _ _ _).slots.size; rw [arrV_size]; exact hlt⟩ g1 (fun q h => by rw [g3] at h; cases h) (by rw [g2]; exact hkC) (by rw [g2]; exact va_assign hcls) rfl rfl d fun H1 e z oq => ?_
  refine kk H1 _ ls (hh.put he z oq ?_) (hS.put z oq hba) hl
  show H1[a0]? = some (vp_cell _ _)
  rw [e]
  rw [vp_cell_q, vp_cell_q, arrV_store]
  unfold arrV
  congr 2
  congr 1
  funext q
  show updV (fun j => va_rf (f j)) i.toNatClampNeg (.ref v) q.val = va_rf (g q.val)
  rw [← hg q.val q.isLt]
  by_cases hq : q.val = i.toNatClampNeg
  · simp [updV, va_up, va_rf, hq]
  · simp [updV, va_up, hq]
theorem x_obj (C : xC k l E B cc nL ret own mn fr lo ce sl) (w1 : Cond.methodLink own idx objectInit ∈ xG) (w2 : Cond.instanceMethod objectInit ∈ xG) (w3 : Cond.code objectInit ⟨#[0xb1]⟩ 1 none ∈ xG) {a0 : Nat} (d : decode cc pc = .ok (.invokespecial idx, 3)) (hfr : 1 ≤ fr) (hlo : (st.map fun v => v.category).sum + 12 ≤ lo)
    (kk : xX k N a b σ (pc + 3) lv (st)) : xX k N a b σ pc lv (.ref a0 :: st) := by
  obtain ⟨p, l0, e, R, s, m, args, below, meth, c, Q, E0, B0, nL0⟩ := k
  obtain ⟨rfl, rfl, rfl, rfl, hx, hb, hml, hown, hts, hk, ⟨hR1, hR2, hR3, hR4⟩, hr, hlk, hmn, hBs⟩ := C
  intro H locs ls hh hS hl
  refine W.objInit hx hb hown (hts _ w1) (hts _ w2) (hts _ w3) rfl (by rw [hml]; exact hl.1) rfl d (by rw [hR1]; exact hfr) (by rw [hR2]; show 2 * 0 + _ + _ ≤ _; omega) ?_
  exact (kk H locs ls hh hS hl)
theorem x_zret {ty : FieldType} (C : xC k l E B cc nL (some ty) own mn fr lo ce sl) {v v2 : Int32} (Z : xZ k ce sl N2 σ2 (some (.int v2))) (d : decode cc pc = .ok (.ireturn, 1)) (hnw : narrow ty (.int v) = .int v) (ha : a ≤ ce) (hb2 : b ≤ sl) (hN : N = N2) (hs : σ = σ2) (hv : v = v2) : xX k N a b σ pc lv [.int v] := by
  obtain ⟨p, l0, e, R, s, m, args, below, meth, c, Q, E0, B0, nL0⟩ := k
  obtain ⟨rfl, rfl, rfl, rfl, hx, hb, hml, hown, hts, hk, ⟨hR1, hR2, hR3, hR4⟩, hr, hlk, hmn, hBs⟩ := C
  subst hN; subst hs; subst hv
  have Z : Q = _ := Z
  subst Z
  intro H locs ls hh hS hl
  refine W.widen ha hb2 ?_
  exact W.zret hx hb hr hnw (fun t ht hW => ⟨rfl, by rw [ht]; exact hh, xk.moved hW hk, hS.F ht⟩) hS.2.2 d hlk
theorem x_lret (C : xC k l E B cc nL (some .long) own mn fr lo ce sl) {v v2 : Int64} (Z : xZ k ce sl N2 σ2 (some (.long v2))) (d : decode cc pc = .ok (.lreturn, 1))  (ha : a ≤ ce) (hb2 : b ≤ sl) (hN : N = N2) (hs : σ = σ2) (hv : v = v2) : xX k N a b σ pc lv [.long v] := by
  obtain ⟨p, l0, e, R, s, m, args, below, meth, c, Q, E0, B0, nL0⟩ := k
  obtain ⟨rfl, rfl, rfl, rfl, hx, hb, hml, hown, hts, hk, ⟨hR1, hR2, hR3, hR4⟩, hr, hlk, hmn, hBs⟩ := C
  subst hN; subst hs; subst hv
  have Z : Q = _ := Z
  subst Z
  intro H locs ls hh hS hl
  refine W.widen ha hb2 ?_
  exact W.lret hx hb hr (fun t ht hW => ⟨rfl, by rw [ht]; exact hh, xk.moved hW hk, hS.F ht⟩) hS.2.2 d hlk
theorem x_vret (C : xC k l E B cc nL none own mn fr lo ce sl) (Z : xZ k ce sl N2 σ2 none) (d : decode cc pc = .ok (.return_, 1)) (ha : a ≤ ce) (hb2 : b ≤ sl) (hN : N = N2) (hs : σ = σ2) : xX k N a b σ pc lv [] := by
  obtain ⟨p, l0, e, R, s, m, args, below, meth, c, Q, E0, B0, nL0⟩ := k
  obtain ⟨rfl, rfl, rfl, rfl, hx, hb, hml, hown, hts, hk, ⟨hR1, hR2, hR3, hR4⟩, hr, hlk, hmn, hBs⟩ := C
  subst hN; subst hs
  have Z : Q = _ := Z
  subst Z
  intro H locs ls hh hS hl
  refine W.widen ha hb2 ?_
  exact W.vret hx hb hr (fun t ht hW => ⟨rfl, by rw [ht]; exact hh, xk.moved hW hk, hS.F ht⟩) hS.2.2 d hlk
theorem x_aret {on : String} (C : xC k l E B cc nL (some (.object on)) own mn fr lo ce sl) {v v2 : Value} (Z : xZ k ce sl N2 σ2 (some v2)) (d : decode cc pc = .ok (.areturn, 1)) (hvr : v = .null ∨ ∃ a, v = .ref a) (ha : a ≤ ce) (hb2 : b ≤ sl) (hN : N = N2) (hs : σ = σ2) (hv : v = v2) : xX k N a b σ pc lv [v] := by
  obtain ⟨p, l0, e, R, s, m, args, below, meth, c, Q, E0, B0, nL0⟩ := k
  obtain ⟨rfl, rfl, rfl, rfl, hx, hb, hml, hown, hts, hk, ⟨hR1, hR2, hR3, hR4⟩, hr, hlk, hmn, hBs⟩ := C
  subst hN; subst hs; subst hv
  have Z : Q = _ := Z
  subst Z
  intro H locs ls hh hS hl
  refine W.widen ha hb2 ?_
  exact W.aret hx hb hr (Or.inl ⟨_, rfl⟩) hvr (fun t ht hW => ⟨rfl, by rw [ht]; exact hh, xk.moved hW hk, hS.F ht⟩) hS.2.2 d hlk
end XRC
end
section
theorem kc_X0 : ∀ w ∈ u_ws RX0 TX0 2, w ∈ xG := by
  intro w hw
  obtain ⟨j, hj, rfl⟩ := List.mem_map.mp hw
  have hj := List.mem_range.mp hj
  match j, hj with
  | 0, _ => exact (xG_of (i := 103) (by decide +kernel) rfl)
  | 1, _ => exact (xG_of (i := 105) (by decide +kernel) rfl)
  | j + 2, h => exact absurd h (by omega)
theorem ki_X0 : Cond.initialized RX0 ∈ xG := (xG_of (i := 9) (by decide +kernel) rfl)
theorem kn_X0 : Cond.instantiable RX0 2 ∈ xG := (xG_of (i := 97) (by decide +kernel) rfl)
theorem kc_X1 : ∀ w ∈ u_ws RX1 TX1 3, w ∈ xG := by
  intro w hw
  obtain ⟨j, hj, rfl⟩ := List.mem_map.mp hw
  have hj := List.mem_range.mp hj
  match j, hj with
  | 0, _ => exact (xG_of (i := 89) (by decide +kernel) rfl)
  | 1, _ => exact (xG_of (i := 91) (by decide +kernel) rfl)
  | 2, _ => exact (xG_of (i := 93) (by decide +kernel) rfl)
  | j + 3, h => exact absurd h (by omega)
theorem ki_X1 : Cond.initialized RX1 ∈ xG := (xG_of (i := 8) (by decide +kernel) rfl)
theorem kn_X1 : Cond.instantiable RX1 3 ∈ xG := (xG_of (i := 78) (by decide +kernel) rfl)
theorem kc_X2 : ∀ w ∈ u_ws RX2 TX2 4, w ∈ xG := by
  intro w hw
  obtain ⟨j, hj, rfl⟩ := List.mem_map.mp hw
  have hj := List.mem_range.mp hj
  match j, hj with
  | 0, _ => exact (xG_of (i := 41) (by decide +kernel) rfl)
  | 1, _ => exact (xG_of (i := 43) (by decide +kernel) rfl)
  | 2, _ => exact (xG_of (i := 45) (by decide +kernel) rfl)
  | 3, _ => exact (xG_of (i := 47) (by decide +kernel) rfl)
  | j + 4, h => exact absurd h (by omega)
theorem ki_X2 : Cond.initialized RX2 ∈ xG := (xG_of (i := 7) (by decide +kernel) rfl)
theorem kn_X2 : Cond.instantiable RX2 4 ∈ xG := (xG_of (i := 28) (by decide +kernel) rfl)
theorem kc_X3 : ∀ w ∈ u_ws RX3 TX3 8, w ∈ xG := by
  intro w hw
  obtain ⟨j, hj, rfl⟩ := List.mem_map.mp hw
  have hj := List.mem_range.mp hj
  match j, hj with
  | 0, _ => exact (xG_of (i := 60) (by decide +kernel) rfl)
  | 1, _ => exact (xG_of (i := 62) (by decide +kernel) rfl)
  | 2, _ => exact (xG_of (i := 64) (by decide +kernel) rfl)
  | 3, _ => exact (xG_of (i := 66) (by decide +kernel) rfl)
  | 4, _ => exact (xG_of (i := 68) (by decide +kernel) rfl)
  | 5, _ => exact (xG_of (i := 70) (by decide +kernel) rfl)
  | 6, _ => exact (xG_of (i := 72) (by decide +kernel) rfl)
  | 7, _ => exact (xG_of (i := 74) (by decide +kernel) rfl)
  | j + 8, h => exact absurd h (by omega)
theorem ki_X3 : Cond.initialized RX3 ∈ xG := (xG_of (i := 6) (by decide +kernel) rfl)
theorem kn_X3 : Cond.instantiable RX3 8 ∈ xG := (xG_of (i := 21) (by decide +kernel) rfl)
theorem kc_X4 : ∀ w ∈ u_ws RX4 TX4 4, w ∈ xG := by
  intro w hw
  obtain ⟨j, hj, rfl⟩ := List.mem_map.mp hw
  have hj := List.mem_range.mp hj
  match j, hj with
  | 0, _ => exact (xG_of (i := 113) (by decide +kernel) rfl)
  | 1, _ => exact (xG_of (i := 115) (by decide +kernel) rfl)
  | 2, _ => exact (xG_of (i := 117) (by decide +kernel) rfl)
  | 3, _ => exact (xG_of (i := 119) (by decide +kernel) rfl)
  | j + 4, h => exact absurd h (by omega)
theorem ki_X4 : Cond.initialized RX4 ∈ xG := (xG_of (i := 5) (by decide +kernel) rfl)
theorem kn_X4 : Cond.instantiable RX4 4 ∈ xG := (xG_of (i := 13) (by decide +kernel) rfl)
theorem kf_X2_9 : xFd RX2 9 (RX2, TX2, 4) 2 0 := ⟨rfl, by decide, Or.inl (xG_of (i := 33) (by decide +kernel) rfl), kc_X2, ⟨tyX2, tyX2_ok⟩, nmX2⟩
theorem kfw_X2_9 : Cond.fieldLink RX2 9 (TX2 0).1 (TX2 0).2.1 (TX2 0).2.2.1 ∈ xG := (xG_of (i := 33) (by decide +kernel) rfl)
theorem kf_X2_21 : xFd RX2 21 (RX2, TX2, 4) 2 1 := ⟨rfl, by decide, Or.inl (xG_of (i := 34) (by decide +kernel) rfl), kc_X2, ⟨tyX2, tyX2_ok⟩, nmX2⟩
theorem kfw_X2_21 : Cond.fieldLink RX2 21 (TX2 1).1 (TX2 1).2.1 (TX2 1).2.2.1 ∈ xG := (xG_of (i := 34) (by decide +kernel) rfl)
theorem kf_X3_55 : xFd RX3 55 (RX2, TX2, 4) 2 1 := ⟨rfl, by decide, Or.inr ⟨"GesturePidgin", (xGN_of (i := 35) (by decide +kernel) rfl)⟩, kc_X2, ⟨tyX2, tyX2_ok⟩, nmX2⟩
theorem kf_X2_25 : xFd RX2 25 (RX2, TX2, 4) 2 2 := ⟨rfl, by decide, Or.inl (xG_of (i := 36) (by decide +kernel) rfl), kc_X2, ⟨tyX2, tyX2_ok⟩, nmX2⟩
theorem kfw_X2_25 : Cond.fieldLink RX2 25 (TX2 2).1 (TX2 2).2.1 (TX2 2).2.2.1 ∈ xG := (xG_of (i := 36) (by decide +kernel) rfl)
theorem kf_X4_95 : xFd RX4 95 (RX2, TX2, 4) 2 2 := ⟨rfl, by decide, Or.inr ⟨"GesturePidgin", (xGN_of (i := 37) (by decide +kernel) rfl)⟩, kc_X2, ⟨tyX2, tyX2_ok⟩, nmX2⟩
theorem kf_X3_104 : xFd RX3 104 (RX2, TX2, 4) 2 2 := ⟨rfl, by decide, Or.inr ⟨"GesturePidgin", (xGN_of (i := 38) (by decide +kernel) rfl)⟩, kc_X2, ⟨tyX2, tyX2_ok⟩, nmX2⟩
theorem kf_X2_29 : xFd RX2 29 (RX2, TX2, 4) 2 3 := ⟨rfl, by decide, Or.inl (xG_of (i := 39) (by decide +kernel) rfl), kc_X2, ⟨tyX2, tyX2_ok⟩, nmX2⟩
theorem kfw_X2_29 : Cond.fieldLink RX2 29 (TX2 3).1 (TX2 3).2.1 (TX2 3).2.2.1 ∈ xG := (xG_of (i := 39) (by decide +kernel) rfl)
theorem kf_X3_73 : xFd RX3 73 (RX2, TX2, 4) 2 3 := ⟨rfl, by decide, Or.inr ⟨"GesturePidgin", (xGN_of (i := 40) (by decide +kernel) rfl)⟩, kc_X2, ⟨tyX2, tyX2_ok⟩, nmX2⟩
theorem kf_X3_11 : xFd RX3 11 (RX3, TX3, 8) 3 0 := ⟨rfl, by decide, Or.inl (xG_of (i := 51) (by decide +kernel) rfl), kc_X3, ⟨tyX3, tyX3_ok⟩, nmX3⟩
theorem kfw_X3_11 : Cond.fieldLink RX3 11 (TX3 0).1 (TX3 0).2.1 (TX3 0).2.2.1 ∈ xG := (xG_of (i := 51) (by decide +kernel) rfl)
theorem kf_X3_18 : xFd RX3 18 (RX3, TX3, 8) 3 1 := ⟨rfl, by decide, Or.inl (xG_of (i := 52) (by decide +kernel) rfl), kc_X3, ⟨tyX3, tyX3_ok⟩, nmX3⟩
theorem kfw_X3_18 : Cond.fieldLink RX3 18 (TX3 1).1 (TX3 1).2.1 (TX3 1).2.2.1 ∈ xG := (xG_of (i := 52) (by decide +kernel) rfl)
theorem kf_X3_22 : xFd RX3 22 (RX3, TX3, 8) 3 2 := ⟨rfl, by decide, Or.inl (xG_of (i := 53) (by decide +kernel) rfl), kc_X3, ⟨tyX3, tyX3_ok⟩, nmX3⟩
theorem kfw_X3_22 : Cond.fieldLink RX3 22 (TX3 2).1 (TX3 2).2.1 (TX3 2).2.2.1 ∈ xG := (xG_of (i := 53) (by decide +kernel) rfl)
theorem kf_X3_25 : xFd RX3 25 (RX3, TX3, 8) 3 3 := ⟨rfl, by decide, Or.inl (xG_of (i := 54) (by decide +kernel) rfl), kc_X3, ⟨tyX3, tyX3_ok⟩, nmX3⟩
theorem kfw_X3_25 : Cond.fieldLink RX3 25 (TX3 3).1 (TX3 3).2.1 (TX3 3).2.2.1 ∈ xG := (xG_of (i := 54) (by decide +kernel) rfl)
theorem kf_X4_76 : xFd RX4 76 (RX3, TX3, 8) 3 3 := ⟨rfl, by decide, Or.inr ⟨"GesturePidgin", (xGN_of (i := 55) (by decide +kernel) rfl)⟩, kc_X3, ⟨tyX3, tyX3_ok⟩, nmX3⟩
theorem kf_X3_39 : xFd RX3 39 (RX3, TX3, 8) 3 4 := ⟨rfl, by decide, Or.inl (xG_of (i := 56) (by decide +kernel) rfl), kc_X3, ⟨tyX3, tyX3_ok⟩, nmX3⟩
theorem kfw_X3_39 : Cond.fieldLink RX3 39 (TX3 4).1 (TX3 4).2.1 (TX3 4).2.2.1 ∈ xG := (xG_of (i := 56) (by decide +kernel) rfl)
theorem kf_X3_42 : xFd RX3 42 (RX3, TX3, 8) 3 5 := ⟨rfl, by decide, Or.inl (xG_of (i := 57) (by decide +kernel) rfl), kc_X3, ⟨tyX3, tyX3_ok⟩, nmX3⟩
theorem kfw_X3_42 : Cond.fieldLink RX3 42 (TX3 5).1 (TX3 5).2.1 (TX3 5).2.2.1 ∈ xG := (xG_of (i := 57) (by decide +kernel) rfl)
theorem kf_X3_45 : xFd RX3 45 (RX3, TX3, 8) 3 6 := ⟨rfl, by decide, Or.inl (xG_of (i := 58) (by decide +kernel) rfl), kc_X3, ⟨tyX3, tyX3_ok⟩, nmX3⟩
theorem kfw_X3_45 : Cond.fieldLink RX3 45 (TX3 6).1 (TX3 6).2.1 (TX3 6).2.2.1 ∈ xG := (xG_of (i := 58) (by decide +kernel) rfl)
theorem kf_X3_48 : xFd RX3 48 (RX3, TX3, 8) 3 7 := ⟨rfl, by decide, Or.inl (xG_of (i := 59) (by decide +kernel) rfl), kc_X3, ⟨tyX3, tyX3_ok⟩, nmX3⟩
theorem kfw_X3_48 : Cond.fieldLink RX3 48 (TX3 7).1 (TX3 7).2.1 (TX3 7).2.2.1 ∈ xG := (xG_of (i := 59) (by decide +kernel) rfl)
theorem kf_X1_11 : xFd RX1 11 (RX1, TX1, 3) 1 0 := ⟨rfl, by decide, Or.inl (xG_of (i := 86) (by decide +kernel) rfl), kc_X1, ⟨tyX1, tyX1_ok⟩, nmX1⟩
theorem kfw_X1_11 : Cond.fieldLink RX1 11 (TX1 0).1 (TX1 0).2.1 (TX1 0).2.2.1 ∈ xG := (xG_of (i := 86) (by decide +kernel) rfl)
theorem kf_X1_18 : xFd RX1 18 (RX1, TX1, 3) 1 1 := ⟨rfl, by decide, Or.inl (xG_of (i := 87) (by decide +kernel) rfl), kc_X1, ⟨tyX1, tyX1_ok⟩, nmX1⟩
theorem kfw_X1_18 : Cond.fieldLink RX1 18 (TX1 1).1 (TX1 1).2.1 (TX1 1).2.2.1 ∈ xG := (xG_of (i := 87) (by decide +kernel) rfl)
theorem kf_X1_30 : xFd RX1 30 (RX1, TX1, 3) 1 2 := ⟨rfl, by decide, Or.inl (xG_of (i := 88) (by decide +kernel) rfl), kc_X1, ⟨tyX1, tyX1_ok⟩, nmX1⟩
theorem kfw_X1_30 : Cond.fieldLink RX1 30 (TX1 2).1 (TX1 2).2.1 (TX1 2).2.2.1 ∈ xG := (xG_of (i := 88) (by decide +kernel) rfl)
theorem kf_X0_9 : xFd RX0 9 (RX0, TX0, 2) 0 0 := ⟨rfl, by decide, Or.inl (xG_of (i := 102) (by decide +kernel) rfl), kc_X0, ⟨tyX0, tyX0_ok⟩, nmX0⟩
theorem kfw_X0_9 : Cond.fieldLink RX0 9 (TX0 0).1 (TX0 0).2.1 (TX0 0).2.2.1 ∈ xG := (xG_of (i := 102) (by decide +kernel) rfl)
theorem kf_X4_10 : xFd RX4 10 (RX4, TX4, 4) 4 0 := ⟨rfl, by decide, Or.inl (xG_of (i := 109) (by decide +kernel) rfl), kc_X4, ⟨tyX4, tyX4_ok⟩, nmX4⟩
theorem kfw_X4_10 : Cond.fieldLink RX4 10 (TX4 0).1 (TX4 0).2.1 (TX4 0).2.2.1 ∈ xG := (xG_of (i := 109) (by decide +kernel) rfl)
theorem kf_X4_16 : xFd RX4 16 (RX4, TX4, 4) 4 1 := ⟨rfl, by decide, Or.inl (xG_of (i := 110) (by decide +kernel) rfl), kc_X4, ⟨tyX4, tyX4_ok⟩, nmX4⟩
theorem kfw_X4_16 : Cond.fieldLink RX4 16 (TX4 1).1 (TX4 1).2.1 (TX4 1).2.2.1 ∈ xG := (xG_of (i := 110) (by decide +kernel) rfl)
theorem kf_X4_22 : xFd RX4 22 (RX4, TX4, 4) 4 2 := ⟨rfl, by decide, Or.inl (xG_of (i := 111) (by decide +kernel) rfl), kc_X4, ⟨tyX4, tyX4_ok⟩, nmX4⟩
theorem kfw_X4_22 : Cond.fieldLink RX4 22 (TX4 2).1 (TX4 2).2.1 (TX4 2).2.2.1 ∈ xG := (xG_of (i := 111) (by decide +kernel) rfl)
theorem kf_X4_29 : xFd RX4 29 (RX4, TX4, 4) 4 3 := ⟨rfl, by decide, Or.inl (xG_of (i := 112) (by decide +kernel) rfl), kc_X4, ⟨tyX4, tyX4_ok⟩, nmX4⟩
theorem kfw_X4_29 : Cond.fieldLink RX4 29 (TX4 3).1 (TX4 3).2.1 (TX4 3).2.2.1 ∈ xG := (xG_of (i := 112) (by decide +kernel) rfl)
theorem kj_X4_init : xYi yX4_init cX4_init 1 0 := ⟨(xG_of (i := 15) (by decide +kernel) rfl), (xG_of (i := 16) (by decide +kernel) rfl), (xG_of (i := 5) (by decide +kernel) rfl), ⟨by decide +kernel, by decide +kernel, by decide +kernel⟩, rfl⟩
theorem kj_X3_init : xYi yX3_init cX3_init 2 0 := ⟨(xG_of (i := 23) (by decide +kernel) rfl), (xG_of (i := 24) (by decide +kernel) rfl), (xG_of (i := 6) (by decide +kernel) rfl), ⟨by decide +kernel, by decide +kernel, by decide +kernel⟩, rfl⟩
theorem kj_X2_init : xYi yX2_init cX2_init 1 0 := ⟨(xG_of (i := 30) (by decide +kernel) rfl), (xG_of (i := 31) (by decide +kernel) rfl), (xG_of (i := 7) (by decide +kernel) rfl), ⟨by decide +kernel, by decide +kernel, by decide +kernel⟩, rfl⟩
theorem kj_X1_init : xYi yX1_init cX1_init 2 0 := ⟨(xG_of (i := 80) (by decide +kernel) rfl), (xG_of (i := 81) (by decide +kernel) rfl), (xG_of (i := 8) (by decide +kernel) rfl), ⟨by decide +kernel, by decide +kernel, by decide +kernel⟩, rfl⟩
theorem kj_X0_init : xYi yX0_init cX0_init 1 0 := ⟨(xG_of (i := 99) (by decide +kernel) rfl), (xG_of (i := 100) (by decide +kernel) rfl), (xG_of (i := 9) (by decide +kernel) rfl), ⟨by decide +kernel, by decide +kernel, by decide +kernel⟩, rfl⟩
theorem kv_X4_come : xYv yX4_come cX4_come 2 (some .int) 0 4 (RX4, TX4, 4) := ⟨(xG_of (i := 123) (by decide +kernel) rfl), (xG_of (i := 124) (by decide +kernel) rfl), (xG_of (i := 125) (by decide +kernel) rfl), (xG_of (i := 5) (by decide +kernel) rfl), ⟨by decide +kernel, by decide +kernel, by decide +kernel⟩, rfl, rfl⟩
theorem kv_X3_lowestFree : xYv yX3_lowestFree cX3_lowestFree 2 (some .int) 0 3 (RX3, TX3, 8) := ⟨(xG_of (i := 127) (by decide +kernel) rfl), (xG_of (i := 128) (by decide +kernel) rfl), (xG_of (i := 129) (by decide +kernel) rfl), (xG_of (i := 6) (by decide +kernel) rfl), ⟨by decide +kernel, by decide +kernel, by decide +kernel⟩, rfl, rfl⟩
theorem kv_X1_keep : xYv yX1_keep cX1_keep 2 none 1 1 (RX1, TX1, 3) := ⟨(xG_of (i := 131) (by decide +kernel) rfl), (xG_of (i := 132) (by decide +kernel) rfl), (xG_of (i := 133) (by decide +kernel) rfl), (xG_of (i := 8) (by decide +kernel) rfl), ⟨by decide +kernel, by decide +kernel, by decide +kernel⟩, rfl, rfl⟩
theorem ks_X4_isBelow : xYs yX4_isBelow cX4_isBelow 2 (some .boolean) 2 := ⟨(xG_of (i := 135) (by decide +kernel) rfl), (xG_of (i := 136) (by decide +kernel) rfl), (xG_of (i := 5) (by decide +kernel) rfl), ⟨by decide +kernel, by decide +kernel, by decide +kernel⟩⟩
theorem kv_X3_copyFrom : xYv yX3_copyFrom cX3_copyFrom 3 none 1 3 (RX3, TX3, 8) := ⟨(xG_of (i := 138) (by decide +kernel) rfl), (xG_of (i := 139) (by decide +kernel) rfl), (xG_of (i := 140) (by decide +kernel) rfl), (xG_of (i := 6) (by decide +kernel) rfl), ⟨by decide +kernel, by decide +kernel, by decide +kernel⟩, rfl, rfl⟩
theorem kv_X2_copyFrom : xYv yX2_copyFrom cX2_copyFrom 2 none 1 2 (RX2, TX2, 4) := ⟨(xG_of (i := 142) (by decide +kernel) rfl), (xG_of (i := 143) (by decide +kernel) rfl), (xG_of (i := 144) (by decide +kernel) rfl), (xG_of (i := 7) (by decide +kernel) rfl), ⟨by decide +kernel, by decide +kernel, by decide +kernel⟩, rfl, rfl⟩
theorem kv_X3_welcome : xYv yX3_welcome cX3_welcome 2 none 1 3 (RX3, TX3, 8) := ⟨(xG_of (i := 153) (by decide +kernel) rfl), (xG_of (i := 154) (by decide +kernel) rfl), (xG_of (i := 155) (by decide +kernel) rfl), (xG_of (i := 6) (by decide +kernel) rfl), ⟨by decide +kernel, by decide +kernel, by decide +kernel⟩, rfl, rfl⟩
theorem kv_X2_arrive : xYv yX2_arrive cX2_arrive 1 none 0 2 (RX2, TX2, 4) := ⟨(xG_of (i := 158) (by decide +kernel) rfl), (xG_of (i := 159) (by decide +kernel) rfl), (xG_of (i := 160) (by decide +kernel) rfl), (xG_of (i := 7) (by decide +kernel) rfl), ⟨by decide +kernel, by decide +kernel, by decide +kernel⟩, rfl, rfl⟩
theorem kv_X2_beginLife : xYv yX2_beginLife cX2_beginLife 6 none 2 2 (RX2, TX2, 4) := ⟨(xG_of (i := 162) (by decide +kernel) rfl), (xG_of (i := 163) (by decide +kernel) rfl), (xG_of (i := 164) (by decide +kernel) rfl), (xG_of (i := 7) (by decide +kernel) rfl), ⟨by decide +kernel, by decide +kernel, by decide +kernel⟩, rfl, rfl⟩
theorem kv_X2_weightOf : xYv yX2_weightOf cX2_weightOf 3 (some .int) 2 2 (RX2, TX2, 4) := ⟨(xG_of (i := 166) (by decide +kernel) rfl), (xG_of (i := 167) (by decide +kernel) rfl), (xG_of (i := 168) (by decide +kernel) rfl), (xG_of (i := 7) (by decide +kernel) rfl), ⟨by decide +kernel, by decide +kernel, by decide +kernel⟩, rfl, rfl⟩
theorem ks_X4_isMeaning : xYs yX4_isMeaning cX4_isMeaning 1 (some .boolean) 1 := ⟨(xG_of (i := 170) (by decide +kernel) rfl), (xG_of (i := 171) (by decide +kernel) rfl), (xG_of (i := 5) (by decide +kernel) rfl), ⟨by decide +kernel, by decide +kernel, by decide +kernel⟩⟩
theorem ks_X4_isWord : xYs yX4_isWord cX4_isWord 1 (some .boolean) 1 := ⟨(xG_of (i := 173) (by decide +kernel) rfl), (xG_of (i := 174) (by decide +kernel) rfl), (xG_of (i := 5) (by decide +kernel) rfl), ⟨by decide +kernel, by decide +kernel, by decide +kernel⟩⟩
theorem kv_X2_putWeight : xYv yX2_putWeight cX2_putWeight 4 none 3 2 (RX2, TX2, 4) := ⟨(xG_of (i := 176) (by decide +kernel) rfl), (xG_of (i := 177) (by decide +kernel) rfl), (xG_of (i := 178) (by decide +kernel) rfl), (xG_of (i := 7) (by decide +kernel) rfl), ⟨by decide +kernel, by decide +kernel, by decide +kernel⟩, rfl, rfl⟩
theorem kv_X4_go : xYv yX4_go cX4_go 3 (some .int) 1 4 (RX4, TX4, 4) := ⟨(xG_of (i := 184) (by decide +kernel) rfl), (xG_of (i := 185) (by decide +kernel) rfl), (xG_of (i := 186) (by decide +kernel) rfl), (xG_of (i := 5) (by decide +kernel) rfl), ⟨by decide +kernel, by decide +kernel, by decide +kernel⟩, rfl, rfl⟩
theorem kv_X3_find : xYv yX3_find cX3_find 2 (some (.object "GesturePidgin$Speaker")) 1 3 (RX3, TX3, 8) := ⟨(xG_of (i := 188) (by decide +kernel) rfl), (xG_of (i := 189) (by decide +kernel) rfl), (xG_of (i := 190) (by decide +kernel) rfl), (xG_of (i := 6) (by decide +kernel) rfl), ⟨by decide +kernel, by decide +kernel, by decide +kernel⟩, rfl, rfl⟩
theorem kv_X2_leave : xYv yX2_leave cX2_leave 1 none 0 2 (RX2, TX2, 4) := ⟨(xG_of (i := 192) (by decide +kernel) rfl), (xG_of (i := 193) (by decide +kernel) rfl), (xG_of (i := 194) (by decide +kernel) rfl), (xG_of (i := 7) (by decide +kernel) rfl), ⟨by decide +kernel, by decide +kernel, by decide +kernel⟩, rfl, rfl⟩
theorem kv_X3_countSpeakers : xYv yX3_countSpeakers cX3_countSpeakers 3 (some .int) 0 3 (RX3, TX3, 8) := ⟨(xG_of (i := 196) (by decide +kernel) rfl), (xG_of (i := 197) (by decide +kernel) rfl), (xG_of (i := 198) (by decide +kernel) rfl), (xG_of (i := 6) (by decide +kernel) rfl), ⟨by decide +kernel, by decide +kernel, by decide +kernel⟩, rfl, rfl⟩
theorem kv_X4_set : xYv yX4_set cX4_set 4 (some .int) 2 4 (RX4, TX4, 4) := ⟨(xG_of (i := 200) (by decide +kernel) rfl), (xG_of (i := 201) (by decide +kernel) rfl), (xG_of (i := 202) (by decide +kernel) rfl), (xG_of (i := 5) (by decide +kernel) rfl), ⟨by decide +kernel, by decide +kernel, by decide +kernel⟩, rfl, rfl⟩
theorem ks_X4_leastOf : xYs yX4_leastOf cX4_leastOf 1 (some .int) 1 := ⟨(xG_of (i := 205) (by decide +kernel) rfl), (xG_of (i := 206) (by decide +kernel) rfl), (xG_of (i := 5) (by decide +kernel) rfl), ⟨by decide +kernel, by decide +kernel, by decide +kernel⟩⟩
theorem ks_X4_mostOf : xYs yX4_mostOf cX4_mostOf 1 (some .int) 1 := ⟨(xG_of (i := 208) (by decide +kernel) rfl), (xG_of (i := 209) (by decide +kernel) rfl), (xG_of (i := 5) (by decide +kernel) rfl), ⟨by decide +kernel, by decide +kernel, by decide +kernel⟩⟩
theorem kv_X3_settingAt : xYv yX3_settingAt cX3_settingAt 2 (some .int) 1 3 (RX3, TX3, 8) := ⟨(xG_of (i := 211) (by decide +kernel) rfl), (xG_of (i := 212) (by decide +kernel) rfl), (xG_of (i := 213) (by decide +kernel) rfl), (xG_of (i := 6) (by decide +kernel) rfl), ⟨by decide +kernel, by decide +kernel, by decide +kernel⟩, rfl, rfl⟩
theorem kv_X3_putSetting : xYv yX3_putSetting cX3_putSetting 3 none 2 3 (RX3, TX3, 8) := ⟨(xG_of (i := 215) (by decide +kernel) rfl), (xG_of (i := 216) (by decide +kernel) rfl), (xG_of (i := 217) (by decide +kernel) rfl), (xG_of (i := 6) (by decide +kernel) rfl), ⟨by decide +kernel, by decide +kernel, by decide +kernel⟩, rfl, rfl⟩
theorem kv_X4_setSeed : xYv yX4_setSeed cX4_setSeed 3 (some .int) 1 4 (RX4, TX4, 4) := ⟨(xG_of (i := 219) (by decide +kernel) rfl), (xG_of (i := 220) (by decide +kernel) rfl), (xG_of (i := 221) (by decide +kernel) rfl), (xG_of (i := 5) (by decide +kernel) rfl), ⟨by decide +kernel, by decide +kernel, by decide +kernel⟩, rfl, rfl⟩
theorem kv_X4_teach : xYv yX4_teach cX4_teach 7 (some .int) 4 4 (RX4, TX4, 4) := ⟨(xG_of (i := 224) (by decide +kernel) rfl), (xG_of (i := 225) (by decide +kernel) rfl), (xG_of (i := 226) (by decide +kernel) rfl), (xG_of (i := 5) (by decide +kernel) rfl), ⟨by decide +kernel, by decide +kernel, by decide +kernel⟩, rfl, rfl⟩
theorem kv_X4_setAge : xYv yX4_setAge cX4_setAge 5 (some .int) 2 4 (RX4, TX4, 4) := ⟨(xG_of (i := 232) (by decide +kernel) rfl), (xG_of (i := 233) (by decide +kernel) rfl), (xG_of (i := 234) (by decide +kernel) rfl), (xG_of (i := 5) (by decide +kernel) rfl), ⟨by decide +kernel, by decide +kernel, by decide +kernel⟩, rfl, rfl⟩
theorem kv_X4_meet : xYv yX4_meet cX4_meet 6 (some .int) 3 4 (RX4, TX4, 4) := ⟨(xG_of (i := 236) (by decide +kernel) rfl), (xG_of (i := 237) (by decide +kernel) rfl), (xG_of (i := 238) (by decide +kernel) rfl), (xG_of (i := 5) (by decide +kernel) rfl), ⟨by decide +kernel, by decide +kernel, by decide +kernel⟩, rfl, rfl⟩
theorem kv_X3_holdMeeting : xYv yX3_holdMeeting cX3_holdMeeting 7 (some .int) 3 3 (RX3, TX3, 8) := ⟨(xG_of (i := 240) (by decide +kernel) rfl), (xG_of (i := 241) (by decide +kernel) rfl), (xG_of (i := 242) (by decide +kernel) rfl), (xG_of (i := 6) (by decide +kernel) rfl), ⟨by decide +kernel, by decide +kernel, by decide +kernel⟩, rfl, rfl⟩
theorem kv_X2_wordFor : xYv yX2_wordFor cX2_wordFor 6 (some .int) 1 2 (RX2, TX2, 4) := ⟨(xG_of (i := 244) (by decide +kernel) rfl), (xG_of (i := 245) (by decide +kernel) rfl), (xG_of (i := 246) (by decide +kernel) rfl), (xG_of (i := 7) (by decide +kernel) rfl), ⟨by decide +kernel, by decide +kernel, by decide +kernel⟩, rfl, rfl⟩
theorem kv_X3_draw : xYv yX3_draw cX3_draw 2 (some .int) 1 3 (RX3, TX3, 8) := ⟨(xG_of (i := 248) (by decide +kernel) rfl), (xG_of (i := 249) (by decide +kernel) rfl), (xG_of (i := 250) (by decide +kernel) rfl), (xG_of (i := 6) (by decide +kernel) rfl), ⟨by decide +kernel, by decide +kernel, by decide +kernel⟩, rfl, rfl⟩
theorem kv_X2_meaningOf : xYv yX2_meaningOf cX2_meaningOf 6 (some .int) 1 2 (RX2, TX2, 4) := ⟨(xG_of (i := 253) (by decide +kernel) rfl), (xG_of (i := 254) (by decide +kernel) rfl), (xG_of (i := 255) (by decide +kernel) rfl), (xG_of (i := 7) (by decide +kernel) rfl), ⟨by decide +kernel, by decide +kernel, by decide +kernel⟩, rfl, rfl⟩
theorem kv_X2_prefer : xYv yX2_prefer cX2_prefer 6 none 4 2 (RX2, TX2, 4) := ⟨(xG_of (i := 257) (by decide +kernel) rfl), (xG_of (i := 258) (by decide +kernel) rfl), (xG_of (i := 259) (by decide +kernel) rfl), (xG_of (i := 7) (by decide +kernel) rfl), ⟨by decide +kernel, by decide +kernel, by decide +kernel⟩, rfl, rfl⟩
theorem kv_X2_learnsWith : xYv yX2_learnsWith cX2_learnsWith 2 (some .int) 1 2 (RX2, TX2, 4) := ⟨(xG_of (i := 261) (by decide +kernel) rfl), (xG_of (i := 262) (by decide +kernel) rfl), (xG_of (i := 263) (by decide +kernel) rfl), (xG_of (i := 7) (by decide +kernel) rfl), ⟨by decide +kernel, by decide +kernel, by decide +kernel⟩, rfl, rfl⟩
theorem kv_X2_changeWeight : xYv yX2_changeWeight cX2_changeWeight 4 none 3 2 (RX2, TX2, 4) := ⟨(xG_of (i := 265) (by decide +kernel) rfl), (xG_of (i := 266) (by decide +kernel) rfl), (xG_of (i := 267) (by decide +kernel) rfl), (xG_of (i := 7) (by decide +kernel) rfl), ⟨by decide +kernel, by decide +kernel, by decide +kernel⟩, rfl, rfl⟩
theorem kv_X2_forgetOtherMeanings : xYv yX2_forgetOtherMeanings cX2_forgetOtherMeanings 5 none 3 2 (RX2, TX2, 4) := ⟨(xG_of (i := 269) (by decide +kernel) rfl), (xG_of (i := 270) (by decide +kernel) rfl), (xG_of (i := 271) (by decide +kernel) rfl), (xG_of (i := 7) (by decide +kernel) rfl), ⟨by decide +kernel, by decide +kernel, by decide +kernel⟩, rfl, rfl⟩
theorem kv_X4_age : xYv yX4_age cX4_age 2 (some .int) 1 4 (RX4, TX4, 4) := ⟨(xG_of (i := 274) (by decide +kernel) rfl), (xG_of (i := 275) (by decide +kernel) rfl), (xG_of (i := 276) (by decide +kernel) rfl), (xG_of (i := 5) (by decide +kernel) rfl), ⟨by decide +kernel, by decide +kernel, by decide +kernel⟩, rfl, rfl⟩
theorem kv_X3_passYears : xYv yX3_passYears cX3_passYears 4 (some .int) 1 3 (RX3, TX3, 8) := ⟨(xG_of (i := 278) (by decide +kernel) rfl), (xG_of (i := 279) (by decide +kernel) rfl), (xG_of (i := 280) (by decide +kernel) rfl), (xG_of (i := 6) (by decide +kernel) rfl), ⟨by decide +kernel, by decide +kernel, by decide +kernel⟩, rfl, rfl⟩
theorem kv_X3_passYear : xYv yX3_passYear cX3_passYear 3 none 0 3 (RX3, TX3, 8) := ⟨(xG_of (i := 283) (by decide +kernel) rfl), (xG_of (i := 0) (by decide +kernel) rfl), (xG_of (i := 284) (by decide +kernel) rfl), (xG_of (i := 6) (by decide +kernel) rfl), ⟨by decide +kernel, by decide +kernel, by decide +kernel⟩, rfl, rfl⟩
theorem kv_X3_teacherFor : xYv yX3_teacherFor cX3_teacherFor 5 (some (.object "GesturePidgin$Speaker")) 1 3 (RX3, TX3, 8) := ⟨(xG_of (i := 287) (by decide +kernel) rfl), (xG_of (i := 1) (by decide +kernel) rfl), (xG_of (i := 288) (by decide +kernel) rfl), (xG_of (i := 6) (by decide +kernel) rfl), ⟨by decide +kernel, by decide +kernel, by decide +kernel⟩, rfl, rfl⟩
theorem kv_X4_agreement : xYv yX4_agreement cX4_agreement 6 (some .int) 3 4 (RX4, TX4, 4) := ⟨(xG_of (i := 291) (by decide +kernel) rfl), (xG_of (i := 292) (by decide +kernel) rfl), (xG_of (i := 293) (by decide +kernel) rfl), (xG_of (i := 5) (by decide +kernel) rfl), ⟨by decide +kernel, by decide +kernel, by decide +kernel⟩, rfl, rfl⟩
theorem ks_X4_agreementByMeanings : xYs yX4_agreementByMeanings cX4_agreementByMeanings 5 (some .int) 2 := ⟨(xG_of (i := 295) (by decide +kernel) rfl), (xG_of (i := 296) (by decide +kernel) rfl), (xG_of (i := 5) (by decide +kernel) rfl), ⟨by decide +kernel, by decide +kernel, by decide +kernel⟩⟩
theorem ks_X4_agreementByWords : xYs yX4_agreementByWords cX4_agreementByWords 5 (some .int) 2 := ⟨(xG_of (i := 299) (by decide +kernel) rfl), (xG_of (i := 300) (by decide +kernel) rfl), (xG_of (i := 5) (by decide +kernel) rfl), ⟨by decide +kernel, by decide +kernel, by decide +kernel⟩⟩
theorem kv_X4_ifMet : xYv yX4_ifMet cX4_ifMet 8 (some .int) 4 4 (RX4, TX4, 4) := ⟨(xG_of (i := 302) (by decide +kernel) rfl), (xG_of (i := 303) (by decide +kernel) rfl), (xG_of (i := 304) (by decide +kernel) rfl), (xG_of (i := 5) (by decide +kernel) rfl), ⟨by decide +kernel, by decide +kernel, by decide +kernel⟩, rfl, rfl⟩
theorem ks_L_cell : xYs yL_cell cL_cell 2 (some .int) 2 := ⟨(xG_of (i := 307) (by decide +kernel) rfl), (xG_of (i := 308) (by decide +kernel) rfl), (xG_of (i := 4) (by decide +kernel) rfl), ⟨by decide +kernel, by decide +kernel, by decide +kernel⟩⟩
theorem ks_L_low : xYs yL_low cL_low 2 (some .int) 2 := ⟨(xG_of (i := 312) (by decide +kernel) rfl), (xG_of (i := 313) (by decide +kernel) rfl), (xG_of (i := 4) (by decide +kernel) rfl), ⟨by decide +kernel, by decide +kernel, by decide +kernel⟩⟩
theorem ks_L_row : xYs yL_row cL_row 5 (some (.array .int)) 5 := ⟨(xG_of (i := 316) (by decide +kernel) rfl), (xG_of (i := 317) (by decide +kernel) rfl), (xG_of (i := 4) (by decide +kernel) rfl), ⟨by decide +kernel, by decide +kernel, by decide +kernel⟩⟩
theorem ks_L_word : xYs yL_word cL_word 4 (some .int) 2 := ⟨(xG_of (i := 319) (by decide +kernel) rfl), (xG_of (i := 320) (by decide +kernel) rfl), (xG_of (i := 4) (by decide +kernel) rfl), ⟨by decide +kernel, by decide +kernel, by decide +kernel⟩⟩
theorem ks_L_meet : xYs yL_meet cL_meet 9 (some .int) 6 := ⟨(xG_of (i := 322) (by decide +kernel) rfl), (xG_of (i := 323) (by decide +kernel) rfl), (xG_of (i := 4) (by decide +kernel) rfl), ⟨by decide +kernel, by decide +kernel, by decide +kernel⟩⟩
theorem ks_L_heard : xYs yL_heard cL_heard 4 (some .int) 2 := ⟨(xG_of (i := 325) (by decide +kernel) rfl), (xG_of (i := 326) (by decide +kernel) rfl), (xG_of (i := 4) (by decide +kernel) rfl), ⟨by decide +kernel, by decide +kernel, by decide +kernel⟩⟩
theorem ks_L_draw : xYs yL_draw cL_draw 2 (some .int) 2 := ⟨(xG_of (i := 328) (by decide +kernel) rfl), (xG_of (i := 329) (by decide +kernel) rfl), (xG_of (i := 4) (by decide +kernel) rfl), ⟨by decide +kernel, by decide +kernel, by decide +kernel⟩⟩
theorem ks_L_learns : xYs yL_learns cL_learns 3 (some .int) 2 := ⟨(xG_of (i := 334) (by decide +kernel) rfl), (xG_of (i := 335) (by decide +kernel) rfl), (xG_of (i := 4) (by decide +kernel) rfl), ⟨by decide +kernel, by decide +kernel, by decide +kernel⟩⟩
theorem ks_L_add : xYs yL_add cL_add 5 none 4 := ⟨(xG_of (i := 337) (by decide +kernel) rfl), (xG_of (i := 338) (by decide +kernel) rfl), (xG_of (i := 4) (by decide +kernel) rfl), ⟨by decide +kernel, by decide +kernel, by decide +kernel⟩⟩
set_option maxRecDepth 100000 in
theorem ks_L_same : xYs yL_same cL_same 21 (some .boolean) 6 := ⟨(xG_of (i := 340) (by decide +kernel) rfl), (xG_of (i := 341) rfl rfl), (xG_of (i := 4) (by decide +kernel) rfl), ⟨by decide +kernel, by decide +kernel, by decide +kernel⟩⟩
theorem kv_X4_speaker : xYv yX4_speaker cX4_speaker 4 (some .int) 2 4 (RX4, TX4, 4) := ⟨(xG_of (i := 343) (by decide +kernel) rfl), (xG_of (i := 344) (by decide +kernel) rfl), (xG_of (i := 345) (by decide +kernel) rfl), (xG_of (i := 5) (by decide +kernel) rfl), ⟨by decide +kernel, by decide +kernel, by decide +kernel⟩, rfl, rfl⟩
theorem kv_X3_numberOfSpeaker : xYv yX3_numberOfSpeaker cX3_numberOfSpeaker 3 (some .int) 2 3 (RX3, TX3, 8) := ⟨(xG_of (i := 347) (by decide +kernel) rfl), (xG_of (i := 348) (by decide +kernel) rfl), (xG_of (i := 349) (by decide +kernel) rfl), (xG_of (i := 6) (by decide +kernel) rfl), ⟨by decide +kernel, by decide +kernel, by decide +kernel⟩, rfl, rfl⟩
theorem kv_X2_countWords : xYv yX2_countWords cX2_countWords 3 (some .int) 0 2 (RX2, TX2, 4) := ⟨(xG_of (i := 352) (by decide +kernel) rfl), (xG_of (i := 353) (by decide +kernel) rfl), (xG_of (i := 354) (by decide +kernel) rfl), (xG_of (i := 7) (by decide +kernel) rfl), ⟨by decide +kernel, by decide +kernel, by decide +kernel⟩, rfl, rfl⟩
theorem kv_X2_countConfusions : xYv yX2_countConfusions cX2_countConfusions 5 (some .int) 0 2 (RX2, TX2, 4) := ⟨(xG_of (i := 357) (by decide +kernel) rfl), (xG_of (i := 358) (by decide +kernel) rfl), (xG_of (i := 359) (by decide +kernel) rfl), (xG_of (i := 7) (by decide +kernel) rfl), ⟨by decide +kernel, by decide +kernel, by decide +kernel⟩, rfl, rfl⟩
theorem kv_X4_wordOf : xYv yX4_wordOf cX4_wordOf 4 (some .int) 2 4 (RX4, TX4, 4) := ⟨(xG_of (i := 361) (by decide +kernel) rfl), (xG_of (i := 362) (by decide +kernel) rfl), (xG_of (i := 363) (by decide +kernel) rfl), (xG_of (i := 5) (by decide +kernel) rfl), ⟨by decide +kernel, by decide +kernel, by decide +kernel⟩, rfl, rfl⟩
theorem kv_X4_weight : xYv yX4_weight cX4_weight 5 (some .int) 3 4 (RX4, TX4, 4) := ⟨(xG_of (i := 365) (by decide +kernel) rfl), (xG_of (i := 366) (by decide +kernel) rfl), (xG_of (i := 367) (by decide +kernel) rfl), (xG_of (i := 5) (by decide +kernel) rfl), ⟨by decide +kernel, by decide +kernel, by decide +kernel⟩, rfl, rfl⟩
theorem kv_X4_hears : xYv yX4_hears cX4_hears 4 (some .int) 2 4 (RX4, TX4, 4) := ⟨(xG_of (i := 369) (by decide +kernel) rfl), (xG_of (i := 370) (by decide +kernel) rfl), (xG_of (i := 371) (by decide +kernel) rfl), (xG_of (i := 5) (by decide +kernel) rfl), ⟨by decide +kernel, by decide +kernel, by decide +kernel⟩, rfl, rfl⟩
theorem kv_X4_understanding : xYv yX4_understanding cX4_understanding 5 (some .int) 2 4 (RX4, TX4, 4) := ⟨(xG_of (i := 374) (by decide +kernel) rfl), (xG_of (i := 375) (by decide +kernel) rfl), (xG_of (i := 376) (by decide +kernel) rfl), (xG_of (i := 5) (by decide +kernel) rfl), ⟨by decide +kernel, by decide +kernel, by decide +kernel⟩, rfl, rfl⟩
theorem ks_X4_understandingOf : xYs yX4_understandingOf cX4_understandingOf 5 (some .int) 2 := ⟨(xG_of (i := 378) (by decide +kernel) rfl), (xG_of (i := 379) (by decide +kernel) rfl), (xG_of (i := 5) (by decide +kernel) rfl), ⟨by decide +kernel, by decide +kernel, by decide +kernel⟩⟩
theorem kv_X4_bestSayer : xYv yX4_bestSayer cX4_bestSayer 8 (some .int) 1 4 (RX4, TX4, 4) := ⟨(xG_of (i := 381) (by decide +kernel) rfl), (xG_of (i := 382) (by decide +kernel) rfl), (xG_of (i := 383) (by decide +kernel) rfl), (xG_of (i := 5) (by decide +kernel) rfl), ⟨by decide +kernel, by decide +kernel, by decide +kernel⟩, rfl, rfl⟩
theorem kv_X4_common : xYv yX4_common cX4_common 2 (some .int) 1 4 (RX4, TX4, 4) := ⟨(xG_of (i := 385) (by decide +kernel) rfl), (xG_of (i := 386) (by decide +kernel) rfl), (xG_of (i := 387) (by decide +kernel) rfl), (xG_of (i := 5) (by decide +kernel) rfl), ⟨by decide +kernel, by decide +kernel, by decide +kernel⟩, rfl, rfl⟩
theorem kv_X3_commonWord : xYv yX3_commonWord cX3_commonWord 5 (some .int) 1 3 (RX3, TX3, 8) := ⟨(xG_of (i := 389) (by decide +kernel) rfl), (xG_of (i := 390) (by decide +kernel) rfl), (xG_of (i := 391) (by decide +kernel) rfl), (xG_of (i := 6) (by decide +kernel) rfl), ⟨by decide +kernel, by decide +kernel, by decide +kernel⟩, rfl, rfl⟩
theorem kv_X3_countUsers : xYv yX3_countUsers cX3_countUsers 4 none 1 3 (RX3, TX3, 8) := ⟨(xG_of (i := 394) (by decide +kernel) rfl), (xG_of (i := 2) (by decide +kernel) rfl), (xG_of (i := 395) (by decide +kernel) rfl), (xG_of (i := 6) (by decide +kernel) rfl), ⟨by decide +kernel, by decide +kernel, by decide +kernel⟩, rfl, rfl⟩
theorem kv_X4_count : xYv yX4_count cX4_count 2 (some .int) 1 4 (RX4, TX4, 4) := ⟨(xG_of (i := 398) (by decide +kernel) rfl), (xG_of (i := 399) (by decide +kernel) rfl), (xG_of (i := 400) (by decide +kernel) rfl), (xG_of (i := 5) (by decide +kernel) rfl), ⟨by decide +kernel, by decide +kernel, by decide +kernel⟩, rfl, rfl⟩
theorem kv_X3_numberOf : xYv yX3_numberOf cX3_numberOf 2 (some .int) 1 3 (RX3, TX3, 8) := ⟨(xG_of (i := 402) (by decide +kernel) rfl), (xG_of (i := 403) (by decide +kernel) rfl), (xG_of (i := 404) (by decide +kernel) rfl), (xG_of (i := 6) (by decide +kernel) rfl), ⟨by decide +kernel, by decide +kernel, by decide +kernel⟩, rfl, rfl⟩
theorem kv_X3_sumOfWeights : xYv yX3_sumOfWeights cX3_sumOfWeights 3 (some .int) 0 3 (RX3, TX3, 8) := ⟨(xG_of (i := 408) (by decide +kernel) rfl), (xG_of (i := 3) (by decide +kernel) rfl), (xG_of (i := 409) (by decide +kernel) rfl), (xG_of (i := 6) (by decide +kernel) rfl), ⟨by decide +kernel, by decide +kernel, by decide +kernel⟩, rfl, rfl⟩
theorem kv_X2_sumOfWeights : xYv yX2_sumOfWeights cX2_sumOfWeights 6 (some .int) 0 2 (RX2, TX2, 4) := ⟨(xG_of (i := 411) (by decide +kernel) rfl), (xG_of (i := 412) (by decide +kernel) rfl), (xG_of (i := 413) (by decide +kernel) rfl), (xG_of (i := 7) (by decide +kernel) rfl), ⟨by decide +kernel, by decide +kernel, by decide +kernel⟩, rfl, rfl⟩
theorem kv_X4_setting : xYv yX4_setting cX4_setting 2 (some .int) 1 4 (RX4, TX4, 4) := ⟨(xG_of (i := 415) (by decide +kernel) rfl), (xG_of (i := 416) (by decide +kernel) rfl), (xG_of (i := 417) (by decide +kernel) rfl), (xG_of (i := 5) (by decide +kernel) rfl), ⟨by decide +kernel, by decide +kernel, by decide +kernel⟩, rfl, rfl⟩
theorem kcl_L_40 : Cond.classLink RL 40 RX4 ∈ xG := (xG_of (i := 12) (by decide +kernel) rfl)
theorem kl_L_74 : Cond.methodLink RL 74 yX4_init ∈ xG := (xG_of (i := 14) (by decide +kernel) rfl)
theorem kl_X4_1 : Cond.methodLink RX4 1 objectInit ∈ xG := (xG_of (i := 17) (by decide +kernel) rfl)
theorem kcl_X4_7 : Cond.classLink RX4 7 RX3 ∈ xG := (xG_of (i := 20) (by decide +kernel) rfl)
theorem kl_X4_9 : Cond.methodLink RX4 9 yX3_init ∈ xG := (xG_of (i := 22) (by decide +kernel) rfl)
theorem kl_X3_3 : Cond.methodLink RX3 3 objectInit ∈ xG := (xG_of (i := 25) (by decide +kernel) rfl)
theorem kcl_X3_9 : Cond.classLink RX3 9 RX2 ∈ xG := (xG_of (i := 26) (by decide +kernel) rfl)
theorem ka_X2 : Cond.arrayOver (.object RX2) ∈ xGN := (xGN_of (i := 27) (by decide +kernel) rfl)
theorem kl_X3_17 : Cond.methodLink RX3 17 yX2_init ∈ xG := (xG_of (i := 29) (by decide +kernel) rfl)
theorem kl_X2_3 : Cond.methodLink RX2 3 objectInit ∈ xG := (xG_of (i := 32) (by decide +kernel) rfl)
theorem ka_int : Cond.arrayClass .int ∈ xG := (xG_of (i := 50) (by decide +kernel) rfl)
theorem kcl_X4_19 : Cond.classLink RX4 19 RX1 ∈ xG := (xG_of (i := 77) (by decide +kernel) rfl)
theorem kl_X4_21 : Cond.methodLink RX4 21 yX1_init ∈ xG := (xG_of (i := 79) (by decide +kernel) rfl)
theorem kl_X1_3 : Cond.methodLink RX1 3 objectInit ∈ xG := (xG_of (i := 82) (by decide +kernel) rfl)
theorem kcl_X1_9 : Cond.classLink RX1 9 RX3 ∈ xG := (xG_of (i := 83) (by decide +kernel) rfl)
theorem ka_X3 : Cond.arrayOver (.object RX3) ∈ xGN := (xGN_of (i := 84) (by decide +kernel) rfl)
theorem kl_X1_17 : Cond.methodLink RX1 17 yX3_init ∈ xG := (xG_of (i := 85) (by decide +kernel) rfl)
theorem kcl_X4_26 : Cond.classLink RX4 26 RX0 ∈ xG := (xG_of (i := 96) (by decide +kernel) rfl)
theorem kl_X4_28 : Cond.methodLink RX4 28 yX0_init ∈ xG := (xG_of (i := 98) (by decide +kernel) rfl)
theorem kl_X0_3 : Cond.methodLink RX0 3 objectInit ∈ xG := (xG_of (i := 101) (by decide +kernel) rfl)
theorem ka_char : Cond.arrayClass .char ∈ xG := (xG_of (i := 108) (by decide +kernel) rfl)
theorem kl_L_82 : xLk RL 82 yX4_come := Or.inl (xG_of (i := 122) (by decide +kernel) rfl)
theorem kl_X4_33 : xLk RX4 33 yX3_lowestFree := Or.inl (xG_of (i := 126) (by decide +kernel) rfl)
theorem kl_X4_37 : xLk RX4 37 yX1_keep := Or.inl (xG_of (i := 130) (by decide +kernel) rfl)
theorem kl_X1_22 : xLk RX1 22 yX4_isBelow := Or.inr ⟨"GesturePidgin", (xGN_of (i := 134) (by decide +kernel) rfl)⟩
theorem kl_X1_26 : xLk RX1 26 yX3_copyFrom := Or.inl (xG_of (i := 137) (by decide +kernel) rfl)
theorem kl_X3_29 : xLk RX3 29 yX2_copyFrom := Or.inl (xG_of (i := 141) (by decide +kernel) rfl)
theorem kl_X2_15 : Cond.methodLink RX2 15 arraycopyName ∈ xG := (xG_of (i := 145) (by decide +kernel) rfl)
theorem kl_X3_33 : Cond.methodLink RX3 33 arraycopyName ∈ xG := (xG_of (i := 148) (by decide +kernel) rfl)
theorem kl_X1_33 : Cond.methodLink RX1 33 Lib.Math.min.name ∈ xG := (xG_of (i := 149) (by decide +kernel) rfl)
theorem kl_X4_41 : xLk RX4 41 yX3_welcome := Or.inl (xG_of (i := 152) (by decide +kernel) rfl)
theorem kl_X3_51 : xLk RX3 51 yX4_isBelow := Or.inr ⟨"GesturePidgin", (xGN_of (i := 156) (by decide +kernel) rfl)⟩
theorem kl_X3_59 : xLk RX3 59 yX2_arrive := Or.inl (xG_of (i := 157) (by decide +kernel) rfl)
theorem kl_X2_32 : xLk RX2 32 yX2_beginLife := Or.inl (xG_of (i := 161) (by decide +kernel) rfl)
theorem kl_X2_36 : xLk RX2 36 yX2_weightOf := Or.inl (xG_of (i := 165) (by decide +kernel) rfl)
theorem kl_X2_44 : xLk RX2 44 yX4_isMeaning := Or.inr ⟨"GesturePidgin", (xGN_of (i := 169) (by decide +kernel) rfl)⟩
theorem kl_X2_48 : xLk RX2 48 yX4_isWord := Or.inr ⟨"GesturePidgin", (xGN_of (i := 172) (by decide +kernel) rfl)⟩
theorem kl_X2_40 : xLk RX2 40 yX2_putWeight := Or.inl (xG_of (i := 175) (by decide +kernel) rfl)
theorem kl_X2_51 : Cond.methodLink RX2 51 Lib.Math.min.name ∈ xG := (xG_of (i := 179) (by decide +kernel) rfl)
theorem kl_X2_56 : Cond.methodLink RX2 56 Lib.Math.max.name ∈ xG := (xG_of (i := 180) (by decide +kernel) rfl)
theorem kl_L_86 : xLk RL 86 yX4_go := Or.inl (xG_of (i := 183) (by decide +kernel) rfl)
theorem kl_X4_45 : xLk RX4 45 yX3_find := Or.inl (xG_of (i := 187) (by decide +kernel) rfl)
theorem kl_X4_49 : xLk RX4 49 yX2_leave := Or.inl (xG_of (i := 191) (by decide +kernel) rfl)
theorem kl_X4_54 : xLk RX4 54 yX3_countSpeakers := Or.inl (xG_of (i := 195) (by decide +kernel) rfl)
theorem kl_L_89 : xLk RL 89 yX4_set := Or.inl (xG_of (i := 199) (by decide +kernel) rfl)
theorem kl_X4_57 : xLk RX4 57 yX4_isBelow := Or.inl (xG_of (i := 203) (by decide +kernel) rfl)
theorem kl_X4_61 : xLk RX4 61 yX4_leastOf := Or.inl (xG_of (i := 204) (by decide +kernel) rfl)
theorem kl_X4_65 : xLk RX4 65 yX4_mostOf := Or.inl (xG_of (i := 207) (by decide +kernel) rfl)
theorem kl_X4_68 : xLk RX4 68 yX3_settingAt := Or.inl (xG_of (i := 210) (by decide +kernel) rfl)
theorem kl_X4_71 : xLk RX4 71 yX3_putSetting := Or.inl (xG_of (i := 214) (by decide +kernel) rfl)
theorem kl_L_93 : xLk RL 93 yX4_setSeed := Or.inl (xG_of (i := 218) (by decide +kernel) rfl)
theorem kk_X4_75 : Cond.constant RX4 75 (65535) ∈ xG := (xG_of (i := 222) (by decide +kernel) rfl)
theorem kl_L_99 : xLk RL 99 yX4_teach := Or.inl (xG_of (i := 223) (by decide +kernel) rfl)
theorem kl_X4_80 : xLk RX4 80 yX4_isMeaning := Or.inl (xG_of (i := 227) (by decide +kernel) rfl)
theorem kl_X4_84 : xLk RX4 84 yX4_isWord := Or.inl (xG_of (i := 228) (by decide +kernel) rfl)
theorem kl_X4_87 : xLk RX4 87 yX2_weightOf := Or.inl (xG_of (i := 229) (by decide +kernel) rfl)
theorem kl_X4_91 : xLk RX4 91 yX2_putWeight := Or.inl (xG_of (i := 230) (by decide +kernel) rfl)
theorem kl_L_96 : xLk RL 96 yX4_setAge := Or.inl (xG_of (i := 231) (by decide +kernel) rfl)
theorem kl_L_110 : xLk RL 110 yX4_meet := Or.inl (xG_of (i := 235) (by decide +kernel) rfl)
theorem kl_X4_98 : xLk RX4 98 yX3_holdMeeting := Or.inl (xG_of (i := 239) (by decide +kernel) rfl)
theorem kl_X3_63 : xLk RX3 63 yX2_wordFor := Or.inl (xG_of (i := 243) (by decide +kernel) rfl)
theorem kl_X3_67 : xLk RX3 67 yX3_draw := Or.inl (xG_of (i := 247) (by decide +kernel) rfl)
theorem kk_X3_62 : Cond.constant RX3 62 (65536) ∈ xG := (xG_of (i := 251) (by decide +kernel) rfl)
theorem kl_X3_70 : xLk RX3 70 yX2_meaningOf := Or.inl (xG_of (i := 252) (by decide +kernel) rfl)
theorem kl_X3_74 : xLk RX3 74 yX2_prefer := Or.inl (xG_of (i := 256) (by decide +kernel) rfl)
theorem kl_X2_59 : xLk RX2 59 yX2_learnsWith := Or.inl (xG_of (i := 260) (by decide +kernel) rfl)
theorem kl_X2_63 : xLk RX2 63 yX2_changeWeight := Or.inl (xG_of (i := 264) (by decide +kernel) rfl)
theorem kl_X3_78 : xLk RX3 78 yX2_forgetOtherMeanings := Or.inl (xG_of (i := 268) (by decide +kernel) rfl)
theorem kl_X3_82 : xLk RX3 82 yX2_changeWeight := Or.inl (xG_of (i := 272) (by decide +kernel) rfl)
theorem kl_L_112 : xLk RL 112 yX4_age := Or.inl (xG_of (i := 273) (by decide +kernel) rfl)
theorem kl_X4_108 : xLk RX4 108 yX3_passYears := Or.inl (xG_of (i := 277) (by decide +kernel) rfl)
theorem kl_X3_101 : xLk RX3 101 yX3_passYear := Or.inl (xG_of (i := 281) (by decide +kernel) rfl)
theorem kl_X3_105 : xLk RX3 105 yX3_teacherFor := Or.inl (xG_of (i := 285) (by decide +kernel) rfl)
theorem kl_X3_108 : xLk RX3 108 yX2_beginLife := Or.inl (xG_of (i := 289) (by decide +kernel) rfl)
theorem kl_L_55 : xLk RL 55 yX4_agreement := Or.inl (xG_of (i := 290) (by decide +kernel) rfl)
theorem kl_X4_130 : xLk RX4 130 yX4_agreementByMeanings := Or.inl (xG_of (i := 294) (by decide +kernel) rfl)
theorem kl_X4_118 : xLk RX4 118 yX2_wordFor := Or.inl (xG_of (i := 297) (by decide +kernel) rfl)
theorem kl_X4_134 : xLk RX4 134 yX4_agreementByWords := Or.inl (xG_of (i := 298) (by decide +kernel) rfl)
theorem kl_L_103 : xLk RL 103 yX4_ifMet := Or.inl (xG_of (i := 301) (by decide +kernel) rfl)
theorem kl_X4_143 : xLk RX4 143 yX3_copyFrom := Or.inl (xG_of (i := 305) (by decide +kernel) rfl)
theorem kl_L_75 : xLk RL 75 yL_cell := Or.inl (xG_of (i := 306) (by decide +kernel) rfl)
theorem kk_L_7 : Cond.constant RL 7 (1000308051) ∈ xG := (xG_of (i := 309) (by decide +kernel) rfl)
theorem kk_L_8 : Cond.constant RL 8 (751363239) ∈ xG := (xG_of (i := 310) (by decide +kernel) rfl)
theorem kl_L_79 : xLk RL 79 yL_low := Or.inl (xG_of (i := 311) (by decide +kernel) rfl)
theorem kk_L_9 : Cond.constant RL 9 (2147483647) ∈ xG := (xG_of (i := 314) (by decide +kernel) rfl)
theorem kl_L_35 : xLk RL 35 yL_row := Or.inl (xG_of (i := 315) (by decide +kernel) rfl)
theorem kl_L_16 : xLk RL 16 yL_word := Or.inl (xG_of (i := 318) (by decide +kernel) rfl)
theorem kl_L_106 : xLk RL 106 yL_meet := Or.inl (xG_of (i := 321) (by decide +kernel) rfl)
theorem kl_L_22 : xLk RL 22 yL_heard := Or.inl (xG_of (i := 324) (by decide +kernel) rfl)
theorem kl_L_25 : xLk RL 25 yL_draw := Or.inl (xG_of (i := 327) (by decide +kernel) rfl)
theorem kk_L_10 : Cond.constantLong RL 10 (25173) ∈ xG := (xG_of (i := 330) (by decide +kernel) rfl)
theorem kk_L_12 : Cond.constantLong RL 12 (13849) ∈ xG := (xG_of (i := 331) (by decide +kernel) rfl)
theorem kk_L_14 : Cond.constantLong RL 14 (65535) ∈ xG := (xG_of (i := 332) (by decide +kernel) rfl)
theorem kl_L_28 : xLk RL 28 yL_learns := Or.inl (xG_of (i := 333) (by decide +kernel) rfl)
theorem kl_L_31 : xLk RL 31 yL_add := Or.inl (xG_of (i := 336) (by decide +kernel) rfl)
theorem kl_L_115 : xLk RL 115 yL_same := Or.inl (xG_of (i := 339) (by decide +kernel) rfl)
theorem kl_L_39 : xLk RL 39 yX4_speaker := Or.inl (xG_of (i := 342) (by decide +kernel) rfl)
theorem kl_X4_114 : xLk RX4 114 yX3_numberOfSpeaker := Or.inl (xG_of (i := 346) (by decide +kernel) rfl)
theorem kl_X3_115 : xLk RX3 115 yX2_learnsWith := Or.inl (xG_of (i := 350) (by decide +kernel) rfl)
theorem kl_X3_118 : xLk RX3 118 yX2_countWords := Or.inl (xG_of (i := 351) (by decide +kernel) rfl)
theorem kl_X2_66 : xLk RX2 66 yX2_wordFor := Or.inl (xG_of (i := 355) (by decide +kernel) rfl)
theorem kl_X3_121 : xLk RX3 121 yX2_countConfusions := Or.inl (xG_of (i := 356) (by decide +kernel) rfl)
theorem kl_L_45 : xLk RL 45 yX4_wordOf := Or.inl (xG_of (i := 360) (by decide +kernel) rfl)
theorem kl_L_48 : xLk RL 48 yX4_weight := Or.inl (xG_of (i := 364) (by decide +kernel) rfl)
theorem kl_L_52 : xLk RL 52 yX4_hears := Or.inl (xG_of (i := 368) (by decide +kernel) rfl)
theorem kl_X4_121 : xLk RX4 121 yX2_meaningOf := Or.inl (xG_of (i := 372) (by decide +kernel) rfl)
theorem kl_L_58 : xLk RL 58 yX4_understanding := Or.inl (xG_of (i := 373) (by decide +kernel) rfl)
theorem kl_X4_137 : xLk RX4 137 yX4_understandingOf := Or.inl (xG_of (i := 377) (by decide +kernel) rfl)
theorem kl_L_61 : xLk RL 61 yX4_bestSayer := Or.inl (xG_of (i := 380) (by decide +kernel) rfl)
theorem kl_L_65 : xLk RL 65 yX4_common := Or.inl (xG_of (i := 384) (by decide +kernel) rfl)
theorem kl_X4_140 : xLk RX4 140 yX3_commonWord := Or.inl (xG_of (i := 388) (by decide +kernel) rfl)
theorem kl_X3_125 : xLk RX3 125 yX3_countUsers := Or.inl (xG_of (i := 392) (by decide +kernel) rfl)
theorem kl_X3_129 : xLk RX3 129 yX4_isWord := Or.inr ⟨"GesturePidgin", (xGN_of (i := 396) (by decide +kernel) rfl)⟩
theorem kl_L_68 : xLk RL 68 yX4_count := Or.inl (xG_of (i := 397) (by decide +kernel) rfl)
theorem kl_X4_111 : xLk RX4 111 yX3_numberOf := Or.inl (xG_of (i := 401) (by decide +kernel) rfl)
theorem kl_X3_85 : xLk RX3 85 yX3_countSpeakers := Or.inl (xG_of (i := 405) (by decide +kernel) rfl)
theorem kl_X3_112 : xLk RX3 112 yX3_sumOfWeights := Or.inl (xG_of (i := 406) (by decide +kernel) rfl)
theorem kl_X3_124 : xLk RX3 124 yX2_sumOfWeights := Or.inl (xG_of (i := 410) (by decide +kernel) rfl)
theorem kl_L_71 : xLk RL 71 yX4_setting := Or.inl (xG_of (i := 414) (by decide +kernel) rfl)
theorem kk_L_92 : Cond.constant RL 92 (65536) ∈ xG := (xG_of (i := 418) (by decide +kernel) rfl)
theorem ki_sys : Cond.initialized "java/lang/System" ∈ xG := (xG_of (i := 10) (by decide +kernel) rfl)
theorem ki_math : Cond.initialized "java/lang/Math" ∈ xG := (xG_of (i := 11) (by decide +kernel) rfl)
theorem kz_native : Cond.native arraycopyName ∈ xG := (xG_of (i := 147) (by decide +kernel) rfl)
theorem kz_static : Cond.static arraycopyName ∈ xG := (xG_of (i := 146) (by decide +kernel) rfl)
theorem kz_smax : Cond.static Lib.Math.max.name ∈ xG := (xG_of (i := 181) (by decide +kernel) rfl)
theorem kz_cmax : Cond.code Lib.Math.max.name Lib.Math.max.code 2 (some .int) ∈ xG := (xG_of (i := 182) (by decide +kernel) rfl)
theorem kz_smin : Cond.static Lib.Math.min.name ∈ xG := (xG_of (i := 150) (by decide +kernel) rfl)
theorem kz_cmin : Cond.code Lib.Math.min.name Lib.Math.min.code 2 (some .int) ∈ xG := (xG_of (i := 151) (by decide +kernel) rfl)
theorem kz_oi : Cond.instanceMethod objectInit ∈ xG := (xG_of (i := 18) (by decide +kernel) rfl)
theorem kz_oc : Cond.code objectInit ⟨#[0xb1]⟩ 1 none ∈ xG := (xG_of (i := 19) (by decide +kernel) rfl)
end
section
/-! THE WORLDS. A village at b: 20 cells; the class's object at B: 165 cells; the model's object at M: 5 cells. A village's numbers V: rows 0..7 weights of a speaker, 8 settings, 9 seed, meetings, successes, children, years; 10 there, 11 age, 12 meetings of a speaker; 13 users. -/
abbrev Vs : Type := Nat → Nat → Int32
abbrev Fn : Type := Nat → Int32
def up2 (V : Vs) (r j : Nat) (x : Int32) : Vs := fun p q => if p = r ∧ q = j then x else V p q
def xfl (c : Int32) : Int32 := if c = 1 then 1 else 0
def xb (p : Prop) [Decidable p] : Int32 := if p then 1 else 0
def vfs (b : Nat) (V : Vs) : List Value := [.ref (b + 1), .ref (b + 18), .ref (b + 19), .int (V 9 0), .int (V 9 1), .int (V 9 2), .int (V 9 3), .int (V 9 4)]
def sfs (b : Nat) (V : Vs) (k : Nat) : List Value := [.ref (b + 3 + 2 * k), .int (xfl (V 10 k)), .int (V 11 k), .int (V 12 k)]
def vcell (E : xEnv) (b : Nat) (V : Vs) (o : Nat) : va_E :=
  if o = 0 then .inr (3, vfs b V)
  else if o = 1 then .inl (xSp E, 8, .inr (.inr (.inr (.inr (fun k => some (b + 2 + 2 * k))))))
  else if o = 18 then .inl (xI E, 4, .inl (V 8))
  else if o = 19 then .inl (xI E, 14, .inl (V 13))
  else if o % 2 = 0 then .inr (2, sfs b V ((o - 2) / 2))
  else .inl (xI E, 84, .inl (V ((o - 3) / 2)))
def vput (E : xEnv) (σ : Sg) (b : Nat) (V : Vs) : Sg := fun a => if b ≤ a ∧ a < b + 20 then some (vcell E b V (a - b)) else σ a
section WV
variable {E : xEnv} {σ : Sg} {b k : Nat} {V : Vs}
theorem vput_in {a : Nat} (h1 : b ≤ a) (h2 : a < b + 20) : vput E σ b V a = some (vcell E b V (a - b)) := if_pos ⟨h1, h2⟩
theorem vput_out {a : Nat} (h : a < b ∨ b + 20 ≤ a) : vput E σ b V a = σ a := if_neg (by omega)
theorem vput_0 : vput E σ b V b = some (.inr (3, vfs b V)) := by rw [vput_in (Nat.le_refl _) (by omega), Nat.sub_self]; rfl
theorem vput_1 : vput E σ b V (b + 1) = some (.inl (xSp E, 8, .inr (.inr (.inr (.inr (fun k => some (b + 2 + 2 * k))))))) := by rw [vput_in (by omega) (by omega), Nat.add_sub_cancel_left]; rfl
theorem vput_18 : vput E σ b V (b + 18) = some (.inl (xI E, 4, .inl (V 8))) := by rw [vput_in (by omega) (by omega), Nat.add_sub_cancel_left]; rfl
theorem vput_19 : vput E σ b V (b + 19) = some (.inl (xI E, 14, .inl (V 13))) := by rw [vput_in (by omega) (by omega), Nat.add_sub_cancel_left]; rfl
theorem vcell_s (hk : k < 8) : vcell E b V (2 + 2 * k) = .inr (2, sfs b V k) := by
  unfold vcell
  rw [if_neg (by omega), if_neg (by omega), if_neg (by omega), if_neg (by omega), if_pos (by omega), show (2 + 2 * k - 2) / 2 = k by omega]
theorem vcell_w (hk : k < 8) : vcell E b V (3 + 2 * k) = .inl (xI E, 84, .inl (V k)) := by
  unfold vcell
  rw [if_neg (by omega), if_neg (by omega), if_neg (by omega), if_neg (by omega), if_neg (by omega), show (3 + 2 * k - 3) / 2 = k by omega]
theorem vput_s (hk : k < 8) : vput E σ b V (b + 2 + 2 * k) = some (.inr (2, sfs b V k)) := by
  rw [vput_in (by omega) (by omega), show b + 2 + 2 * k - b = 2 + 2 * k by omega, vcell_s hk]
theorem vput_w (hk : k < 8) : vput E σ b V (b + 3 + 2 * k) = some (.inl (xI E, 84, .inl (V k))) := by
  rw [vput_in (by omega) (by omega), show b + 3 + 2 * k - b = 3 + 2 * k by omega, vcell_w hk]
/-- every cell of a village, by its place -/
theorem vcases {P : Nat → Prop} (h0 : P 0) (h1 : P 1) (h18 : P 18) (h19 : P 19) (hs : ∀ k, k < 8 → P (2 + 2 * k)) (hw : ∀ k, k < 8 → P (3 + 2 * k)) : ∀ o, o < 20 → P o := by
  intro o ho
  by_cases e0 : o = 0
  · exact e0 ▸ h0
  by_cases e1 : o = 1
  · exact e1 ▸ h1
  by_cases e2 : o = 18
  · exact e2 ▸ h18
  by_cases e3 : o = 19
  · exact e3 ▸ h19
  by_cases e4 : o % 2 = 0
  · have h := hs ((o - 2) / 2) (by omega)
    rw [show 2 + 2 * ((o - 2) / 2) = o by omega] at h
    exact h
  · have h := hw ((o - 3) / 2) (by omega)
    rw [show 3 + 2 * ((o - 3) / 2) = o by omega] at h
    exact h
/-- one cell of a village is another one: the village's numbers are others -/
theorem vput_up {V2 : Vs} {o : Nat} {e : va_E} (ho : o < 20) (he : e = vcell E b V2 o) (hr : ∀ o2, o2 < 20 → o2 ≠ o → vcell E b V o2 = vcell E b V2 o2) : xup (vput E σ b V) (b + o) e = vput E σ b V2 := by
  funext a
  by_cases ha : a = b + o
  · subst ha
    rw [xup_s, vput_in (by omega) (by omega), Nat.add_sub_cancel_left, he]
  · rw [xup_n ha]
    by_cases hb : b ≤ a ∧ a < b + 20
    · rw [vput_in hb.1 hb.2, vput_in hb.1 hb.2, hr (a - b) (by omega) (by omega)]
    · rw [vput_out (by omega), vput_out (by omega)]
theorem vcell_cong {V2 : Vs} (h0 : vfs b V = vfs b V2) (h8 : V 8 = V2 8) (h13 : V 13 = V2 13) (hs : ∀ k, k < 8 → sfs b V k = sfs b V2 k) (hw : ∀ k, k < 8 → V k = V2 k) : ∀ o, o < 20 → vcell E b V o = vcell E b V2 o :=
  vcases (by show (Sum.inr _ : va_E) = Sum.inr _; rw [h0]) rfl (by show (Sum.inl _ : va_E) = Sum.inl _; rw [h8]) (by show (Sum.inl _ : va_E) = Sum.inl _; rw [h13]) (fun k hk => by rw [vcell_s hk, vcell_s hk, hs k hk]) (fun k hk => by rw [vcell_w hk, vcell_w hk, hw k hk])
end WV
theorem up2_s {V : Vs} {r j : Nat} {x : Int32} : up2 V r j x r j = x := by simp [up2]
theorem up2_n {V : Vs} {r j p q : Nat} {x : Int32} (h : ¬ (p = r ∧ q = j)) : up2 V r j x p q = V p q := by simp [up2, h]
theorem up2_r {V : Vs} {r j p : Nat} {x : Int32} (h : p ≠ r) : up2 V r j x p = V p := by funext q; simp [up2, h]
theorem up2_u {V : Vs} {r j : Nat} {x : Int32} : up2 V r j x r = upd (V r) j x := by funext q; simp [up2, upd]
theorem xfl_1 : xfl 1 = 1 := by decide
theorem xfl_0 : xfl 0 = 0 := by decide
theorem xfl_x (c : Int32) : xfl (xfl c) = xfl c := by unfold xfl; split <;> decide
theorem xfl_e (c : Int32) : xfl c = 0 ↔ ¬ c = 1 := by
  unfold xfl
  split
  · rename_i h; simp [h]
  · rename_i h; simp [h]
theorem xfl_nar (c : Int32) : narrow .boolean (.int (xfl c)) = .int (xfl c) := by unfold xfl; split <;> rfl
theorem xfl_fit (c : Int32) : fits .boolean (.int (xfl c)) = true := by unfold xfl; split <;> rfl
section WV2
variable {E : xEnv} {σ : Sg} {b k : Nat} {V V2 : Vs}
theorem sfs_cong (h1 : xfl (V 10 k) = xfl (V2 10 k)) (h2 : V 11 k = V2 11 k) (h3 : V 12 k = V2 12 k) : sfs b V k = sfs b V2 k := by unfold sfs; rw [h1, h2, h3]
theorem vput_r9 (h : ∀ r, r ≠ 9 → V2 r = V r) : xup (vput E σ b V) b (.inr (3, vfs b V2)) = vput E σ b V2 := by
  have h1 := vput_up (E := E) (σ := σ) (b := b) (V := V) (V2 := V2) (o := 0) (e := .inr (3, vfs b V2)) (by omega) rfl (vcases (P := fun o => o ≠ 0 → vcell E b V o = vcell E b V2 o) (fun z => absurd rfl z) (fun _ => rfl)
    (fun _ => by show (Sum.inl _ : va_E) = Sum.inl _; rw [h 8 (by omega)]) (fun _ => by show (Sum.inl _ : va_E) = Sum.inl _; rw [h 13 (by omega)])
    (fun k hk _ => by rw [vcell_s hk, vcell_s hk, sfs_cong (V2 := V2) (by rw [h 10 (by omega)]) (by rw [h 11 (by omega)]) (by rw [h 12 (by omega)])]) (fun k hk _ => by rw [vcell_w hk, vcell_w hk, h k (by omega)]))
  exact h1
theorem vfs_cong (h : V2 9 = V 9) : vfs b V = vfs b V2 := by unfold vfs; rw [h]
theorem vput_rs (hk : k < 8) (h : ∀ r, r ≠ 10 → r ≠ 11 → r ≠ 12 → V2 r = V r) (hj : ∀ r j, j ≠ k → V2 r j = V r j) : xup (vput E σ b V) (b + 2 + 2 * k) (.inr (2, sfs b V2 k)) = vput E σ b V2 := by
  have h1 := vput_up (E := E) (σ := σ) (b := b) (V := V) (V2 := V2) (o := 2 + 2 * k) (e := .inr (2, sfs b V2 k)) (by omega) (vcell_s hk).symm (vcases (P := fun o => o ≠ 2 + 2 * k → vcell E b V o = vcell E b V2 o) (fun _ => by show (Sum.inr _ : va_E) = Sum.inr _; rw [vfs_cong (V2 := V2) (h 9 (by omega) (by omega) (by omega))]) (fun _ => rfl)
    (fun _ => by show (Sum.inl _ : va_E) = Sum.inl _; rw [h 8 (by omega) (by omega) (by omega)]) (fun _ => by show (Sum.inl _ : va_E) = Sum.inl _; rw [h 13 (by omega) (by omega) (by omega)])
    (fun i hi z => by rw [vcell_s hi, vcell_s hi, sfs_cong (V2 := V2) (by rw [hj 10 i (by omega)]) (by rw [hj 11 i (by omega)]) (by rw [hj 12 i (by omega)])]) (fun i hi _ => by rw [vcell_w hi, vcell_w hi, h i (by omega) (by omega) (by omega)]))
  rw [show b + 2 + 2 * k = b + (2 + 2 * k) by omega]
  exact h1
theorem vput_rw (hk : k < 8) (h : ∀ r, r ≠ k → V2 r = V r) : xup (vput E σ b V) (b + 3 + 2 * k) (.inl (xI E, 84, .inl (V2 k))) = vput E σ b V2 := by
  have h1 := vput_up (E := E) (σ := σ) (b := b) (V := V) (V2 := V2) (o := 3 + 2 * k) (e := .inl (xI E, 84, .inl (V2 k))) (by omega) (vcell_w hk).symm (vcases (P := fun o => o ≠ 3 + 2 * k → vcell E b V o = vcell E b V2 o) (fun _ => by show (Sum.inr _ : va_E) = Sum.inr _; rw [vfs_cong (V2 := V2) (h 9 (by omega))]) (fun _ => rfl)
    (fun _ => by show (Sum.inl _ : va_E) = Sum.inl _; rw [h 8 (by omega)]) (fun _ => by show (Sum.inl _ : va_E) = Sum.inl _; rw [h 13 (by omega)])
    (fun i hi z => by rw [vcell_s hi, vcell_s hi, sfs_cong (V2 := V2) (by rw [h 10 (by omega)]) (by rw [h 11 (by omega)]) (by rw [h 12 (by omega)])]) (fun i hi z => by rw [vcell_w hi, vcell_w hi, h i (by omega)]))
  rw [show b + 3 + 2 * k = b + (3 + 2 * k) by omega]
  exact h1
theorem vput_r8 (h : ∀ r, r ≠ 8 → V2 r = V r) : xup (vput E σ b V) (b + 18) (.inl (xI E, 4, .inl (V2 8))) = vput E σ b V2 :=
  vput_up (E := E) (σ := σ) (b := b) (V := V) (V2 := V2) (o := 18) (e := .inl (xI E, 4, .inl (V2 8))) (by omega) rfl (vcases (P := fun o => o ≠ 18 → vcell E b V o = vcell E b V2 o) (fun _ => by show (Sum.inr _ : va_E) = Sum.inr _; rw [vfs_cong (V2 := V2) (h 9 (by omega))]) (fun _ => rfl)
    (fun z => absurd rfl z) (fun _ => by show (Sum.inl _ : va_E) = Sum.inl _; rw [h 13 (by omega)])
    (fun i hi z => by rw [vcell_s hi, vcell_s hi, sfs_cong (V2 := V2) (by rw [h 10 (by omega)]) (by rw [h 11 (by omega)]) (by rw [h 12 (by omega)])]) (fun i hi z => by rw [vcell_w hi, vcell_w hi, h i (by omega)]))
theorem vput_r13 (h : ∀ r, r ≠ 13 → V2 r = V r) : xup (vput E σ b V) (b + 19) (.inl (xI E, 14, .inl (V2 13))) = vput E σ b V2 :=
  vput_up (E := E) (σ := σ) (b := b) (V := V) (V2 := V2) (o := 19) (e := .inl (xI E, 14, .inl (V2 13))) (by omega) rfl (vcases (P := fun o => o ≠ 19 → vcell E b V o = vcell E b V2 o) (fun _ => by show (Sum.inr _ : va_E) = Sum.inr _; rw [vfs_cong (V2 := V2) (h 9 (by omega))]) (fun _ => rfl)
    (fun _ => by show (Sum.inl _ : va_E) = Sum.inl _; rw [h 8 (by omega)]) (fun z => absurd rfl z)
    (fun i hi z => by rw [vcell_s hi, vcell_s hi, sfs_cong (V2 := V2) (by rw [h 10 (by omega)]) (by rw [h 11 (by omega)]) (by rw [h 12 (by omega)])]) (fun i hi z => by rw [vcell_w hi, vcell_w hi, h i (by omega)]))
-- the writes, one by one
theorem vput_v0 (x : Int32) : xup (vput E σ b V) b (.inr (3, (vfs b V).set 3 (.int x))) = vput E σ b (up2 V 9 0 x) := by
  rw [← vput_r9 (V2 := up2 V 9 0 x) (fun r h => up2_r h)]; simp [vfs, up2]
theorem vput_v1 (x : Int32) : xup (vput E σ b V) b (.inr (3, (vfs b V).set 4 (.int x))) = vput E σ b (up2 V 9 1 x) := by
  rw [← vput_r9 (V2 := up2 V 9 1 x) (fun r h => up2_r h)]; simp [vfs, up2]
theorem vput_v2 (x : Int32) : xup (vput E σ b V) b (.inr (3, (vfs b V).set 5 (.int x))) = vput E σ b (up2 V 9 2 x) := by
  rw [← vput_r9 (V2 := up2 V 9 2 x) (fun r h => up2_r h)]; simp [vfs, up2]
theorem vput_v3 (x : Int32) : xup (vput E σ b V) b (.inr (3, (vfs b V).set 6 (.int x))) = vput E σ b (up2 V 9 3 x) := by
  rw [← vput_r9 (V2 := up2 V 9 3 x) (fun r h => up2_r h)]; simp [vfs, up2]
theorem vput_v4 (x : Int32) : xup (vput E σ b V) b (.inr (3, (vfs b V).set 7 (.int x))) = vput E σ b (up2 V 9 4 x) := by
  rw [← vput_r9 (V2 := up2 V 9 4 x) (fun r h => up2_r h)]; simp [vfs, up2]
theorem vput_p (hk : k < 8) (x : Int32) : xup (vput E σ b V) (b + 2 + 2 * k) (.inr (2, (sfs b V k).set 1 (.int (xfl x)))) = vput E σ b (up2 V 10 k x) := by
  rw [← vput_rs (V2 := up2 V 10 k x) hk (fun r h _ _ => up2_r h) (fun r j h => up2_n (fun z => h z.2))]; simp [sfs, up2]
theorem vput_p1 (hk : k < 8) : xup (vput E σ b V) (b + 2 + 2 * k) (.inr (2, (sfs b V k).set 1 (.int 1))) = vput E σ b (up2 V 10 k 1) := vput_p hk 1
theorem vput_p0 (hk : k < 8) : xup (vput E σ b V) (b + 2 + 2 * k) (.inr (2, (sfs b V k).set 1 (.int 0))) = vput E σ b (up2 V 10 k 0) := vput_p hk 0
theorem vput_a (hk : k < 8) (x : Int32) : xup (vput E σ b V) (b + 2 + 2 * k) (.inr (2, (sfs b V k).set 2 (.int x))) = vput E σ b (up2 V 11 k x) := by
  rw [← vput_rs (V2 := up2 V 11 k x) hk (fun r _ h _ => up2_r h) (fun r j h => up2_n (fun z => h z.2))]; simp [sfs, up2]
theorem vput_m (hk : k < 8) (x : Int32) : xup (vput E σ b V) (b + 2 + 2 * k) (.inr (2, (sfs b V k).set 3 (.int x))) = vput E σ b (up2 V 12 k x) := by
  rw [← vput_rs (V2 := up2 V 12 k x) hk (fun r _ _ h => up2_r h) (fun r j h => up2_n (fun z => h z.2))]; simp [sfs, up2]
theorem vput_wt (hk : k < 8) (j : Nat) (x : Int32) : xup (vput E σ b V) (b + 3 + 2 * k) (.inl (xI E, 84, .inl (upd (V k) j x))) = vput E σ b (up2 V k j x) := by
  rw [← vput_rw (V2 := up2 V k j x) hk (fun r h => up2_r h), up2_u]
theorem vput_st (j : Nat) (x : Int32) : xup (vput E σ b V) (b + 18) (.inl (xI E, 4, .inl (upd (V 8) j x))) = vput E σ b (up2 V 8 j x) := by
  rw [← vput_r8 (V2 := up2 V 8 j x) (fun r h => up2_r h), up2_u]
theorem vput_us (j : Nat) (x : Int32) : xup (vput E σ b V) (b + 19) (.inl (xI E, 14, .inl (upd (V 13) j x))) = vput E σ b (up2 V 13 j x) := by
  rw [← vput_r13 (V2 := up2 V 13 j x) (fun r h => up2_r h), up2_u]
theorem vput_vv {W : Vs} : vput E (vput E σ b V) b W = vput E σ b W := by
  funext a
  by_cases hb : b ≤ a ∧ a < b + 20
  · rw [vput_in hb.1 hb.2, vput_in hb.1 hb.2]
  · rw [vput_out (by omega), vput_out (by omega), vput_out (by omega)]
theorem vput_comm {c : Nat} {W : Vs} (h : b + 20 ≤ c ∨ c + 20 ≤ b) : vput E (vput E σ b V) c W = vput E (vput E σ c W) b V := by
  funext a
  by_cases hb : b ≤ a ∧ a < b + 20
  · rw [vput_in (b := b) hb.1 hb.2, vput_out (by omega), vput_in hb.1 hb.2]
  · rw [vput_out (b := b) (by omega)]
    by_cases hc : c ≤ a ∧ a < c + 20
    · rw [vput_in hc.1 hc.2, vput_in hc.1 hc.2]
    · rw [vput_out (by omega), vput_out (by omega), vput_out (by omega)]
end WV2
/-! the class's object -/
def bs (B i : Nat) : Nat := if i < 2 then B + 1 + 20 * i else B + 3 + 20 * i
abbrev Cs : Type := Nat → Vs
def upV (VV : Cs) (i : Nat) (W : Vs) : Cs := fun j => if j = i then W else VV j
theorem upV_s {VV : Cs} {i : Nat} {W : Vs} : upV VV i W i = W := by simp [upV]
theorem upV_n {VV : Cs} {i j : Nat} {W : Vs} (h : j ≠ i) : upV VV i W j = VV j := by simp [upV, h]
theorem upV_e {VV : Cs} {i : Nat} : upV VV i (VV i) = VV := by
  funext j
  by_cases h : j = i
  · subst h; exact upV_s
  · exact upV_n h
theorem upV_u {VV : Cs} {i : Nat} {W X : Vs} : upV (upV VV i W) i X = upV VV i X := by
  funext j
  by_cases h : j = i
  · subst h; rw [upV_s, upV_s]
  · rw [upV_n h, upV_n h, upV_n h]
def ccell (E : xEnv) (B : Nat) (VV : Cs) (nx sz len : Int32) (tx : Fn) (o : Nat) : va_E :=
  if o = 0 then .inr (4, [.ref (B + 1), .ref (B + 21), .ref (B + 41), .ref (B + 163)])
  else if o < 41 then vcell E (B + 1 + 20 * ((o - 1) / 20)) (VV ((o - 1) / 20)) ((o - 1) % 20)
  else if o = 41 then .inr (1, [.ref (B + 42), .int nx, .int sz])
  else if o = 42 then .inl (xVi E, 6, .inr (.inr (.inr (.inr (fun k => some (B + 43 + 20 * k))))))
  else if o < 163 then vcell E (B + 43 + 20 * ((o - 43) / 20)) (VV (2 + (o - 43) / 20)) ((o - 43) % 20)
  else if o = 163 then .inr (0, [.ref (B + 164), .int len])
  else .inl (xCh E, 80, .inl tx)
def cput (E : xEnv) (σ : Sg) (B : Nat) (VV : Cs) (nx sz len : Int32) (tx : Fn) : Sg := fun a => if B ≤ a ∧ a < B + 165 then some (ccell E B VV nx sz len tx (a - B)) else σ a
def tput (E : xEnv) (σ : Sg) (h : Nat) (len : Int32) (tx : Fn) : Sg := fun a => if a = h then some (.inr (0, [.ref (h + 1), .int len])) else if a = h + 1 then some (.inl (xCh E, 80, .inl tx)) else σ a
section WC
variable {E : xEnv} {σ : Sg} {B i : Nat} {VV : Cs} {nx sz len : Int32} {tx : Fn}
theorem cput_in {a : Nat} (h1 : B ≤ a) (h2 : a < B + 165) : cput E σ B VV nx sz len tx a = some (ccell E B VV nx sz len tx (a - B)) := if_pos ⟨h1, h2⟩
theorem cput_out {a : Nat} (h : a < B ∨ B + 165 ≤ a) : cput E σ B VV nx sz len tx a = σ a := if_neg (by omega)
theorem cput_0 : cput E σ B VV nx sz len tx B = some (.inr (4, [.ref (B + 1), .ref (B + 21), .ref (B + 41), .ref (B + 163)])) := by rw [cput_in (by omega) (by omega), Nat.sub_self]; rfl
theorem cput_41 : cput E σ B VV nx sz len tx (B + 41) = some (.inr (1, [.ref (B + 42), .int nx, .int sz])) := by rw [cput_in (by omega) (by omega), Nat.add_sub_cancel_left]; rfl
theorem cput_42 : cput E σ B VV nx sz len tx (B + 42) = some (.inl (xVi E, 6, .inr (.inr (.inr (.inr (fun k => some (B + 43 + 20 * k))))))) := by rw [cput_in (by omega) (by omega), Nat.add_sub_cancel_left]; rfl
theorem cput_163 : cput E σ B VV nx sz len tx (B + 163) = some (.inr (0, [.ref (B + 164), .int len])) := by rw [cput_in (by omega) (by omega), Nat.add_sub_cancel_left]; rfl
theorem cput_164 : cput E σ B VV nx sz len tx (B + 164) = some (.inl (xCh E, 80, .inl tx)) := by rw [cput_in (by omega) (by omega), Nat.add_sub_cancel_left]; rfl
theorem bs_in (hi : i < 8) : B ≤ bs B i ∧ bs B i + 20 ≤ B + 165 := by unfold bs; split <;> omega
theorem ccell_v (hi : i < 8) {o : Nat} (ho : o < 20) : ccell E B VV nx sz len tx (bs B i + o - B) = vcell E (bs B i) (VV i) o := by
  unfold ccell bs
  by_cases h : i < 2
  · rw [if_pos h]
    have e : B + 1 + 20 * i + o - B = 1 + 20 * i + o := by omega
    rw [e, if_neg (by omega), if_pos (by omega), show (1 + 20 * i + o - 1) / 20 = i by omega, show (1 + 20 * i + o - 1) % 20 = o by omega]
  · rw [if_neg h]
    have e : B + 3 + 20 * i + o - B = 3 + 20 * i + o := by omega
    rw [e, if_neg (by omega), if_neg (by omega), if_neg (by omega), if_neg (by omega), if_pos (by omega), show (3 + 20 * i + o - 43) / 20 = i - 2 by omega, show (3 + 20 * i + o - 43) % 20 = o by omega, show 2 + (i - 2) = i by omega, show B + 43 + 20 * (i - 2) = B + 3 + 20 * i by omega]
theorem cput_vc (hi : i < 8) {o : Nat} (ho : o < 20) : cput E σ B VV nx sz len tx (bs B i + o) = some (vcell E (bs B i) (VV i) o) := by
  have h := bs_in (B := B) hi
  rw [cput_in (by omega) (by omega), ccell_v hi ho]
theorem cput_v (hi : i < 8) : vput E (cput E σ B VV nx sz len tx) (bs B i) (VV i) = cput E σ B VV nx sz len tx := by
  funext a
  by_cases h : bs B i ≤ a ∧ a < bs B i + 20
  · obtain ⟨o, rfl⟩ : ∃ o, a = bs B i + o := ⟨a - bs B i, by omega⟩
    rw [vput_in h.1 h.2, cput_vc hi (by omega), Nat.add_sub_cancel_left]
  · rw [vput_out (by omega)]
theorem ccell_n {W : Vs} {o : Nat} (hi : i < 8) (ho : o < 165) (h : B + o < bs B i ∨ bs B i + 20 ≤ B + o) : ccell E B (upV VV i W) nx sz len tx o = ccell E B VV nx sz len tx o := by
  unfold bs at h
  unfold ccell
  by_cases h0 : o = 0
  · rw [if_pos h0, if_pos h0]
  rw [if_neg h0, if_neg h0]
  by_cases h1 : o < 41
  · rw [if_pos h1, if_pos h1, upV_n (show (o - 1) / 20 ≠ i by split at h <;> omega)]
  rw [if_neg h1, if_neg h1]
  by_cases h2 : o = 41
  · rw [if_pos h2, if_pos h2]
  rw [if_neg h2, if_neg h2]
  by_cases h3 : o = 42
  · rw [if_pos h3, if_pos h3]
  rw [if_neg h3, if_neg h3]
  by_cases h4 : o < 163
  · rw [if_pos h4, if_pos h4, upV_n (show 2 + (o - 43) / 20 ≠ i by split at h <;> omega)]
  rw [if_neg h4, if_neg h4]
theorem cput_w {W : Vs} (hi : i < 8) : vput E (cput E σ B VV nx sz len tx) (bs B i) W = cput E σ B (upV VV i W) nx sz len tx := by
  have hb := bs_in (B := B) hi
  funext a
  by_cases h : bs B i ≤ a ∧ a < bs B i + 20
  · obtain ⟨o, rfl⟩ : ∃ o, a = bs B i + o := ⟨a - bs B i, by omega⟩
    rw [vput_in h.1 h.2, cput_vc hi (by omega), Nat.add_sub_cancel_left, upV_s]
  · rw [vput_out (by omega)]
    by_cases h2 : B ≤ a ∧ a < B + 165
    · rw [cput_in h2.1 h2.2, cput_in h2.1 h2.2, ccell_n hi (by omega) (by omega)]
    · rw [cput_out (by omega), cput_out (by omega)]
theorem tput_0 {h : Nat} : tput E σ h len tx h = some (.inr (0, [.ref (h + 1), .int len])) := if_pos rfl
theorem tput_1 {h : Nat} : tput E σ h len tx (h + 1) = some (.inl (xCh E, 80, .inl tx)) := by
  unfold tput
  rw [if_neg (by omega), if_pos rfl]
theorem tput_out {h a : Nat} (h1 : a ≠ h) (h2 : a ≠ h + 1) : tput E σ h len tx a = σ a := by
  unfold tput
  rw [if_neg h1, if_neg h2]
theorem tput_l {h : Nat} (x : Int32) : xup (tput E σ h len tx) h (.inr (0, ([.ref (h + 1), .int len] : List Value).set 1 (.int x))) = tput E σ h x tx := by
  funext a
  by_cases h1 : a = h
  · subst h1; rw [xup_s, tput_0]; rfl
  · rw [xup_n h1]
    by_cases h2 : a = h + 1
    · subst h2; rw [tput_1, tput_1]
    · rw [tput_out h1 h2, tput_out h1 h2]
theorem tput_c {h : Nat} (g : Fn) : xup (tput E σ h len tx) (h + 1) (.inl (xCh E, 80, .inl g)) = tput E σ h len g := by
  funext a
  by_cases h2 : a = h + 1
  · subst h2; rw [xup_s, tput_1]
  · rw [xup_n h2]
    by_cases h1 : a = h
    · subst h1; rw [tput_0, tput_0]
    · rw [tput_out h1 h2, tput_out h1 h2]
theorem ccell_t {len2 : Int32} {tx2 : Fn} {o : Nat} (h : o < 163) : ccell E B VV nx sz len2 tx2 o = ccell E B VV nx sz len tx o := by
  unfold ccell
  by_cases h0 : o = 0
  · rw [if_pos h0, if_pos h0]
  rw [if_neg h0, if_neg h0]
  by_cases h1 : o < 41
  · rw [if_pos h1, if_pos h1]
  rw [if_neg h1, if_neg h1]
  by_cases h2 : o = 41
  · rw [if_pos h2, if_pos h2]
  rw [if_neg h2, if_neg h2]
  by_cases h3 : o = 42
  · rw [if_pos h3, if_pos h3]
  rw [if_neg h3, if_neg h3, if_pos h, if_pos h]
theorem cput_t {len2 : Int32} {tx2 : Fn} : tput E (cput E σ B VV nx sz len tx) (B + 163) len2 tx2 = cput E σ B VV nx sz len2 tx2 := by
  funext a
  by_cases h1 : a = B + 163
  · subst h1; rw [tput_0, cput_163]
  by_cases h2 : a = B + 163 + 1
  · subst h2; rw [tput_1]; exact cput_164.symm
  rw [tput_out h1 h2]
  by_cases h3 : B ≤ a ∧ a < B + 165
  · rw [cput_in h3.1 h3.2, cput_in h3.1 h3.2, ccell_t (by omega)]
  · rw [cput_out (by omega), cput_out (by omega)]
theorem ccell_s {nx2 sz2 : Int32} {o : Nat} (h : o ≠ 41) : ccell E B VV nx2 sz2 len tx o = ccell E B VV nx sz len tx o := by
  unfold ccell
  by_cases h0 : o = 0
  · rw [if_pos h0, if_pos h0]
  rw [if_neg h0, if_neg h0]
  by_cases h1 : o < 41
  · rw [if_pos h1, if_pos h1]
  rw [if_neg h1, if_neg h1, if_neg h, if_neg h]
theorem cput_s {nx2 sz2 : Int32} : xup (cput E σ B VV nx sz len tx) (B + 41) (.inr (1, [.ref (B + 42), .int nx2, .int sz2])) = cput E σ B VV nx2 sz2 len tx := by
  funext a
  by_cases h1 : a = B + 41
  · subst h1; rw [xup_s, cput_41]
  rw [xup_n h1]
  by_cases h3 : B ≤ a ∧ a < B + 165
  · rw [cput_in h3.1 h3.2, cput_in h3.1 h3.2, ccell_s (by omega)]
  · rw [cput_out (by omega), cput_out (by omega)]
theorem tput_v {h : Nat} {b : Nat} {V : Vs} (hd : b + 20 ≤ h ∨ h + 2 ≤ b) : tput E (vput E σ b V) h len tx = vput E (tput E σ h len tx) b V := by
  funext a
  by_cases h1 : b ≤ a ∧ a < b + 20
  · rw [tput_out (by omega) (by omega), vput_in h1.1 h1.2, vput_in h1.1 h1.2]
  · rw [vput_out (b := b) (by omega)]
    by_cases h2 : a = h
    · subst h2; rw [tput_0, tput_0]
    by_cases h3 : a = h + 1
    · subst h3; rw [tput_1, tput_1]
    rw [tput_out h2 h3, tput_out h2 h3, vput_out (by omega)]
end WC
/-! the model's object -/
def flat (U : Vs) : Fn := fun j => if j < 5 then U 9 j else if j < 9 then U 8 (j - 5) else if j < 33 then (if (j - 9) % 3 = 0 then xfl (U 10 ((j - 9) / 3)) else if (j - 9) % 3 = 1 then U 11 ((j - 9) / 3) else U 12 ((j - 9) / 3)) else U ((j - 33) / 84) ((j - 33) % 84)
def mfs (M : Nat) (sc : Fn) : List Value := [.ref (M + 1), .ref (M + 2), .ref (M + 3), .int (sc 0), .ref (M + 4), .int (sc 1), .int (sc 2), .int (sc 3), .int (sc 4), .int (sc 5), .int (sc 6), .int (sc 7), .int (sc 8)]
def mcell (E : xEnv) (M : Nat) (U : Vs) (kp hi tx sc : Fn) (o : Nat) : va_E :=
  if o = 0 then .inr (5, mfs M sc) else if o = 1 then .inl (xI E, 705, .inl (flat U)) else if o = 2 then .inl (xI E, 705, .inl kp) else if o = 3 then .inl (xI E, 4230, .inl hi) else .inl (xI E, 80, .inl tx)
def mput (E : xEnv) (σ : Sg) (M : Nat) (U : Vs) (kp hi tx sc : Fn) : Sg := fun a => if M ≤ a ∧ a < M + 5 then some (mcell E M U kp hi tx sc (a - M)) else σ a
section WM
variable {E : xEnv} {σ : Sg} {M : Nat} {U : Vs} {kp hi tx sc : Fn}
theorem mput_in {a : Nat} (h1 : M ≤ a) (h2 : a < M + 5) : mput E σ M U kp hi tx sc a = some (mcell E M U kp hi tx sc (a - M)) := if_pos ⟨h1, h2⟩
theorem mput_out {a : Nat} (h : a < M ∨ M + 5 ≤ a) : mput E σ M U kp hi tx sc a = σ a := if_neg (by omega)
theorem mput_0 : mput E σ M U kp hi tx sc M = some (.inr (5, mfs M sc)) := by rw [mput_in (by omega) (by omega), Nat.sub_self]; rfl
theorem mput_1 : mput E σ M U kp hi tx sc (M + 1) = some (.inl (xI E, 705, .inl (flat U))) := by rw [mput_in (by omega) (by omega), Nat.add_sub_cancel_left]; rfl
theorem mput_2 : mput E σ M U kp hi tx sc (M + 2) = some (.inl (xI E, 705, .inl kp)) := by rw [mput_in (by omega) (by omega), Nat.add_sub_cancel_left]; rfl
theorem mput_3 : mput E σ M U kp hi tx sc (M + 3) = some (.inl (xI E, 4230, .inl hi)) := by rw [mput_in (by omega) (by omega), Nat.add_sub_cancel_left]; rfl
theorem mput_4 : mput E σ M U kp hi tx sc (M + 4) = some (.inl (xI E, 80, .inl tx)) := by rw [mput_in (by omega) (by omega), Nat.add_sub_cancel_left]; rfl
theorem mput_up {U2 : Vs} {kp2 hi2 tx2 sc2 : Fn} {o : Nat} {e : va_E} (ho : o < 5) (he : e = mcell E M U2 kp2 hi2 tx2 sc2 o) (hr : ∀ o2, o2 < 5 → o2 ≠ o → mcell E M U kp hi tx sc o2 = mcell E M U2 kp2 hi2 tx2 sc2 o2) : xup (mput E σ M U kp hi tx sc) (M + o) e = mput E σ M U2 kp2 hi2 tx2 sc2 := by
  funext a
  by_cases ha : a = M + o
  · subst ha
    rw [xup_s, mput_in (by omega) (by omega), Nat.add_sub_cancel_left, he]
  · rw [xup_n ha]
    by_cases hb : M ≤ a ∧ a < M + 5
    · rw [mput_in hb.1 hb.2, mput_in hb.1 hb.2, hr (a - M) (by omega) (by omega)]
    · rw [mput_out (by omega), mput_out (by omega)]
theorem m5 {P : Nat → Prop} (h0 : P 0) (h1 : P 1) (h2 : P 2) (h3 : P 3) (h4 : P 4) : ∀ o, o < 5 → P o := fun o ho => by
  match o, ho with
  | 0, _ => exact h0
  | 1, _ => exact h1
  | 2, _ => exact h2
  | 3, _ => exact h3
  | 4, _ => exact h4
theorem mput_st (U2 : Vs) : xup (mput E σ M U kp hi tx sc) (M + 1) (.inl (xI E, 705, .inl (flat U2))) = mput E σ M U2 kp hi tx sc :=
  mput_up (by omega) rfl (m5 (fun _ => rfl) (fun z => absurd rfl z) (fun _ => rfl) (fun _ => rfl) (fun _ => rfl))
theorem mput_kp (g : Fn) : xup (mput E σ M U kp hi tx sc) (M + 2) (.inl (xI E, 705, .inl g)) = mput E σ M U g hi tx sc :=
  mput_up (by omega) rfl (m5 (fun _ => rfl) (fun _ => rfl) (fun z => absurd rfl z) (fun _ => rfl) (fun _ => rfl))
theorem mput_hi (g : Fn) : xup (mput E σ M U kp hi tx sc) (M + 3) (.inl (xI E, 4230, .inl g)) = mput E σ M U kp g tx sc :=
  mput_up (by omega) rfl (m5 (fun _ => rfl) (fun _ => rfl) (fun _ => rfl) (fun z => absurd rfl z) (fun _ => rfl))
theorem mput_tx (g : Fn) : xup (mput E σ M U kp hi tx sc) (M + 4) (.inl (xI E, 80, .inl g)) = mput E σ M U kp hi g sc :=
  mput_up (by omega) rfl (m5 (fun _ => rfl) (fun _ => rfl) (fun _ => rfl) (fun _ => rfl) (fun z => absurd rfl z))
theorem mput_sc (sc2 : Fn) {e : va_E} (he : e = .inr (5, mfs M sc2)) : xup (mput E σ M U kp hi tx sc) M e = mput E σ M U kp hi tx sc2 := by
  subst he
  exact mput_up (o := 0) (by omega) rfl (m5 (fun z => absurd rfl z) (fun _ => rfl) (fun _ => rfl) (fun _ => rfl) (fun _ => rfl))
theorem mfs_0 (x : Int32) : (mfs M sc).set 3 (.int x) = mfs M (upd sc 0 x) := by simp [mfs, upd]
theorem mfs_1 (x : Int32) : (mfs M sc).set 5 (.int x) = mfs M (upd sc 1 x) := by simp [mfs, upd]
theorem mfs_2 (x : Int32) : (mfs M sc).set 6 (.int x) = mfs M (upd sc 2 x) := by simp [mfs, upd]
theorem mfs_3 (x : Int32) : (mfs M sc).set 7 (.int x) = mfs M (upd sc 3 x) := by simp [mfs, upd]
theorem mfs_4 (x : Int32) : (mfs M sc).set 8 (.int x) = mfs M (upd sc 4 x) := by simp [mfs, upd]
theorem mfs_5 (x : Int32) : (mfs M sc).set 9 (.int x) = mfs M (upd sc 5 x) := by simp [mfs, upd]
theorem mfs_6 (x : Int32) : (mfs M sc).set 10 (.int x) = mfs M (upd sc 6 x) := by simp [mfs, upd]
theorem mfs_7 (x : Int32) : (mfs M sc).set 11 (.int x) = mfs M (upd sc 7 x) := by simp [mfs, upd]
theorem mfs_8 (x : Int32) : (mfs M sc).set 12 (.int x) = mfs M (upd sc 8 x) := by simp [mfs, upd]
theorem mput_s0 (x : Int32) : xup (mput E σ M U kp hi tx sc) M (.inr (5, (mfs M sc).set 3 (.int x))) = mput E σ M U kp hi tx (upd sc 0 x) := mput_sc _ (by rw [mfs_0])
theorem mput_s1 (x : Int32) : xup (mput E σ M U kp hi tx sc) M (.inr (5, (mfs M sc).set 5 (.int x))) = mput E σ M U kp hi tx (upd sc 1 x) := mput_sc _ (by rw [mfs_1])
theorem mput_s2 (x : Int32) : xup (mput E σ M U kp hi tx sc) M (.inr (5, (mfs M sc).set 6 (.int x))) = mput E σ M U kp hi tx (upd sc 2 x) := mput_sc _ (by rw [mfs_2])
theorem mput_s3 (x : Int32) : xup (mput E σ M U kp hi tx sc) M (.inr (5, (mfs M sc).set 7 (.int x))) = mput E σ M U kp hi tx (upd sc 3 x) := mput_sc _ (by rw [mfs_3])
theorem mput_s4 (x : Int32) : xup (mput E σ M U kp hi tx sc) M (.inr (5, (mfs M sc).set 8 (.int x))) = mput E σ M U kp hi tx (upd sc 4 x) := mput_sc _ (by rw [mfs_4])
theorem mput_s5 (x : Int32) : xup (mput E σ M U kp hi tx sc) M (.inr (5, (mfs M sc).set 9 (.int x))) = mput E σ M U kp hi tx (upd sc 5 x) := mput_sc _ (by rw [mfs_5])
theorem mput_s6 (x : Int32) : xup (mput E σ M U kp hi tx sc) M (.inr (5, (mfs M sc).set 10 (.int x))) = mput E σ M U kp hi tx (upd sc 6 x) := mput_sc _ (by rw [mfs_6])
theorem mput_s7 (x : Int32) : xup (mput E σ M U kp hi tx sc) M (.inr (5, (mfs M sc).set 11 (.int x))) = mput E σ M U kp hi tx (upd sc 7 x) := mput_sc _ (by rw [mfs_7])
theorem mput_s8 (x : Int32) : xup (mput E σ M U kp hi tx sc) M (.inr (5, (mfs M sc).set 12 (.int x))) = mput E σ M U kp hi tx (upd sc 8 x) := mput_sc _ (by rw [mfs_8])
theorem mput_mm {U2 : Vs} {kp2 hi2 tx2 sc2 : Fn} : mput E (mput E σ M U kp hi tx sc) M U2 kp2 hi2 tx2 sc2 = mput E σ M U2 kp2 hi2 tx2 sc2 := by
  funext a
  by_cases hb : M ≤ a ∧ a < M + 5
  · rw [mput_in hb.1 hb.2, mput_in hb.1 hb.2]
  · rw [mput_out (by omega), mput_out (by omega), mput_out (by omega)]
theorem mput_c {B : Nat} {VV : Cs} {nx sz len : Int32} {tc : Fn} (h : B + 165 ≤ M) : mput E (cput E σ B VV nx sz len tc) M U kp hi tx sc = cput E (mput E σ M U kp hi tx sc) B VV nx sz len tc := by
  funext a
  by_cases hb : M ≤ a ∧ a < M + 5
  · rw [mput_in hb.1 hb.2, cput_out (by omega), mput_in hb.1 hb.2]
  · rw [mput_out (by omega)]
    by_cases hc : B ≤ a ∧ a < B + 165
    · rw [cput_in hc.1 hc.2, cput_in hc.1 hc.2]
    · rw [cput_out (by omega), cput_out (by omega), mput_out (by omega)]
end WM
-- reads and writes of the model's row of numbers
section FL
variable {U : Vs}
theorem fl_9 {j : Nat} (h : j < 5) : flat U j = U 9 j := if_pos h
theorem fl_8 {j : Nat} (h : j < 4) : flat U (5 + j) = U 8 j := by
  unfold flat
  rw [if_neg (by omega), if_pos (by omega), Nat.add_sub_cancel_left]
theorem fl_10 {s : Nat} (h : s < 8) : flat U (9 + 3 * s) = xfl (U 10 s) := by
  unfold flat
  rw [if_neg (by omega), if_neg (by omega), if_pos (by omega), if_pos (by omega), show (9 + 3 * s - 9) / 3 = s by omega]
theorem fl_11 {s : Nat} (h : s < 8) : flat U (9 + 3 * s + 1) = U 11 s := by
  unfold flat
  rw [if_neg (by omega), if_neg (by omega), if_pos (by omega), if_neg (by omega), if_pos (by omega), show (9 + 3 * s + 1 - 9) / 3 = s by omega]
theorem fl_12 {s : Nat} (h : s < 8) : flat U (9 + 3 * s + 2) = U 12 s := by
  unfold flat
  rw [if_neg (by omega), if_neg (by omega), if_pos (by omega), if_neg (by omega), if_neg (by omega), show (9 + 3 * s + 2 - 9) / 3 = s by omega]
theorem fl_w {s j : Nat} (hj : j < 84) : flat U (33 + 84 * s + j) = U s j := by
  unfold flat
  rw [if_neg (by omega), if_neg (by omega), if_neg (by omega), show (33 + 84 * s + j - 33) / 84 = s by omega, show (33 + 84 * s + j - 33) % 84 = j by omega]
/-- every place of the row -/
theorem flcases {P : Nat → Prop} (h9 : ∀ j, j < 5 → P j) (h8 : ∀ j, j < 4 → P (5 + j)) (h10 : ∀ s, s < 8 → P (9 + 3 * s)) (h11 : ∀ s, s < 8 → P (9 + 3 * s + 1)) (h12 : ∀ s, s < 8 → P (9 + 3 * s + 2)) (hw : ∀ s, s < 8 → ∀ j, j < 84 → P (33 + 84 * s + j)) : ∀ i, i < 705 → P i := by
  intro i hi
  by_cases e0 : i < 5
  · exact h9 i e0
  by_cases e1 : i < 9
  · have h := h8 (i - 5) (by omega)
    rw [show 5 + (i - 5) = i by omega] at h
    exact h
  by_cases e2 : i < 33
  · by_cases e3 : (i - 9) % 3 = 0
    · have h := h10 ((i - 9) / 3) (by omega)
      rw [show 9 + 3 * ((i - 9) / 3) = i by omega] at h
      exact h
    · by_cases e4 : (i - 9) % 3 = 1
      · have h := h11 ((i - 9) / 3) (by omega)
        rw [show 9 + 3 * ((i - 9) / 3) + 1 = i by omega] at h
        exact h
      · have h := h12 ((i - 9) / 3) (by omega)
        rw [show 9 + 3 * ((i - 9) / 3) + 2 = i by omega] at h
        exact h
  · have h := hw ((i - 33) / 84) (by omega) ((i - 33) % 84) (by omega)
    rw [show 33 + 84 * ((i - 33) / 84) + (i - 33) % 84 = i by omega] at h
    exact h
theorem flu_9 {q : Nat} (hq : q < 5) (x : Int32) : ∀ j, j < 705 → upd (flat U) q x j = flat (up2 U 9 q x) j := by
  refine flcases (fun j h => ?_) (fun j h => ?_) (fun s h => ?_) (fun s h => ?_) (fun s h => ?_) (fun s h j hj => ?_)
  · rw [fl_9 h]; by_cases e : j = q <;> simp [upd, up2, e, fl_9 h]
  · rw [fl_8 h, up2_r (by omega)]; simp [upd, show 5 + j ≠ q by omega, fl_8 h]
  · rw [fl_10 h, up2_r (by omega)]; simp [upd, show 9 + 3 * s ≠ q by omega, fl_10 h]
  · rw [fl_11 h, up2_r (by omega)]; simp [upd, show 9 + 3 * s + 1 ≠ q by omega, fl_11 h]
  · rw [fl_12 h, up2_r (by omega)]; simp [upd, show 9 + 3 * s + 2 ≠ q by omega, fl_12 h]
  · rw [fl_w hj, up2_r (by omega)]; simp [upd, show 33 + 84 * s + j ≠ q by omega, fl_w hj]
theorem flu_8 {q : Nat} (hq : q < 4) (x : Int32) : ∀ j, j < 705 → upd (flat U) (5 + q) x j = flat (up2 U 8 q x) j := by
  refine flcases (fun j h => ?_) (fun j h => ?_) (fun s h => ?_) (fun s h => ?_) (fun s h => ?_) (fun s h j hj => ?_)
  · rw [fl_9 h, up2_r (by omega)]; simp [upd, show j ≠ 5 + q by omega, fl_9 h]
  · rw [fl_8 h]; by_cases e : j = q <;> simp [upd, up2, e, fl_8 h, fl_8 hq]
  · rw [fl_10 h, up2_r (by omega)]; simp [upd, show 9 + 3 * s ≠ 5 + q by omega, fl_10 h]
  · rw [fl_11 h, up2_r (by omega)]; simp [upd, show 9 + 3 * s + 1 ≠ 5 + q by omega, fl_11 h]
  · rw [fl_12 h, up2_r (by omega)]; simp [upd, show 9 + 3 * s + 2 ≠ 5 + q by omega, fl_12 h]
  · rw [fl_w hj, up2_r (by omega)]; simp [upd, show 33 + 84 * s + j ≠ 5 + q by omega, fl_w hj]
theorem flu_10 {q : Nat} (hq : q < 8) (x y : Int32) (hx : x = xfl y) : ∀ j, j < 705 → upd (flat U) (9 + 3 * q) x j = flat (up2 U 10 q y) j := by
  refine flcases (fun j h => ?_) (fun j h => ?_) (fun s h => ?_) (fun s h => ?_) (fun s h => ?_) (fun s h j hj => ?_)
  · rw [fl_9 h, up2_r (by omega)]; simp [upd, show j ≠ 9 + 3 * q by omega, fl_9 h]
  · rw [fl_8 h, up2_r (by omega)]; simp [upd, show 5 + j ≠ 9 + 3 * q by omega, fl_8 h]
  · rw [fl_10 h]
    by_cases e : s = q
    · subst e; simp [upd, up2, hx]
    · rw [up2_n (fun z => e z.2), pk_un (by omega), fl_10 h]
  · rw [fl_11 h, up2_r (by omega)]; simp [upd, show 9 + 3 * s + 1 ≠ 9 + 3 * q by omega, fl_11 h]
  · rw [fl_12 h, up2_r (by omega)]; simp [upd, show 9 + 3 * s + 2 ≠ 9 + 3 * q by omega, fl_12 h]
  · rw [fl_w hj, up2_r (by omega)]; simp [upd, show 33 + 84 * s + j ≠ 9 + 3 * q by omega, fl_w hj]
theorem flu_11 {q : Nat} (hq : q < 8) (x : Int32) : ∀ j, j < 705 → upd (flat U) (9 + 3 * q + 1) x j = flat (up2 U 11 q x) j := by
  refine flcases (fun j h => ?_) (fun j h => ?_) (fun s h => ?_) (fun s h => ?_) (fun s h => ?_) (fun s h j hj => ?_)
  · rw [fl_9 h, up2_r (by omega)]; simp [upd, show j ≠ 9 + 3 * q + 1 by omega, fl_9 h]
  · rw [fl_8 h, up2_r (by omega)]; simp [upd, show 5 + j ≠ 9 + 3 * q + 1 by omega, fl_8 h]
  · rw [fl_10 h, up2_r (by omega)]; simp [upd, show 9 + 3 * s ≠ 9 + 3 * q + 1 by omega, fl_10 h]
  · rw [fl_11 h]
    by_cases e : s = q
    · subst e; simp [upd, up2]
    · rw [up2_n (fun z => e z.2), pk_un (by omega), fl_11 h]
  · rw [fl_12 h, up2_r (by omega)]; simp [upd, show 9 + 3 * s + 2 ≠ 9 + 3 * q + 1 by omega, fl_12 h]
  · rw [fl_w hj, up2_r (by omega)]; simp [upd, show 33 + 84 * s + j ≠ 9 + 3 * q + 1 by omega, fl_w hj]
theorem flu_12 {q : Nat} (hq : q < 8) (x : Int32) : ∀ j, j < 705 → upd (flat U) (9 + 3 * q + 2) x j = flat (up2 U 12 q x) j := by
  refine flcases (fun j h => ?_) (fun j h => ?_) (fun s h => ?_) (fun s h => ?_) (fun s h => ?_) (fun s h j hj => ?_)
  · rw [fl_9 h, up2_r (by omega)]; simp [upd, show j ≠ 9 + 3 * q + 2 by omega, fl_9 h]
  · rw [fl_8 h, up2_r (by omega)]; simp [upd, show 5 + j ≠ 9 + 3 * q + 2 by omega, fl_8 h]
  · rw [fl_10 h, up2_r (by omega)]; simp [upd, show 9 + 3 * s ≠ 9 + 3 * q + 2 by omega, fl_10 h]
  · rw [fl_11 h, up2_r (by omega), pk_un (by omega), fl_11 h]
  · rw [fl_12 h]
    by_cases e : s = q
    · subst e; simp [upd, up2]
    · rw [up2_n (fun z => e z.2), pk_un (by omega), fl_12 h]
  · rw [fl_w hj, up2_r (by omega)]; simp [upd, show 33 + 84 * s + j ≠ 9 + 3 * q + 2 by omega, fl_w hj]
theorem flu_w {k q : Nat} (hk : k < 8) (hq : q < 84) (x : Int32) : ∀ j, j < 705 → upd (flat U) (33 + 84 * k + q) x j = flat (up2 U k q x) j := by
  refine flcases (fun j h => ?_) (fun j h => ?_) (fun s h => ?_) (fun s h => ?_) (fun s h => ?_) (fun s h j hj => ?_)
  · rw [fl_9 h, up2_r (by omega)]; simp [upd, show j ≠ 33 + 84 * k + q by omega, fl_9 h]
  · rw [fl_8 h, up2_r (by omega)]; simp [upd, show 5 + j ≠ 33 + 84 * k + q by omega, fl_8 h]
  · rw [fl_10 h, up2_r (by omega)]; simp [upd, show 9 + 3 * s ≠ 33 + 84 * k + q by omega, fl_10 h]
  · rw [fl_11 h, up2_r (by omega)]; simp [upd, show 9 + 3 * s + 1 ≠ 33 + 84 * k + q by omega, fl_11 h]
  · rw [fl_12 h, up2_r (by omega)]; simp [upd, show 9 + 3 * s + 2 ≠ 33 + 84 * k + q by omega, fl_12 h]
  · rw [fl_w hj]
    by_cases e : s = k ∧ j = q
    · obtain ⟨rfl, rfl⟩ := e; simp [upd, up2]
    · rw [up2_n e]; simp [upd, show 33 + 84 * s + j ≠ 33 + 84 * k + q by omega, fl_w hj]
end FL
end
section
/-! handier rows, loops -/
theorem nI_inc (n : Nat) : nI n + Int32.ofInt 1 = nI (n + 1) := (nI_succ n).symm
theorem inc1 (x : Int32) : x + Int32.ofInt 1 = x + 1 := rfl
theorem x_for {P : Nat → Prop} (n : Nat) (h0 : P n) (hs : ∀ i, i < n → P (i + 1) → P i) : ∀ i, i ≤ n → P i := by
  intro i hi
  obtain ⟨d, rfl⟩ : ∃ d, n = i + d := ⟨n - i, by omega⟩
  clear hi
  induction d generalizing i with
  | zero => exact h0
  | succ d ih => exact hs i (by omega) (ih (i + 1) (by rw [show i + 1 + d = i + (d + 1) by omega]; exact h0) (fun j hj => hs j (by omega)))
section XH
variable {k : xT} {l : Launch} {E : xEnv} {B : Nat} {cc : ByteArray} {nL : Nat} {ret : Option FieldType} {own mn : String} {fr lo ce sl N a b : Nat} {σ : Sg} {pc : Nat} {lv : List (Option Value)} {st : List Value}
theorem x_iald2 (C : xC k l E B cc nL ret own mn fr lo ce sl) {a0 n q : Nat} {f : Nat → Int32} {i : Int32} (he : σ a0 = some (.inl (xI E, n, .inl f))) (hi : i = nI q) (hq : q < n) (hn : n < 2 ^ 31) (d : decode cc pc = .ok (.iaload, 1))
    (kk : xX k N a b σ (pc + 1) lv (.int (f q) :: st)) : xX k N a b σ pc lv (.int i :: .ref a0 :: st) := by
  subst hi
  refine x_iald C he (vp_in_nI hq hn) d ?_
  rw [nI_clamp (by omega)]
  exact kk
theorem x_cald2 (C : xC k l E B cc nL ret own mn fr lo ce sl) {a0 n q : Nat} {f : Nat → Int32} {i : Int32} (he : σ a0 = some (.inl (xCh E, n, .inl f))) (hi : i = nI q) (hq : q < n) (hn : n < 2 ^ 31) (d : decode cc pc = .ok (.caload, 1))
    (kk : xX k N a b σ (pc + 1) lv (.int (f q) :: st)) : xX k N a b σ pc lv (.int i :: .ref a0 :: st) := by
  subst hi
  refine x_cald C he (vp_in_nI hq hn) d ?_
  rw [nI_clamp (by omega)]
  exact kk
theorem x_aald2 (C : xC k l E B cc nL ret own mn fr lo ce sl) {a0 n q t0 : Nat} {cA : ClassId} {Cn : String} {f : Nat → Option Nat} {i : Int32} (he : σ a0 = some (.inl (cA, n, .inr (.inr (.inr (.inr f)))))) (ht : (xtys E)[t0]? = some (cA, .object Cn)) (hi : i = nI q) (hq : q < n) (hn : n < 2 ^ 31) (d : decode cc pc = .ok (.aaload, 1))
    (kk : xX k N a b σ (pc + 1) lv (va_rf (f q) :: st)) : xX k N a b σ pc lv (.int i :: .ref a0 :: st) := by
  subst hi
  refine x_aald C he ht (vp_in_nI hq hn) rfl d ?_
  rw [nI_clamp (by omega)]
  exact kk
theorem x_iast2 (C : xC k l E B cc nL ret own mn fr lo ce sl) {a0 n q : Nat} {f g : Nat → Int32} {i x : Int32} {σ2 : Sg} (he : σ a0 = some (.inl (xI E, n, .inl f))) (hi : i = nI q) (hq : q < n) (hn : n < 2 ^ 31) (hg : ∀ j, j < n → upd f q x j = g j) (hs : xup σ a0 (.inl (xI E, n, .inl g)) = σ2) (d : decode cc pc = .ok (.iastore, 1))
    (kk : xX k N a b σ2 (pc + 1) lv st) : xX k N a b σ pc lv (.int x :: .int i :: .ref a0 :: st) := by
  subst hi
  exact x_iast C he (vp_in_nI hq hn) (by rw [nI_clamp (by omega)]; exact hg) hs d kk
theorem x_cast2 (C : xC k l E B cc nL ret own mn fr lo ce sl) {a0 n q : Nat} {f g : Nat → Int32} {i x : Int32} {σ2 : Sg} (he : σ a0 = some (.inl (xCh E, n, .inl f))) (hi : i = nI q) (hq : q < n) (hn : n < 2 ^ 31) (hg : ∀ j, j < n → upd f q (vp_nar .char x) j = g j) (hs : xup σ a0 (.inl (xCh E, n, .inl g)) = σ2) (d : decode cc pc = .ok (.castore, 1))
    (kk : xX k N a b σ2 (pc + 1) lv st) : xX k N a b σ pc lv (.int x :: .int i :: .ref a0 :: st) := by
  subst hi
  exact x_cast C he (vp_in_nI hq hn) (by rw [nI_clamp (by omega)]; exact hg) hs d kk
/-- a truth value under 'ifeq', 'ifne' -/
theorem x_beq (C : xC k l E B cc nL ret own mn fr lo ce sl) {p : Prop} [Decidable p] {off : Int} (tgt : Nat) (d : decode cc pc = .ok (.ifCond .eq off, 3)) (ht : (pc : Int) + off = (tgt : Int))
    (kt : ¬ p → xX k N a b σ tgt lv st) (kf : p → xX k N a b σ (pc + 3) lv st) : xX k N a b σ pc lv (.int (xb p) :: st) := by
  refine x_if_eq C tgt d ht (fun h => kt ?_) (fun h => kf ?_)
  · intro hp; rw [xb, if_pos hp] at h; exact absurd h (by decide)
  · by_cases hp : p
    · exact hp
    · rw [xb, if_neg hp] at h; exact absurd rfl h
theorem x_bne (C : xC k l E B cc nL ret own mn fr lo ce sl) {p : Prop} [Decidable p] {off : Int} (tgt : Nat) (d : decode cc pc = .ok (.ifCond .ne off, 3)) (ht : (pc : Int) + off = (tgt : Int))
    (kt : p → xX k N a b σ tgt lv st) (kf : ¬ p → xX k N a b σ (pc + 3) lv st) : xX k N a b σ pc lv (.int (xb p) :: st) := by
  refine x_if_ne C tgt d ht (fun h => kt ?_) (fun h => kf ?_)
  · by_cases hp : p
    · exact hp
    · rw [xb, if_neg hp] at h; exact absurd rfl h
  · intro hp; rw [xb, if_pos hp] at h; exact absurd h (by decide)
/-- the flag of a speaker who is there -/
theorem x_feq (C : xC k l E B cc nL ret own mn fr lo ce sl) {c : Int32} {off : Int} (tgt : Nat) (d : decode cc pc = .ok (.ifCond .eq off, 3)) (ht : (pc : Int) + off = (tgt : Int))
    (kt : ¬ c = 1 → xX k N a b σ tgt lv st) (kf : c = 1 → xX k N a b σ (pc + 3) lv st) : xX k N a b σ pc lv (.int (xfl c) :: st) := x_beq C tgt d ht kt kf
theorem x_fne (C : xC k l E B cc nL ret own mn fr lo ce sl) {c : Int32} {off : Int} (tgt : Nat) (d : decode cc pc = .ok (.ifCond .ne off, 3)) (ht : (pc : Int) + off = (tgt : Int))
    (kt : c = 1 → xX k N a b σ tgt lv st) (kf : ¬ c = 1 → xX k N a b σ (pc + 3) lv st) : xX k N a b σ pc lv (.int (xfl c) :: st) := x_bne C tgt d ht kt kf
end XH
theorem ix14 (a b : Nat) : nI a * 14 + nI b = nI (14 * a + b) := by
  rw [show (14 : Int32) = nI 14 from rfl, pk_mul, nI_add, Nat.mul_comm]
theorem b_t {p : Prop} [Decidable p] (h : p) : xb p = 1 := if_pos h
theorem b_f {p : Prop} [Decidable p] (h : ¬ p) : xb p = 0 := if_neg h
theorem b_n (p : Prop) [Decidable p] : narrow .boolean (.int (xb p)) = .int (xb p) := by unfold xb; split <;> rfl
theorem bd_in {i c : Nat} (h : i < c) (hc : c < 2 ^ 31) : (0 : Int32) ≤ nI i ∧ nI i < nI c := ⟨nI_pos' (by omega), nI_lt h hc⟩
theorem bd_of {x : Int32} {c : Nat} (hc : c < 2 ^ 31) (h : 0 ≤ x ∧ x < nI c) : ∃ i, i < c ∧ x = nI i := by
  rcases pk_ix x hc with h1 | h1 | h1
  · exact absurd h.1 (by simpa using h1)
  · exact absurd h.2 (by simpa using h1)
  · exact h1
/-- a local that is no longer asked -/
def xdrop : List (Option Value) → Nat → List (Option Value)
  | [], _ => []
  | _ :: l, 0 => none :: l
  | o :: l, n + 1 => o :: xdrop l n
theorem xget_drop : ∀ (lv : List (Option Value)) (i j : Nat) (x : Value), xget (xdrop lv i) j = some x → xget lv j = some x
  | [], _, _, _, h => by simp [xdrop, xget] at h
  | o :: l, 0, 0, x, h => by simp [xdrop, xget] at h
  | o :: l, 0, j + 1, x, h => h
  | o :: l, i + 1, 0, x, h => h
  | o :: l, i + 1, j + 1, x, h => xget_drop l i j x h
/-- fewer locals are known -/
def xle : List (Option Value) → List (Option Value) → Prop
  | [], _ => True
  | none :: l, l2 => xle l (l2.drop 1)
  | some v :: l, l2 => l2.head? = some (some v) ∧ xle l (l2.drop 1)
theorem xle_get : ∀ (l1 l2 : List (Option Value)) (j : Nat) (x : Value), xle l1 l2 → xget l1 j = some x → xget l2 j = some x
  | [], _, _, _, _, h => by simp [xget] at h
  | none :: l, l2, 0, x, _, h => by simp [xget] at h
  | none :: l, [], j + 1, x, hl, h => xle_get l [] j x hl h
  | none :: l, o :: l2, j + 1, x, hl, h => xle_get l l2 j x hl h
  | some v :: l, [], 0, x, hl, h => by simp [xle] at hl
  | some v :: l, o :: l2, 0, x, hl, h => by
    simp only [xle, List.head?_cons, Option.some.injEq] at hl
    simp only [xget] at h ⊢
    rw [hl.1]; exact h
  | some v :: l, [], j + 1, x, hl, h => by simp [xle] at hl
  | some v :: l, o :: l2, j + 1, x, hl, h => xle_get l l2 j x hl.2 h
theorem xX.less {k : xT} {N a b : Nat} {σ : Sg} {pc : Nat} {lv lv2 : List (Option Value)} {st : List Value} (h : xle lv2 lv) (kk : xX k N a b σ pc lv2 st) : xX k N a b σ pc lv st := by
  obtain ⟨p, l0, e, R, s, m, args, below, meth, c, Q, E0, B0, nL0⟩ := k
  intro H locs ls hh hS hl
  refine kk H locs ls hh hS ⟨hl.1, hl.2.1, fun q hq => ?_⟩
  obtain ⟨-, h2⟩ := xmem_get _ 0 q hq
  rw [Nat.sub_zero] at h2
  have h3 := xget_mem lv 0 q.1 q.2 (xle_get lv2 lv q.1 q.2 h h2)
  rw [Nat.zero_add] at h3
  exact hl.2.2 _ h3
theorem xX.cl {k : xT} {N a b : Nat} {σ σ2 : Sg} {pc : Nat} {lv lv2 : List (Option Value)} {st st2 : List Value} (kk : xX k N a b σ2 pc lv2 st2) (h : σ = σ2) (h2 : xle lv2 lv) (h3 : st = st2) : xX k N a b σ pc lv st := by
  subst h; subst h3
  exact kk.less h2
end
section
/-! WHAT THE CELLS' NUMBERS BECOME: the mathematics that both sides, class and model, are tied to -/
def oI (o : Option Nat) : Int32 := match o with
  | none => -6
  | some i => nI i
theorem nI_ne6 {i : Nat} (h : i < 2 ^ 31) : ¬ nI i = -6 := by
  intro e
  have h1 := nI_toInt h
  rw [e] at h1
  have h2 : ((-6 : Int32)).toInt = -6 := by decide
  omega
theorem oI_6 {o : Option Nat} (h : ∀ i, o = some i → i < 2 ^ 31) : oI o = -6 ↔ o = none := by
  cases o with
  | none => simp [oI]
  | some i => simp [oI, nI_ne6 (h i rfl)]
theorem oI_inj {o u : Option Nat} (h : ∀ i, o = some i → i < 2 ^ 31) (hu : ∀ i, u = some i → i < 2 ^ 31) : oI o = oI u ↔ o = u := by
  cases o with
  | none =>
    cases u with
    | none => simp
    | some j => simpa [oI, eq_comm] using nI_ne6 (hu j rfl)
  | some i =>
    cases u with
    | none => simpa [oI] using nI_ne6 (h i rfl)
    | some j => simpa [oI] using nI_eq (h i rfl) (hu j rfl)
/-- a weight is kept from 0 to 99 -/
def clS (x : Int32) : Int32 := if 0 < (if x < 99 then x else 99) then (if x < 99 then x else 99) else 0
/-- the first greatest one above 0, among n; and how great -/
def wfL (g : Fn) : Nat → Option Nat × Int32
  | 0 => (none, 0)
  | n + 1 => if g n ≤ (wfL g n).2 then wfL g n else (some n, g n)
theorem wfL_in (g : Fn) : ∀ (n i : Nat), (wfL g n).1 = some i → i < n
  | 0, i, h => by simp [wfL] at h
  | n + 1, i, h => by
    unfold wfL at h
    split at h
    · have := wfL_in g n i h; omega
    · simp at h; omega
theorem wfL_cg {f g : Fn} : ∀ {n : Nat}, (∀ j, j < n → f j = g j) → wfL f n = wfL g n
  | 0, _ => rfl
  | n + 1, h => by
    unfold wfL
    rw [wfL_cg (fun j hj => h j (by omega)), h n (by omega)]
def wfS (r : Fn) (m : Nat) : Option Nat := (wfL (fun w => r (14 * m + w)) 14).1
def haS (r : Fn) (w : Nat) : Option Nat := (wfL (fun m => r (14 * m + w)) 6).1
theorem wfS_in {r : Fn} {m i : Nat} (h : wfS r m = some i) : i < 14 := wfL_in _ _ _ h
theorem haS_in {r : Fn} {w i : Nat} (h : haS r w = some i) : i < 6 := wfL_in _ _ _ h
theorem wfS_6 {r : Fn} {m : Nat} : oI (wfS r m) = -6 ↔ wfS r m = none := oI_6 (fun _ h => by have := wfS_in h; omega)
theorem haS_6 {r : Fn} {w : Nat} : oI (haS r w) = -6 ↔ haS r w = none := oI_6 (fun _ h => by have := haS_in h; omega)
theorem wfS_ij {r s : Fn} {m o : Nat} : oI (wfS r m) = oI (wfS s o) ↔ wfS r m = wfS s o := oI_inj (fun _ h => by have := wfS_in h; omega) (fun _ h => by have := wfS_in h; omega)
theorem wfS_is {r : Fn} {m w : Nat} (hw : w < 2 ^ 31) : oI (wfS r m) = nI w ↔ wfS r m = some w := oI_inj (u := some w) (fun _ h => by have := wfS_in h; omega) (fun i h => by cases h; exact hw)
theorem haS_is {r : Fn} {m w : Nat} (hw : w < 2 ^ 31) : oI (haS r m) = nI w ↔ haS r m = some w := oI_inj (u := some w) (fun _ h => by have := haS_in h; omega) (fun i h => by cases h; exact hw)
/-- what a speaker learns -/
def lnS (age gain : Int32) : Int32 := if 1 < gain - age / 20 then gain - age / 20 else 1
/-- one weight changes -/
def chS (V : Vs) (k m w : Nat) (d : Int32) : Vs := up2 V k (14 * m + w) (clS (V k (14 * m + w) + d))
/-- a word is preferred: its weight grows by a, those of the first i others become less -/
def prL (V : Vs) (k m w : Nat) (a loss : Int32) (i : Nat) : Vs := fun r j => if r = k ∧ j = 14 * m + w then clS (V r j + a) else if r = k ∧ 14 * m ≤ j ∧ j < 14 * m + i then clS (V r j + -loss) else V r j
def prS (V : Vs) (k m w : Nat) (a loss : Int32) : Vs := prL V k m w a loss 14
theorem prL_0 {V : Vs} {k m w : Nat} {a loss : Int32} : prL V k m w a loss 0 = chS V k m w a := by
  funext r j
  unfold prL chS up2
  by_cases h : r = k ∧ j = 14 * m + w
  · rw [if_pos h, if_pos h, h.1, h.2]
  · rw [if_neg h, if_neg h, if_neg (by omega)]
theorem prL_s {V : Vs} {k m w i : Nat} {a loss : Int32} (hi : ¬ i = w) : chS (prL V k m w a loss i) k m i (-loss) = prL V k m w a loss (i + 1) := by
  have e : prL V k m w a loss i k (14 * m + i) = V k (14 * m + i) := by
    unfold prL
    rw [if_neg (by omega), if_neg (by omega)]
  funext r j
  unfold chS
  rw [e]
  by_cases h : r = k ∧ j = 14 * m + i
  · obtain ⟨rfl, rfl⟩ := h
    rw [up2_s]
    unfold prL
    rw [if_neg (by omega), if_pos (by omega)]
  · rw [up2_n h]
    unfold prL
    by_cases h2 : r = k ∧ j = 14 * m + w
    · rw [if_pos h2, if_pos h2]
    · rw [if_neg h2, if_neg h2]
      by_cases h3 : r = k ∧ 14 * m ≤ j ∧ j < 14 * m + i
      · rw [if_pos h3, if_pos (by omega)]
      · rw [if_neg h3, if_neg (by omega)]
theorem prL_e {V : Vs} {k m w : Nat} {a loss : Int32} : prL V k m w a loss w = prL V k m w a loss (w + 1) := by
  funext r j
  unfold prL
  by_cases h2 : r = k ∧ j = 14 * m + w
  · rw [if_pos h2, if_pos h2]
  · rw [if_neg h2, if_neg h2]
    by_cases h3 : r = k ∧ 14 * m ≤ j ∧ j < 14 * m + w
    · rw [if_pos h3, if_pos (by omega)]
    · rw [if_neg h3, if_neg (by omega)]
/-- the hearer forgets the word for the first i other meanings -/
def fmL (V : Vs) (k m w : Nat) (loss : Int32) (i : Nat) : Vs := fun r j => if r = k ∧ j % 14 = w ∧ j / 14 < i ∧ j / 14 ≠ m then clS (V r j + -loss) else V r j
def fmS (V : Vs) (k m w : Nat) (loss : Int32) : Vs := fmL V k m w loss 6
theorem fmL_0 {V : Vs} {k m w : Nat} {loss : Int32} : fmL V k m w loss 0 = V := by
  funext r j
  unfold fmL
  rw [if_neg (by omega)]
theorem fmL_s {V : Vs} {k m w i : Nat} {loss : Int32} (hw : w < 14) (hi : ¬ i = m) : chS (fmL V k m w loss i) k i w (-loss) = fmL V k m w loss (i + 1) := by
  have e : fmL V k m w loss i k (14 * i + w) = V k (14 * i + w) := by
    unfold fmL
    rw [if_neg (by omega)]
  funext r j
  unfold chS
  rw [e]
  by_cases h : r = k ∧ j = 14 * i + w
  · obtain ⟨rfl, rfl⟩ := h
    rw [up2_s]
    unfold fmL
    rw [if_pos (by omega)]
  · rw [up2_n h]
    unfold fmL
    by_cases h3 : r = k ∧ j % 14 = w ∧ j / 14 < i ∧ j / 14 ≠ m
    · rw [if_pos h3, if_pos (by omega)]
    · rw [if_neg h3, if_neg (by omega)]
theorem fmL_e {V : Vs} {k m w : Nat} {loss : Int32} : fmL V k m w loss m = fmL V k m w loss (m + 1) := by
  funext r j
  unfold fmL
  by_cases h3 : r = k ∧ j % 14 = w ∧ j / 14 < m ∧ j / 14 ≠ m
  · rw [if_pos h3, if_pos (by omega)]
  · rw [if_neg h3, if_neg (by omega)]
def smL (g : Fn) : Nat → Int32
  | 0 => 0
  | n + 1 => smL g n + g n
/-- for how many of the first n meanings there is a word -/
def cwN (r : Fn) : Nat → Nat
  | 0 => 0
  | n + 1 => cwN r n + (if wfS r n = none then 0 else 1)
/-- pairs of meanings with one word: with meaning m, among the t behind it; then of the first n meanings with those behind -/
def ccI (r : Fn) (m : Nat) : Nat → Nat
  | 0 => 0
  | t + 1 => ccI r m t + (if wfS r m ≠ none ∧ wfS r m = wfS r (m + 1 + t) then 1 else 0)
def ccN (r : Fn) : Nat → Nat
  | 0 => 0
  | n + 1 => ccN r n + ccI r n (5 - n)
/-- a life begins: the first n weights, with a share of the teacher's -/
def blL (V : Vs) (k : Nat) (t : Option Nat) (sh : Int32) (n : Nat) : Vs := fun r j => if r = 11 ∧ j = k then 0 else if r = 12 ∧ j = k then 0 else if r = k ∧ j < n then clS (match t with | none => 0 | some t => V t j * sh / 100) else V r j
def blS (V : Vs) (k : Nat) (t : Option Nat) (sh : Int32) : Vs := blL V k t sh 84
theorem blL_0 {V : Vs} {k : Nat} {t : Option Nat} {sh : Int32} : up2 (up2 V 11 k 0) 12 k 0 = blL V k t sh 0 := by
  funext r j
  unfold blL up2
  by_cases h1 : r = 11 ∧ j = k
  · rw [if_pos h1, if_neg (by omega), if_pos h1]
  · rw [if_neg h1]
    by_cases h2 : r = 12 ∧ j = k
    · rw [if_pos h2, if_neg h1, if_pos h2]
    · rw [if_neg h2, if_neg h2, if_neg h1, if_neg (by omega)]
theorem blL_t {V : Vs} {k n t j : Nat} {sh : Int32} (ht : t < 8) (hk : k < 8) (h : t ≠ k) : blL V k (some t) sh n t j = V t j := by
  unfold blL
  rw [if_neg (by omega), if_neg (by omega), if_neg (by omega)]
theorem blL_s {V : Vs} {k n : Nat} {t : Option Nat} {sh : Int32} (hk : k < 8) : up2 (blL V k t sh n) k n (clS (match t with | none => 0 | some t => V t n * sh / 100)) = blL V k t sh (n + 1) := by
  funext r j
  by_cases h : r = k ∧ j = n
  · obtain ⟨rfl, rfl⟩ := h
    rw [up2_s]
    unfold blL
    rw [if_neg (by omega), if_neg (by omega), if_pos (by omega)]
  · rw [up2_n h]
    unfold blL
    by_cases h1 : r = 11 ∧ j = k
    · rw [if_pos h1, if_pos h1]
    rw [if_neg h1, if_neg h1]
    by_cases h2 : r = 12 ∧ j = k
    · rw [if_pos h2, if_pos h2]
    rw [if_neg h2, if_neg h2]
    by_cases h3 : r = k ∧ j < n
    · rw [if_pos h3, if_pos (by omega)]
    · rw [if_neg h3, if_neg (by omega)]
end
section
section XO
variable {E : xEnv} {σ : Sg} {b c k : Nat} {V W : Vs}
theorem xup_o {a : Nat} {e : va_E} (h : a < c ∨ c + 20 ≤ a) : xup (vput E σ c W) a e = vput E (xup σ a e) c W := by
  funext q
  by_cases h1 : c ≤ q ∧ q < c + 20
  · rw [xup_n (by omega), vput_in h1.1 h1.2, vput_in h1.1 h1.2]
  · rw [vput_out (by omega)]
    by_cases h2 : q = a
    · subst h2; rw [xup_s, xup_s]
    · rw [xup_n h2, xup_n h2, vput_out (by omega)]
end XO
def upr (V : Vs) (r : Nat) (g : Fn) : Vs := fun p => if p = r then g else V p
theorem upr_s {V : Vs} {r : Nat} {g : Fn} : upr V r g r = g := if_pos rfl
theorem upr_n {V : Vs} {r p : Nat} {g : Fn} (h : p ≠ r) : upr V r g p = V p := if_neg h
/-- one speaker is copied -/
def cpK (V W : Vs) (k : Nat) : Vs := up2 (up2 (up2 (upr V k (W k)) 10 k (W 10 k)) 11 k (W 11 k)) 12 k (W 12 k)
def cpL (V W : Vs) (i : Nat) : Vs := fun r j => if r < i ∨ ((r = 10 ∨ r = 11 ∨ r = 12) ∧ j < i) then W r j else V r j
theorem cpL_0 {V W : Vs} : cpL V W 0 = V := by
  funext r j
  unfold cpL
  rw [if_neg (by omega)]
theorem cpK_at {V W : Vs} {k r j : Nat} (hk : k < 8) : cpK V W k r j = if r = k ∨ ((r = 10 ∨ r = 11 ∨ r = 12) ∧ j = k) then W r j else V r j := by
  unfold cpK
  by_cases h : r = k
  · subst h
    rw [if_pos (Or.inl rfl), up2_n (by omega), up2_n (by omega), up2_n (by omega), upr_s]
  · by_cases h2 : j = k
    · subst h2
      by_cases a : r = 12
      · subst a; rw [up2_s, if_pos (by omega)]
      rw [up2_n (by omega)]
      by_cases a2 : r = 11
      · subst a2; rw [up2_s, if_pos (by omega)]
      rw [up2_n (by omega)]
      by_cases a3 : r = 10
      · subst a3; rw [up2_s, if_pos (by omega)]
      rw [up2_n (by omega), upr_n h, if_neg (by omega)]
    · rw [up2_n (by omega), up2_n (by omega), up2_n (by omega), upr_n h, if_neg (by omega)]
theorem cpL_s {V W : Vs} {i : Nat} (hi : i < 8) : cpK (cpL V W i) W i = cpL V W (i + 1) := by
  funext r j
  rw [cpK_at hi]
  unfold cpL
  by_cases h : r = i ∨ ((r = 10 ∨ r = 11 ∨ r = 12) ∧ j = i)
  · rw [if_pos h, if_pos (by omega)]
  · rw [if_neg h]
    by_cases h2 : r < i ∨ ((r = 10 ∨ r = 11 ∨ r = 12) ∧ j < i)
    · rw [if_pos h2, if_pos (by omega)]
    · rw [if_neg h2, if_neg (by omega)]
theorem cpy84 {f g : Fn} : ∀ j, j < 84 → va_cpy f g (0 : Int32).toNatClampNeg (0 : Int32).toNatClampNeg (84 : Int32).toNatClampNeg j = f j := fun j hj => by
  rw [show (0 : Int32).toNatClampNeg = 0 from rfl, show (84 : Int32).toNatClampNeg = 84 from rfl]
  exact sb_cpy0 hj
theorem cpy4 {f g : Fn} : ∀ j, j < 4 → va_cpy f g (0 : Int32).toNatClampNeg (0 : Int32).toNatClampNeg (4 : Int32).toNatClampNeg j = f j := fun j hj => by
  rw [show (0 : Int32).toNatClampNeg = 0 from rfl, show (4 : Int32).toNatClampNeg = 4 from rfl]
  exact sb_cpy0 hj
theorem vput_rowk {E : xEnv} {σ : Sg} {b k : Nat} {V : Vs} {g : Fn} (hk : k < 8) : xup (vput E σ b V) (b + 3 + 2 * k) (.inl (xI E, 84, .inl g)) = vput E σ b (upr V k g) := by
  rw [← vput_rw (V2 := upr V k g) hk (fun r h => upr_n h), upr_s]
theorem vput_row8 {E : xEnv} {σ : Sg} {b : Nat} {V : Vs} {g : Fn} : xup (vput E σ b V) (b + 18) (.inl (xI E, 4, .inl g)) = vput E σ b (upr V 8 g) := by
  rw [← vput_r8 (V2 := upr V 8 g) (fun r h => upr_n h), upr_s]
theorem vput_row13 {E : xEnv} {σ : Sg} {b : Nat} {V : Vs} {g : Fn} : xup (vput E σ b V) (b + 19) (.inl (xI E, 14, .inl g)) = vput E σ b (upr V 13 g) := by
  rw [← vput_r13 (V2 := upr V 13 g) (fun r h => upr_n h), upr_s]
end
section
set_option maxRecDepth 100000 in
set_option maxHeartbeats 1000000 in
theorem c_X4_isMeaning {l : Launch} {E : xEnv} {B N : Nat} {σ : Sg} (x : Int32) : xM l yX4_isMeaning cX4_isMeaning 1 (some .boolean) 0 0 0 0 E B [.int x] N σ N σ (some (.int (xb (0 ≤ x ∧ x < 6)))) := by
  refine xM_of [some (.int _)] (by decide +kernel) (Nat.le_of_ble_eq_true rfl) rfl (fun k0 C Z => ?_)
  refine x_iload_n C dX4_isMeaning_0 rfl ?_
  refine x_if_lt C 14 dX4_isMeaning_1 (by decide) (fun h1 => ?_) (fun h1 => ?_)
  · refine x_iconst (v := 0) C dX4_isMeaning_14 (by decide) ?_
    exact x_zret C Z dX4_isMeaning_15 rfl (Nat.le_of_ble_eq_true rfl) (Nat.le_of_ble_eq_true rfl) rfl rfl (b_f (fun z => absurd h1 (Int32.not_lt.mpr z.1))).symm
  · refine x_iload_n C dX4_isMeaning_4 rfl ?_
    refine x_bipush (v := 6) C dX4_isMeaning_5 (by decide) ?_
    refine x_ic_ge C 14 dX4_isMeaning_7 (by decide) (fun h7 => ?_) (fun h7 => ?_)
    · refine x_iconst (v := 0) C dX4_isMeaning_14 (by decide) ?_
      exact x_zret C Z dX4_isMeaning_15 rfl (Nat.le_of_ble_eq_true rfl) (Nat.le_of_ble_eq_true rfl) rfl rfl (b_f (fun z => absurd z.2 (Int32.not_lt.mpr h7))).symm
    · refine x_iconst (v := 1) C dX4_isMeaning_10 (by decide) ?_
      refine x_goto C 15 dX4_isMeaning_11 (by decide) ?_
      exact x_zret C Z dX4_isMeaning_15 rfl (Nat.le_of_ble_eq_true rfl) (Nat.le_of_ble_eq_true rfl) rfl rfl (b_t ⟨Int32.not_lt.mp h1, Int32.not_le.mp h7⟩).symm
set_option maxRecDepth 100000 in
set_option maxHeartbeats 1000000 in
theorem c_X4_isWord {l : Launch} {E : xEnv} {B N : Nat} {σ : Sg} (x : Int32) : xM l yX4_isWord cX4_isWord 1 (some .boolean) 0 0 0 0 E B [.int x] N σ N σ (some (.int (xb (0 ≤ x ∧ x < 14)))) := by
  refine xM_of [some (.int _)] (by decide +kernel) (Nat.le_of_ble_eq_true rfl) rfl (fun k0 C Z => ?_)
  refine x_iload_n C dX4_isWord_0 rfl ?_
  refine x_if_lt C 14 dX4_isWord_1 (by decide) (fun h1 => ?_) (fun h1 => ?_)
  · refine x_iconst (v := 0) C dX4_isWord_14 (by decide) ?_
    exact x_zret C Z dX4_isWord_15 rfl (Nat.le_of_ble_eq_true rfl) (Nat.le_of_ble_eq_true rfl) rfl rfl (b_f (fun z => absurd h1 (Int32.not_lt.mpr z.1))).symm
  · refine x_iload_n C dX4_isWord_4 rfl ?_
    refine x_bipush (v := 14) C dX4_isWord_5 (by decide) ?_
    refine x_ic_ge C 14 dX4_isWord_7 (by decide) (fun h7 => ?_) (fun h7 => ?_)
    · refine x_iconst (v := 0) C dX4_isWord_14 (by decide) ?_
      exact x_zret C Z dX4_isWord_15 rfl (Nat.le_of_ble_eq_true rfl) (Nat.le_of_ble_eq_true rfl) rfl rfl (b_f (fun z => absurd z.2 (Int32.not_lt.mpr h7))).symm
    · refine x_iconst (v := 1) C dX4_isWord_10 (by decide) ?_
      refine x_goto C 15 dX4_isWord_11 (by decide) ?_
      exact x_zret C Z dX4_isWord_15 rfl (Nat.le_of_ble_eq_true rfl) (Nat.le_of_ble_eq_true rfl) rfl rfl (b_t ⟨Int32.not_lt.mp h1, Int32.not_le.mp h7⟩).symm
set_option maxRecDepth 100000 in
set_option maxHeartbeats 1000000 in
theorem c_X4_isBelow {l : Launch} {E : xEnv} {B N : Nat} {σ : Sg} (x y : Int32) : xM l yX4_isBelow cX4_isBelow 2 (some .boolean) 0 0 0 0 E B [.int x, .int y] N σ N σ (some (.int (xb (0 ≤ x ∧ x < y)))) := by
  refine xM_of [some (.int _), some (.int _)] (by decide +kernel) (Nat.le_of_ble_eq_true rfl) rfl (fun k0 C Z => ?_)
  refine x_iload_n C dX4_isBelow_0 rfl ?_
  refine x_if_lt C 13 dX4_isBelow_1 (by decide) (fun h1 => ?_) (fun h1 => ?_)
  · refine x_iconst (v := 0) C dX4_isBelow_13 (by decide) ?_
    exact x_zret C Z dX4_isBelow_14 rfl (Nat.le_of_ble_eq_true rfl) (Nat.le_of_ble_eq_true rfl) rfl rfl (b_f (fun z => absurd h1 (Int32.not_lt.mpr z.1))).symm
  · refine x_iload_n C dX4_isBelow_4 rfl ?_
    refine x_iload_n C dX4_isBelow_5 rfl ?_
    refine x_ic_ge C 13 dX4_isBelow_6 (by decide) (fun h6 => ?_) (fun h6 => ?_)
    · refine x_iconst (v := 0) C dX4_isBelow_13 (by decide) ?_
      exact x_zret C Z dX4_isBelow_14 rfl (Nat.le_of_ble_eq_true rfl) (Nat.le_of_ble_eq_true rfl) rfl rfl (b_f (fun z => absurd z.2 (Int32.not_lt.mpr h6))).symm
    · refine x_iconst (v := 1) C dX4_isBelow_9 (by decide) ?_
      refine x_goto C 14 dX4_isBelow_10 (by decide) ?_
      exact x_zret C Z dX4_isBelow_14 rfl (Nat.le_of_ble_eq_true rfl) (Nat.le_of_ble_eq_true rfl) rfl rfl (b_t ⟨Int32.not_lt.mp h1, Int32.not_le.mp h6⟩).symm
set_option maxRecDepth 100000 in
set_option maxHeartbeats 1000000 in
theorem c_X2_weightOf {l : Launch} {E : xEnv} {B N : Nat} {σ : Sg} {b k : Nat} {V : Vs} (hk : k < 8) {mm ww : Nat} (hm : mm < 6) (hw : ww < 14) : xM l yX2_weightOf cX2_weightOf 3 (some .int) 1 20 0 0 E B [.ref (b + 2 + 2 * k), .int (nI mm), .int (nI ww)] N (vput E σ b V) N (vput E σ b V) (some (.int (V k (14 * mm + ww)))) := by
  refine xM_of [some (.ref _), some (.int _), some (.int _)] (by decide +kernel) (Nat.le_of_ble_eq_true rfl) rfl (fun k0 C Z => ?_)
  refine x_iload_n C dX2_weightOf_0 rfl ?_
  refine x_callS C (c_X4_isMeaning _) ks_X4_isMeaning kl_X2_44 dX2_weightOf_1 rfl rfl rfl rfl (Nat.le_of_ble_eq_true rfl) (Nat.le_of_ble_eq_true rfl) (Nat.le_of_ble_eq_true rfl) (Nat.le_of_ble_eq_true rfl) (Nat.le_of_ble_eq_true rfl) ?_
  refine x_beq C 28 dX2_weightOf_4 (by decide) (fun h => absurd (bd_in (c := 6) hm (by decide)) h) (fun _ => ?_)
  refine x_iload_n C dX2_weightOf_7 rfl ?_
  refine x_callS C (c_X4_isWord _) ks_X4_isWord kl_X2_48 dX2_weightOf_8 rfl rfl rfl rfl (Nat.le_of_ble_eq_true rfl) (Nat.le_of_ble_eq_true rfl) (Nat.le_of_ble_eq_true rfl) (Nat.le_of_ble_eq_true rfl) (Nat.le_of_ble_eq_true rfl) ?_
  refine x_beq C 28 dX2_weightOf_11 (by decide) (fun h => absurd (bd_in (c := 14) hw (by decide)) h) (fun _ => ?_)
  refine x_aload_n C dX2_weightOf_14 rfl ?_
  refine x_get C kf_X2_9 (vput_s hk) rfl dX2_weightOf_15 ?_
  refine x_iload_n C dX2_weightOf_18 rfl ?_
  refine x_bipush (v := 14) C dX2_weightOf_19 (by decide) ?_
  refine x_imul C dX2_weightOf_21 ?_
  refine x_iload_n C dX2_weightOf_22 rfl ?_
  refine x_iadd C dX2_weightOf_23 ?_
  refine x_iald2 C (vput_w hk) (ix14 _ _) (by omega) (by decide) dX2_weightOf_24 ?_
  refine x_goto C 29 dX2_weightOf_25 (by decide) ?_
  exact x_zret C Z dX2_weightOf_29 rfl (Nat.le_of_ble_eq_true rfl) (Nat.le_of_ble_eq_true rfl) rfl rfl rfl
set_option maxRecDepth 100000 in
set_option maxHeartbeats 1000000 in
theorem c_X2_putWeight {l : Launch} {E : xEnv} {B N : Nat} {σ : Sg} {b k : Nat} {V : Vs} (hk : k < 8) {mm ww : Nat} (hm : mm < 6) (hw : ww < 14) (x : Int32) : xM l yX2_putWeight cX2_putWeight 4 none 1 21 0 0 E B [.ref (b + 2 + 2 * k), .int (nI mm), .int (nI ww), .int x] N (vput E σ b V) N (vput E σ b (up2 V k (14 * mm + ww) (clS x))) none := by
  refine xM_of [some (.ref _), some (.int _), some (.int _), some (.int _)] (by decide +kernel) (Nat.le_of_ble_eq_true rfl) rfl (fun k0 C Z => ?_)
  refine x_iload_n C dX2_putWeight_0 rfl ?_
  refine x_callS C (c_X4_isMeaning _) ks_X4_isMeaning kl_X2_44 dX2_putWeight_1 rfl rfl rfl rfl (Nat.le_of_ble_eq_true rfl) (Nat.le_of_ble_eq_true rfl) (Nat.le_of_ble_eq_true rfl) (Nat.le_of_ble_eq_true rfl) (Nat.le_of_ble_eq_true rfl) ?_
  refine x_beq C 35 dX2_putWeight_4 (by decide) (fun h => absurd (bd_in (c := 6) hm (by decide)) h) (fun _ => ?_)
  refine x_iload_n C dX2_putWeight_7 rfl ?_
  refine x_callS C (c_X4_isWord _) ks_X4_isWord kl_X2_48 dX2_putWeight_8 rfl rfl rfl rfl (Nat.le_of_ble_eq_true rfl) (Nat.le_of_ble_eq_true rfl) (Nat.le_of_ble_eq_true rfl) (Nat.le_of_ble_eq_true rfl) (Nat.le_of_ble_eq_true rfl) ?_
  refine x_beq C 35 dX2_putWeight_11 (by decide) (fun h => absurd (bd_in (c := 14) hw (by decide)) h) (fun _ => ?_)
  refine x_aload_n C dX2_putWeight_14 rfl ?_
  refine x_get C kf_X2_9 (vput_s hk) rfl dX2_putWeight_15 ?_
  refine x_iload_n C dX2_putWeight_18 rfl ?_
  refine x_bipush (v := 14) C dX2_putWeight_19 (by decide) ?_
  refine x_imul C dX2_putWeight_21 ?_
  refine x_iload_n C dX2_putWeight_22 rfl ?_
  refine x_iadd C dX2_putWeight_23 ?_
  refine x_iconst (v := 0) C dX2_putWeight_24 (by decide) ?_
  refine x_bipush (v := 99) C dX2_putWeight_25 (by decide) ?_
  refine x_iload_n C dX2_putWeight_27 rfl ?_
  refine x_mmin C kl_X2_51 kz_smin ki_math kz_cmin (Nat.le_of_ble_eq_true rfl) (Nat.le_of_ble_eq_true rfl) (Nat.le_of_ble_eq_true rfl) (Nat.le_of_ble_eq_true rfl) dX2_putWeight_28 ?_
  refine x_mmax C kl_X2_56 kz_smax ki_math kz_cmax (Nat.le_of_ble_eq_true rfl) (Nat.le_of_ble_eq_true rfl) (Nat.le_of_ble_eq_true rfl) (Nat.le_of_ble_eq_true rfl) dX2_putWeight_31 ?_
  refine x_iast2 C (vput_w hk) (ix14 _ _) (by omega) (by decide) (fun _ _ => rfl) (vput_wt hk _ _) dX2_putWeight_34 ?_
  exact x_vret C Z dX2_putWeight_35 (Nat.le_of_ble_eq_true rfl) (Nat.le_of_ble_eq_true rfl) rfl rfl
set_option maxRecDepth 100000 in
set_option maxHeartbeats 1000000 in
theorem c_X2_changeWeight {l : Launch} {E : xEnv} {B N : Nat} {σ : Sg} {b k : Nat} {V : Vs} (hk : k < 8) {mm ww : Nat} (hm : mm < 6) (hw : ww < 14) (x : Int32) : xM l yX2_changeWeight cX2_changeWeight 4 none 2 44 0 0 E B [.ref (b + 2 + 2 * k), .int (nI mm), .int (nI ww), .int x] N (vput E σ b V) N (vput E σ b (chS V k mm ww x)) none := by
  refine xM_of [some (.ref _), some (.int _), some (.int _), some (.int _)] (by decide +kernel) (Nat.le_of_ble_eq_true rfl) rfl (fun k0 C Z => ?_)
  refine x_aload_n C dX2_changeWeight_0 rfl ?_
  refine x_iload_n C dX2_changeWeight_1 rfl ?_
  refine x_iload_n C dX2_changeWeight_2 rfl ?_
  refine x_aload_n C dX2_changeWeight_3 rfl ?_
  refine x_iload_n C dX2_changeWeight_4 rfl ?_
  refine x_iload_n C dX2_changeWeight_5 rfl ?_
  refine x_callV C (c_X2_weightOf hk hm hw) kv_X2_weightOf kl_X2_36 dX2_changeWeight_6 (vput_s hk) rfl rfl rfl rfl (Nat.le_of_ble_eq_true rfl) (Nat.le_of_ble_eq_true rfl) (Nat.le_of_ble_eq_true rfl) (Nat.le_of_ble_eq_true rfl) (Nat.le_of_ble_eq_true rfl) ?_
  refine x_iload_n C dX2_changeWeight_9 rfl ?_
  refine x_iadd C dX2_changeWeight_10 ?_
  refine x_callV C (c_X2_putWeight hk hm hw _) kv_X2_putWeight kl_X2_40 dX2_changeWeight_11 (vput_s hk) rfl rfl rfl rfl (Nat.le_of_ble_eq_true rfl) (Nat.le_of_ble_eq_true rfl) (Nat.le_of_ble_eq_true rfl) (Nat.le_of_ble_eq_true rfl) (Nat.le_of_ble_eq_true rfl) ?_
  exact x_vret C Z dX2_changeWeight_14 (Nat.le_of_ble_eq_true rfl) (Nat.le_of_ble_eq_true rfl) rfl rfl
set_option maxRecDepth 100000 in
set_option maxHeartbeats 1000000 in
theorem c_X2_wordFor {l : Launch} {E : xEnv} {B N : Nat} {σ : Sg} {b k : Nat} {V : Vs} (hk : k < 8) {mm : Nat} (hm : mm < 6) : xM l yX2_wordFor cX2_wordFor 6 (some .int) 2 42 0 0 E B [.ref (b + 2 + 2 * k), .int (nI mm)] N (vput E σ b V) N (vput E σ b V) (some (.int (oI (wfS (V k) mm)))) := by
  refine xM_of [some (.ref _), some (.int _), none, none, none, none] (by decide +kernel) (Nat.le_of_ble_eq_true rfl) rfl (fun k0 C Z => ?_)
  have hl : ∀ i, i ≤ 14 → xX k0 N 0 0 (vput E σ b V) 8 [some (.ref (b + 2 + 2 * k)), some (.int (nI mm)), some (.int (oI (wfL (fun w => V k (14 * mm + w)) i).1)), some (.int (wfL (fun w => V k (14 * mm + w)) i).2), some (.int (nI i)), none] [] := by
    refine x_for 14 ?_ ?_
    · refine x_iload C dX2_wordFor_8 rfl ?_
      refine x_bipush (v := 14) C dX2_wordFor_10 (by decide) ?_
      refine x_ic_ge C 42 dX2_wordFor_12 (by decide) (fun _ => ?_) (fun h => absurd (nI_le (a := 14) (Nat.le_refl _) (by decide)) h)
      refine x_iload_n C dX2_wordFor_42 rfl ?_
      exact x_zret C Z dX2_wordFor_43 rfl (Nat.le_of_ble_eq_true rfl) (Nat.le_of_ble_eq_true rfl) rfl rfl rfl
    · intro i hi ih
      refine x_iload C dX2_wordFor_8 rfl ?_
      refine x_bipush (v := 14) C dX2_wordFor_10 (by decide) ?_
      refine x_ic_ge C 42 dX2_wordFor_12 (by decide) (fun h => absurd h (nI_ge (b := 14) hi (by decide))) (fun _ => ?_)
      refine x_aload_n C dX2_wordFor_15 rfl ?_
      refine x_iload_n C dX2_wordFor_16 rfl ?_
      refine x_iload C dX2_wordFor_17 rfl ?_
      refine x_callV C (c_X2_weightOf hk hm hi) kv_X2_weightOf kl_X2_36 dX2_wordFor_19 (vput_s hk) rfl rfl rfl rfl (Nat.le_of_ble_eq_true rfl) (Nat.le_of_ble_eq_true rfl) (Nat.le_of_ble_eq_true rfl) (Nat.le_of_ble_eq_true rfl) (Nat.le_of_ble_eq_true rfl) ?_
      refine x_istore C dX2_wordFor_22 (by decide) rfl ?_
      refine x_iload C dX2_wordFor_24 rfl ?_
      refine x_iload_n C dX2_wordFor_26 rfl ?_
      refine x_ic_le C 36 dX2_wordFor_27 (by decide) (fun h27 => ?_) (fun h27 => ?_)
      · refine x_iinc C dX2_wordFor_36 rfl (nI_inc _) (by decide) rfl ?_
        refine x_goto C 8 dX2_wordFor_39 (by decide) ?_
        refine xX.cl ih rfl (And.intro rfl (And.intro rfl (And.intro ?_ (And.intro ?_ (And.intro rfl trivial))))) rfl
        all_goals (rw [wfL, if_pos h27]; rfl)
      · refine x_iload C dX2_wordFor_30 rfl ?_
        refine x_istore_n C dX2_wordFor_32 (by decide) rfl ?_
        refine x_iload C dX2_wordFor_33 rfl ?_
        refine x_istore_n C dX2_wordFor_35 (by decide) rfl ?_
        refine x_iinc C dX2_wordFor_36 rfl (nI_inc _) (by decide) rfl ?_
        refine x_goto C 8 dX2_wordFor_39 (by decide) ?_
        refine xX.cl ih rfl (And.intro rfl (And.intro rfl (And.intro ?_ (And.intro ?_ (And.intro rfl trivial))))) rfl
        all_goals (rw [wfL, if_neg h27]; rfl)
  refine x_bipush (v := (-6)) C dX2_wordFor_0 (by decide) ?_
  refine x_istore_n C dX2_wordFor_2 (by decide) rfl ?_
  refine x_iconst (v := 0) C dX2_wordFor_3 (by decide) ?_
  refine x_istore_n C dX2_wordFor_4 (by decide) rfl ?_
  refine x_iconst (v := 0) C dX2_wordFor_5 (by decide) ?_
  refine x_istore C dX2_wordFor_6 (by decide) rfl ?_
  exact hl 0 (by omega)
set_option maxRecDepth 100000 in
set_option maxHeartbeats 1000000 in
theorem c_X2_meaningOf {l : Launch} {E : xEnv} {B N : Nat} {σ : Sg} {b k : Nat} {V : Vs} (hk : k < 8) {ww : Nat} (hw : ww < 14) : xM l yX2_meaningOf cX2_meaningOf 6 (some .int) 2 42 0 0 E B [.ref (b + 2 + 2 * k), .int (nI ww)] N (vput E σ b V) N (vput E σ b V) (some (.int (oI (haS (V k) ww)))) := by
  refine xM_of [some (.ref _), some (.int _), none, none, none, none] (by decide +kernel) (Nat.le_of_ble_eq_true rfl) rfl (fun k0 C Z => ?_)
  have hl : ∀ i, i ≤ 6 → xX k0 N 0 0 (vput E σ b V) 8 [some (.ref (b + 2 + 2 * k)), some (.int (nI ww)), some (.int (oI (wfL (fun m => V k (14 * m + ww)) i).1)), some (.int (wfL (fun m => V k (14 * m + ww)) i).2), some (.int (nI i)), none] [] := by
    refine x_for 6 ?_ ?_
    · refine x_iload C dX2_meaningOf_8 rfl ?_
      refine x_bipush (v := 6) C dX2_meaningOf_10 (by decide) ?_
      refine x_ic_ge C 42 dX2_meaningOf_12 (by decide) (fun _ => ?_) (fun h => absurd (nI_le (a := 6) (Nat.le_refl _) (by decide)) h)
      refine x_iload_n C dX2_meaningOf_42 rfl ?_
      exact x_zret C Z dX2_meaningOf_43 rfl (Nat.le_of_ble_eq_true rfl) (Nat.le_of_ble_eq_true rfl) rfl rfl rfl
    · intro i hi ih
      refine x_iload C dX2_meaningOf_8 rfl ?_
      refine x_bipush (v := 6) C dX2_meaningOf_10 (by decide) ?_
      refine x_ic_ge C 42 dX2_meaningOf_12 (by decide) (fun h => absurd h (nI_ge (b := 6) hi (by decide))) (fun _ => ?_)
      refine x_aload_n C dX2_meaningOf_15 rfl ?_
      refine x_iload C dX2_meaningOf_16 rfl ?_
      refine x_iload_n C dX2_meaningOf_18 rfl ?_
      refine x_callV C (c_X2_weightOf hk hi hw) kv_X2_weightOf kl_X2_36 dX2_meaningOf_19 (vput_s hk) rfl rfl rfl rfl (Nat.le_of_ble_eq_true rfl) (Nat.le_of_ble_eq_true rfl) (Nat.le_of_ble_eq_true rfl) (Nat.le_of_ble_eq_true rfl) (Nat.le_of_ble_eq_true rfl) ?_
      refine x_istore C dX2_meaningOf_22 (by decide) rfl ?_
      refine x_iload C dX2_meaningOf_24 rfl ?_
      refine x_iload_n C dX2_meaningOf_26 rfl ?_
      refine x_ic_le C 36 dX2_meaningOf_27 (by decide) (fun h27 => ?_) (fun h27 => ?_)
      · refine x_iinc C dX2_meaningOf_36 rfl (nI_inc _) (by decide) rfl ?_
        refine x_goto C 8 dX2_meaningOf_39 (by decide) ?_
        refine xX.cl ih rfl (And.intro rfl (And.intro rfl (And.intro ?_ (And.intro ?_ (And.intro rfl trivial))))) rfl
        all_goals (rw [wfL, if_pos h27]; rfl)
      · refine x_iload C dX2_meaningOf_30 rfl ?_
        refine x_istore_n C dX2_meaningOf_32 (by decide) rfl ?_
        refine x_iload C dX2_meaningOf_33 rfl ?_
        refine x_istore_n C dX2_meaningOf_35 (by decide) rfl ?_
        refine x_iinc C dX2_meaningOf_36 rfl (nI_inc _) (by decide) rfl ?_
        refine x_goto C 8 dX2_meaningOf_39 (by decide) ?_
        refine xX.cl ih rfl (And.intro rfl (And.intro rfl (And.intro ?_ (And.intro ?_ (And.intro rfl trivial))))) rfl
        all_goals (rw [wfL, if_neg h27]; rfl)
  refine x_bipush (v := (-6)) C dX2_meaningOf_0 (by decide) ?_
  refine x_istore_n C dX2_meaningOf_2 (by decide) rfl ?_
  refine x_iconst (v := 0) C dX2_meaningOf_3 (by decide) ?_
  refine x_istore_n C dX2_meaningOf_4 (by decide) rfl ?_
  refine x_iconst (v := 0) C dX2_meaningOf_5 (by decide) ?_
  refine x_istore C dX2_meaningOf_6 (by decide) rfl ?_
  exact hl 0 (by omega)
end
section
set_option maxRecDepth 100000 in
set_option maxHeartbeats 1000000 in
theorem c_X2_learnsWith {l : Launch} {E : xEnv} {B N : Nat} {σ : Sg} {b k : Nat} {V : Vs} (hk : k < 8) (g : Int32) : xM l yX2_learnsWith cX2_learnsWith 2 (some .int) 1 21 0 0 E B [.ref (b + 2 + 2 * k), .int g] N (vput E σ b V) N (vput E σ b V) (some (.int (lnS (V 11 k) g))) := by
  refine xM_of [some (.ref _), some (.int _)] (by decide +kernel) (Nat.le_of_ble_eq_true rfl) rfl (fun k0 C Z => ?_)
  refine x_iconst (v := 1) C dX2_learnsWith_0 (by decide) ?_
  refine x_iload_n C dX2_learnsWith_1 rfl ?_
  refine x_aload_n C dX2_learnsWith_2 rfl ?_
  refine x_get C kf_X2_25 (vput_s hk) rfl dX2_learnsWith_3 ?_
  refine x_bipush (v := 20) C dX2_learnsWith_6 (by decide) ?_
  refine x_idiv C dX2_learnsWith_8 (by decide) ?_
  refine x_isub C dX2_learnsWith_9 ?_
  refine x_mmax C kl_X2_56 kz_smax ki_math kz_cmax (Nat.le_of_ble_eq_true rfl) (Nat.le_of_ble_eq_true rfl) (Nat.le_of_ble_eq_true rfl) (Nat.le_of_ble_eq_true rfl) dX2_learnsWith_10 ?_
  exact x_zret C Z dX2_learnsWith_13 rfl (Nat.le_of_ble_eq_true rfl) (Nat.le_of_ble_eq_true rfl) rfl rfl rfl
set_option maxRecDepth 100000 in
set_option maxHeartbeats 1000000 in
theorem c_X2_prefer {l : Launch} {E : xEnv} {B N : Nat} {σ : Sg} {b k : Nat} {V : Vs} (hk : k < 8) {mm ww : Nat} (hm : mm < 6) (hw : ww < 14) (g x : Int32) : xM l yX2_prefer cX2_prefer 6 none 3 67 0 0 E B [.ref (b + 2 + 2 * k), .int (nI mm), .int (nI ww), .int g, .int x] N (vput E σ b V) N (vput E σ b (prS V k mm ww (lnS (V 11 k) g) x)) none := by
  refine xM_of [some (.ref _), some (.int _), some (.int _), some (.int _), some (.int _), none] (by decide +kernel) (Nat.le_of_ble_eq_true rfl) rfl (fun k0 C Z => ?_)
  have hl : ∀ i, i ≤ 14 → xX k0 N 0 0 (vput E σ b (prL V k mm ww (lnS (V 11 k) g) x i)) 14 [some (.ref (b + 2 + 2 * k)), some (.int (nI mm)), some (.int (nI ww)), some (.int g), some (.int x), some (.int (nI i))] [] := by
    refine x_for 14 ?_ ?_
    · refine x_iload C dX2_prefer_14 rfl ?_
      refine x_bipush (v := 14) C dX2_prefer_16 (by decide) ?_
      refine x_ic_ge C 43 dX2_prefer_18 (by decide) (fun _ => ?_) (fun h => absurd (nI_le (a := 14) (Nat.le_refl _) (by decide)) h)
      exact x_vret C Z dX2_prefer_43 (Nat.le_of_ble_eq_true rfl) (Nat.le_of_ble_eq_true rfl) rfl rfl
    · intro i hi ih
      refine x_iload C dX2_prefer_14 rfl ?_
      refine x_bipush (v := 14) C dX2_prefer_16 (by decide) ?_
      refine x_ic_ge C 43 dX2_prefer_18 (by decide) (fun h => absurd h (nI_ge (b := 14) hi (by decide))) (fun _ => ?_)
      refine x_iload C dX2_prefer_21 rfl ?_
      refine x_iload_n C dX2_prefer_23 rfl ?_
      refine x_ic_eq C 37 dX2_prefer_24 (by decide) (fun h24 => ?_) (fun h24 => ?_)
      · refine x_iinc C dX2_prefer_37 rfl (nI_inc _) (by decide) rfl ?_
        refine x_goto C 14 dX2_prefer_40 (by decide) ?_
        refine xX.cl ih (by rw [(nI_eq (by omega) (by omega)).mp h24]; exact congrArg _ prL_e) (And.intro rfl (And.intro rfl (And.intro rfl (And.intro rfl (And.intro rfl (And.intro rfl trivial)))))) rfl
      · refine x_aload_n C dX2_prefer_27 rfl ?_
        refine x_iload_n C dX2_prefer_28 rfl ?_
        refine x_iload C dX2_prefer_29 rfl ?_
        refine x_iload C dX2_prefer_31 rfl ?_
        refine x_ineg C dX2_prefer_33 ?_
        refine x_callV C (c_X2_changeWeight hk hm hi _) kv_X2_changeWeight kl_X2_63 dX2_prefer_34 (vput_s hk) rfl rfl rfl rfl (Nat.le_of_ble_eq_true rfl) (Nat.le_of_ble_eq_true rfl) (Nat.le_of_ble_eq_true rfl) (Nat.le_of_ble_eq_true rfl) (Nat.le_of_ble_eq_true rfl) ?_
        refine x_iinc C dX2_prefer_37 rfl (nI_inc _) (by decide) rfl ?_
        refine x_goto C 14 dX2_prefer_40 (by decide) ?_
        refine xX.cl ih (congrArg _ (prL_s (fun z => h24 (by rw [z])))) (And.intro rfl (And.intro rfl (And.intro rfl (And.intro rfl (And.intro rfl (And.intro rfl trivial)))))) rfl
  refine x_aload_n C dX2_prefer_0 rfl ?_
  refine x_iload_n C dX2_prefer_1 rfl ?_
  refine x_iload_n C dX2_prefer_2 rfl ?_
  refine x_aload_n C dX2_prefer_3 rfl ?_
  refine x_iload_n C dX2_prefer_4 rfl ?_
  refine x_callV C (c_X2_learnsWith hk _) kv_X2_learnsWith kl_X2_59 dX2_prefer_5 (vput_s hk) rfl rfl rfl rfl (Nat.le_of_ble_eq_true rfl) (Nat.le_of_ble_eq_true rfl) (Nat.le_of_ble_eq_true rfl) (Nat.le_of_ble_eq_true rfl) (Nat.le_of_ble_eq_true rfl) ?_
  refine x_callV C (c_X2_changeWeight hk hm hw _) kv_X2_changeWeight kl_X2_63 dX2_prefer_8 (vput_s hk) rfl rfl rfl rfl (Nat.le_of_ble_eq_true rfl) (Nat.le_of_ble_eq_true rfl) (Nat.le_of_ble_eq_true rfl) (Nat.le_of_ble_eq_true rfl) (Nat.le_of_ble_eq_true rfl) ?_
  refine x_iconst (v := 0) C dX2_prefer_11 (by decide) ?_
  refine x_istore C dX2_prefer_12 (by decide) rfl ?_
  refine xX.cl (hl 0 (by omega)) (congrArg _ prL_0.symm) (And.intro rfl (And.intro rfl (And.intro rfl (And.intro rfl (And.intro rfl (And.intro rfl trivial)))))) rfl
set_option maxRecDepth 100000 in
set_option maxHeartbeats 1000000 in
theorem c_X2_forgetOtherMeanings {l : Launch} {E : xEnv} {B N : Nat} {σ : Sg} {b k : Nat} {V : Vs} (hk : k < 8) {mm ww : Nat} (hm : mm < 6) (hw : ww < 14) (x : Int32) : xM l yX2_forgetOtherMeanings cX2_forgetOtherMeanings 5 none 3 67 0 0 E B [.ref (b + 2 + 2 * k), .int (nI mm), .int (nI ww), .int x] N (vput E σ b V) N (vput E σ b (fmS V k mm ww x)) none := by
  refine xM_of [some (.ref _), some (.int _), some (.int _), some (.int _), none] (by decide +kernel) (Nat.le_of_ble_eq_true rfl) rfl (fun k0 C Z => ?_)
  have hl : ∀ i, i ≤ 6 → xX k0 N 0 0 (vput E σ b (fmL V k mm ww x i)) 3 [some (.ref (b + 2 + 2 * k)), some (.int (nI mm)), some (.int (nI ww)), some (.int x), some (.int (nI i))] [] := by
    refine x_for 6 ?_ ?_
    · refine x_iload C dX2_forgetOtherMeanings_3 rfl ?_
      refine x_bipush (v := 6) C dX2_forgetOtherMeanings_5 (by decide) ?_
      refine x_ic_ge C 31 dX2_forgetOtherMeanings_7 (by decide) (fun _ => ?_) (fun h => absurd (nI_le (a := 6) (Nat.le_refl _) (by decide)) h)
      exact x_vret C Z dX2_forgetOtherMeanings_31 (Nat.le_of_ble_eq_true rfl) (Nat.le_of_ble_eq_true rfl) rfl rfl
    · intro i hi ih
      refine x_iload C dX2_forgetOtherMeanings_3 rfl ?_
      refine x_bipush (v := 6) C dX2_forgetOtherMeanings_5 (by decide) ?_
      refine x_ic_ge C 31 dX2_forgetOtherMeanings_7 (by decide) (fun h => absurd h (nI_ge (b := 6) hi (by decide))) (fun _ => ?_)
      refine x_iload C dX2_forgetOtherMeanings_10 rfl ?_
      refine x_iload_n C dX2_forgetOtherMeanings_12 rfl ?_
      refine x_ic_eq C 25 dX2_forgetOtherMeanings_13 (by decide) (fun h13 => ?_) (fun h13 => ?_)
      · refine x_iinc C dX2_forgetOtherMeanings_25 rfl (nI_inc _) (by decide) rfl ?_
        refine x_goto C 3 dX2_forgetOtherMeanings_28 (by decide) ?_
        refine xX.cl ih (by rw [(nI_eq (by omega) (by omega)).mp h13]; exact congrArg _ fmL_e) (And.intro rfl (And.intro rfl (And.intro rfl (And.intro rfl (And.intro rfl trivial))))) rfl
      · refine x_aload_n C dX2_forgetOtherMeanings_16 rfl ?_
        refine x_iload C dX2_forgetOtherMeanings_17 rfl ?_
        refine x_iload_n C dX2_forgetOtherMeanings_19 rfl ?_
        refine x_iload_n C dX2_forgetOtherMeanings_20 rfl ?_
        refine x_ineg C dX2_forgetOtherMeanings_21 ?_
        refine x_callV C (c_X2_changeWeight hk hi hw _) kv_X2_changeWeight kl_X2_63 dX2_forgetOtherMeanings_22 (vput_s hk) rfl rfl rfl rfl (Nat.le_of_ble_eq_true rfl) (Nat.le_of_ble_eq_true rfl) (Nat.le_of_ble_eq_true rfl) (Nat.le_of_ble_eq_true rfl) (Nat.le_of_ble_eq_true rfl) ?_
        refine x_iinc C dX2_forgetOtherMeanings_25 rfl (nI_inc _) (by decide) rfl ?_
        refine x_goto C 3 dX2_forgetOtherMeanings_28 (by decide) ?_
        refine xX.cl ih (congrArg _ (fmL_s hw (fun z => h13 (by rw [z])))) (And.intro rfl (And.intro rfl (And.intro rfl (And.intro rfl (And.intro rfl trivial))))) rfl
  refine x_iconst (v := 0) C dX2_forgetOtherMeanings_0 (by decide) ?_
  refine x_istore C dX2_forgetOtherMeanings_1 (by decide) rfl ?_
  refine xX.cl (hl 0 (by omega)) (congrArg _ fmL_0.symm) (And.intro rfl (And.intro rfl (And.intro rfl (And.intro rfl (And.intro rfl trivial))))) rfl
set_option maxRecDepth 100000 in
set_option maxHeartbeats 1000000 in
theorem c_X2_sumOfWeights {l : Launch} {E : xEnv} {B N : Nat} {σ : Sg} {b k : Nat} {V : Vs} (hk : k < 8) : xM l yX2_sumOfWeights cX2_sumOfWeights 6 (some .int) 0 0 0 0 E B [.ref (b + 2 + 2 * k)] N (vput E σ b V) N (vput E σ b V) (some (.int (smL (V k) 84))) := by
  refine xM_of [some (.ref _), none, none, none, none, none] (by decide +kernel) (Nat.le_of_ble_eq_true rfl) rfl (fun k0 C Z => ?_)
  have hl : ∀ i, i ≤ 84 → xX k0 N 0 0 (vput E σ b V) 13 [some (.ref (b + 2 + 2 * k)), some (.int (smL (V k) i)), some (.ref (b + 3 + 2 * k)), some (.int (nI 84)), some (.int (nI i)), none] [] := by
    refine x_for 84 ?_ ?_
    · refine x_iload C dX2_sumOfWeights_13 rfl ?_
      refine x_iload_n C dX2_sumOfWeights_15 rfl ?_
      refine x_ic_ge C 36 dX2_sumOfWeights_16 (by decide) (fun _ => ?_) (fun h => absurd (nI_le (a := 84) (Nat.le_refl _) (by decide)) h)
      refine x_iload_n C dX2_sumOfWeights_36 rfl ?_
      exact x_zret C Z dX2_sumOfWeights_37 rfl (Nat.le_of_ble_eq_true rfl) (Nat.le_of_ble_eq_true rfl) rfl rfl rfl
    · intro i hi ih
      refine x_iload C dX2_sumOfWeights_13 rfl ?_
      refine x_iload_n C dX2_sumOfWeights_15 rfl ?_
      refine x_ic_ge C 36 dX2_sumOfWeights_16 (by decide) (fun h => absurd h (nI_ge (b := 84) hi (by decide))) (fun _ => ?_)
      refine x_aload_n C dX2_sumOfWeights_19 rfl ?_
      refine x_iload C dX2_sumOfWeights_20 rfl ?_
      refine x_iald2 C (vput_w hk) rfl hi (by decide) dX2_sumOfWeights_22 ?_
      refine x_istore C dX2_sumOfWeights_23 (by decide) rfl ?_
      refine x_iload_n C dX2_sumOfWeights_25 rfl ?_
      refine x_iload C dX2_sumOfWeights_26 rfl ?_
      refine x_iadd C dX2_sumOfWeights_28 ?_
      refine x_istore_n C dX2_sumOfWeights_29 (by decide) rfl ?_
      refine x_iinc C dX2_sumOfWeights_30 rfl (nI_inc _) (by decide) rfl ?_
      refine x_goto C 13 dX2_sumOfWeights_33 (by decide) ?_
      refine xX.cl ih rfl (And.intro rfl (And.intro rfl (And.intro rfl (And.intro rfl (And.intro rfl trivial))))) rfl
  refine x_iconst (v := 0) C dX2_sumOfWeights_0 (by decide) ?_
  refine x_istore_n C dX2_sumOfWeights_1 (by decide) rfl ?_
  refine x_aload_n C dX2_sumOfWeights_2 rfl ?_
  refine x_get C kf_X2_9 (vput_s hk) rfl dX2_sumOfWeights_3 ?_
  refine x_astore_n C dX2_sumOfWeights_6 (by decide) rfl ?_
  refine x_aload_n C dX2_sumOfWeights_7 rfl ?_
  refine x_alen (t0 := 0) C (vput_w hk) rfl dX2_sumOfWeights_8 ?_
  refine x_istore_n C dX2_sumOfWeights_9 (by decide) rfl ?_
  refine x_iconst (v := 0) C dX2_sumOfWeights_10 (by decide) ?_
  refine x_istore C dX2_sumOfWeights_11 (by decide) rfl ?_
  refine xX.cl (hl 0 (by omega)) rfl (And.intro rfl (And.intro rfl (And.intro rfl (And.intro rfl (And.intro rfl trivial))))) rfl
set_option maxRecDepth 100000 in
set_option maxHeartbeats 1000000 in
theorem c_X2_countWords {l : Launch} {E : xEnv} {B N : Nat} {σ : Sg} {b k : Nat} {V : Vs} (hk : k < 8) : xM l yX2_countWords cX2_countWords 3 (some .int) 3 67 0 0 E B [.ref (b + 2 + 2 * k)] N (vput E σ b V) N (vput E σ b V) (some (.int (nI (cwN (V k) 6)))) := by
  refine xM_of [some (.ref _), none, none] (by decide +kernel) (Nat.le_of_ble_eq_true rfl) rfl (fun k0 C Z => ?_)
  have hl : ∀ i, i ≤ 6 → xX k0 N 0 0 (vput E σ b V) 4 [some (.ref (b + 2 + 2 * k)), some (.int (nI (cwN (V k) i))), some (.int (nI i))] [] := by
    refine x_for 6 ?_ ?_
    · refine x_iload_n C dX2_countWords_4 rfl ?_
      refine x_bipush (v := 6) C dX2_countWords_5 (by decide) ?_
      refine x_ic_ge C 29 dX2_countWords_7 (by decide) (fun _ => ?_) (fun h => absurd (nI_le (a := 6) (Nat.le_refl _) (by decide)) h)
      refine x_iload_n C dX2_countWords_29 rfl ?_
      exact x_zret C Z dX2_countWords_30 rfl (Nat.le_of_ble_eq_true rfl) (Nat.le_of_ble_eq_true rfl) rfl rfl rfl
    · intro i hi ih
      refine x_iload_n C dX2_countWords_4 rfl ?_
      refine x_bipush (v := 6) C dX2_countWords_5 (by decide) ?_
      refine x_ic_ge C 29 dX2_countWords_7 (by decide) (fun h => absurd h (nI_ge (b := 6) hi (by decide))) (fun _ => ?_)
      refine x_aload_n C dX2_countWords_10 rfl ?_
      refine x_iload_n C dX2_countWords_11 rfl ?_
      refine x_callV C (c_X2_wordFor hk hi) kv_X2_wordFor kl_X2_66 dX2_countWords_12 (vput_s hk) rfl rfl rfl rfl (Nat.le_of_ble_eq_true rfl) (Nat.le_of_ble_eq_true rfl) (Nat.le_of_ble_eq_true rfl) (Nat.le_of_ble_eq_true rfl) (Nat.le_of_ble_eq_true rfl) ?_
      refine x_bipush (v := (-6)) C dX2_countWords_15 (by decide) ?_
      refine x_ic_eq C 23 dX2_countWords_17 (by decide) (fun h17 => ?_) (fun h17 => ?_)
      · refine x_iinc C dX2_countWords_23 rfl (nI_inc _) (by decide) rfl ?_
        refine x_goto C 4 dX2_countWords_26 (by decide) ?_
        refine xX.cl ih rfl (And.intro rfl (And.intro ?_ (And.intro rfl trivial))) rfl
        rw [cwN, if_pos (wfS_6.mp h17)]; rfl
      · refine x_iinc C dX2_countWords_20 rfl (nI_inc _) (by decide) rfl ?_
        refine x_iinc C dX2_countWords_23 rfl (nI_inc _) (by decide) rfl ?_
        refine x_goto C 4 dX2_countWords_26 (by decide) ?_
        refine xX.cl ih rfl (And.intro rfl (And.intro ?_ (And.intro rfl trivial))) rfl
        rw [cwN, if_neg (fun z => h17 (wfS_6.mpr z))]; rfl
  refine x_iconst (v := 0) C dX2_countWords_0 (by decide) ?_
  refine x_istore_n C dX2_countWords_1 (by decide) rfl ?_
  refine x_iconst (v := 0) C dX2_countWords_2 (by decide) ?_
  refine x_istore_n C dX2_countWords_3 (by decide) rfl ?_
  refine xX.cl (hl 0 (by omega)) rfl (And.intro rfl (And.intro rfl (And.intro rfl trivial))) rfl
set_option maxRecDepth 100000 in
set_option maxHeartbeats 1000000 in
theorem c_X2_countConfusions {l : Launch} {E : xEnv} {B N : Nat} {σ : Sg} {b k : Nat} {V : Vs} (hk : k < 8) : xM l yX2_countConfusions cX2_countConfusions 5 (some .int) 3 67 0 0 E B [.ref (b + 2 + 2 * k)] N (vput E σ b V) N (vput E σ b V) (some (.int (nI (ccN (V k) 6)))) := by
  refine xM_of [some (.ref _), none, none, none, none] (by decide +kernel) (Nat.le_of_ble_eq_true rfl) rfl (fun k0 C Z => ?_)
  have hl : ∀ i, i ≤ 6 → xX k0 N 0 0 (vput E σ b V) 4 [some (.ref (b + 2 + 2 * k)), some (.int (nI (ccN (V k) i))), some (.int (nI i)), none, none] [] := by
    refine x_for 6 ?_ ?_
    · refine x_iload_n C dX2_countConfusions_4 rfl ?_
      refine x_bipush (v := 6) C dX2_countConfusions_5 (by decide) ?_
      refine x_ic_ge C 59 dX2_countConfusions_7 (by decide) (fun _ => ?_) (fun h => absurd (nI_le (a := 6) (Nat.le_refl _) (by decide)) h)
      refine x_iload_n C dX2_countConfusions_59 rfl ?_
      exact x_zret C Z dX2_countConfusions_60 rfl (Nat.le_of_ble_eq_true rfl) (Nat.le_of_ble_eq_true rfl) rfl rfl rfl
    · intro i hi ih
      have hl2 : ∀ t, t ≤ (5 - i) → xX k0 N 0 0 (vput E σ b V) 21 [some (.ref (b + 2 + 2 * k)), some (.int (nI (ccN (V k) i + ccI (V k) i t))), some (.int (nI i)), some (.int (oI (wfS (V k) i))), some (.int (nI (i + 1 + t)))] [] := by
        refine x_for (5 - i) ?_ ?_
        · refine x_iload C dX2_countConfusions_21 rfl ?_
          refine x_bipush (v := 6) C dX2_countConfusions_23 (by decide) ?_
          refine x_ic_ge C 53 dX2_countConfusions_25 (by decide) (fun _ => ?_) (fun h => absurd (nI_le (a := 6) (by omega) (by omega)) h)
          refine x_iinc C dX2_countConfusions_53 rfl (nI_inc _) (by decide) rfl ?_
          refine x_goto C 4 dX2_countConfusions_56 (by decide) ?_
          refine xX.cl ih rfl (And.intro rfl (And.intro rfl (And.intro rfl trivial))) rfl
        · intro t hi2 ih2
          refine x_iload C dX2_countConfusions_21 rfl ?_
          refine x_bipush (v := 6) C dX2_countConfusions_23 (by decide) ?_
          refine x_ic_ge C 53 dX2_countConfusions_25 (by decide) (fun h => absurd h (nI_ge (b := 6) (by omega) (by decide))) (fun _ => ?_)
          refine x_iload_n C dX2_countConfusions_28 rfl ?_
          refine x_bipush (v := (-6)) C dX2_countConfusions_29 (by decide) ?_
          refine x_ic_eq C 47 dX2_countConfusions_31 (by decide) (fun h31 => ?_) (fun h31 => ?_)
          · refine x_iinc C dX2_countConfusions_47 rfl (nI_inc _) (by decide) rfl ?_
            refine x_goto C 21 dX2_countConfusions_50 (by decide) ?_
            refine xX.cl ih2 rfl (And.intro rfl (And.intro ?_ (And.intro rfl (And.intro rfl (And.intro rfl trivial))))) rfl
            rw [ccI, if_neg (fun z => z.1 (wfS_6.mp h31))]; rfl
          · refine x_iload_n C dX2_countConfusions_34 rfl ?_
            refine x_aload_n C dX2_countConfusions_35 rfl ?_
            refine x_iload C dX2_countConfusions_36 rfl ?_
            refine x_callV C (c_X2_wordFor hk (show i + 1 + t < 6 by omega)) kv_X2_wordFor kl_X2_66 dX2_countConfusions_38 (vput_s hk) rfl rfl rfl rfl (Nat.le_of_ble_eq_true rfl) (Nat.le_of_ble_eq_true rfl) (Nat.le_of_ble_eq_true rfl) (Nat.le_of_ble_eq_true rfl) (Nat.le_of_ble_eq_true rfl) ?_
            refine x_ic_ne C 47 dX2_countConfusions_41 (by decide) (fun h41 => ?_) (fun h41 => ?_)
            · refine x_iinc C dX2_countConfusions_47 rfl (nI_inc _) (by decide) rfl ?_
              refine x_goto C 21 dX2_countConfusions_50 (by decide) ?_
              refine xX.cl ih2 rfl (And.intro rfl (And.intro ?_ (And.intro rfl (And.intro rfl (And.intro rfl trivial))))) rfl
              rw [ccI, if_neg (fun z => h41 (wfS_ij.mpr z.2))]; rfl
            · refine x_iinc C dX2_countConfusions_44 rfl (nI_inc _) (by decide) rfl ?_
              refine x_iinc C dX2_countConfusions_47 rfl (nI_inc _) (by decide) rfl ?_
              refine x_goto C 21 dX2_countConfusions_50 (by decide) ?_
              refine xX.cl ih2 rfl (And.intro rfl (And.intro ?_ (And.intro rfl (And.intro rfl (And.intro rfl trivial))))) rfl
              rw [ccI, if_pos ⟨fun z => h31 (wfS_6.mpr z), wfS_ij.mp h41⟩]; rfl
      refine x_iload_n C dX2_countConfusions_4 rfl ?_
      refine x_bipush (v := 6) C dX2_countConfusions_5 (by decide) ?_
      refine x_ic_ge C 59 dX2_countConfusions_7 (by decide) (fun h => absurd h (nI_ge (b := 6) hi (by decide))) (fun _ => ?_)
      refine x_aload_n C dX2_countConfusions_10 rfl ?_
      refine x_iload_n C dX2_countConfusions_11 rfl ?_
      refine x_callV C (c_X2_wordFor hk hi) kv_X2_wordFor kl_X2_66 dX2_countConfusions_12 (vput_s hk) rfl rfl rfl rfl (Nat.le_of_ble_eq_true rfl) (Nat.le_of_ble_eq_true rfl) (Nat.le_of_ble_eq_true rfl) (Nat.le_of_ble_eq_true rfl) (Nat.le_of_ble_eq_true rfl) ?_
      refine x_istore_n C dX2_countConfusions_15 (by decide) rfl ?_
      refine x_iload_n C dX2_countConfusions_16 rfl ?_
      refine x_iconst (v := 1) C dX2_countConfusions_17 (by decide) ?_
      refine x_iadd C dX2_countConfusions_18 ?_
      refine x_istore C dX2_countConfusions_19 (by decide) rfl ?_
      refine xX.cl (hl2 0 (by omega)) rfl (And.intro rfl (And.intro rfl (And.intro rfl (And.intro rfl (And.intro (congrArg (fun z => some (some (Value.int z))) (nI_1 i)) trivial))))) rfl
  refine x_iconst (v := 0) C dX2_countConfusions_0 (by decide) ?_
  refine x_istore_n C dX2_countConfusions_1 (by decide) rfl ?_
  refine x_iconst (v := 0) C dX2_countConfusions_2 (by decide) ?_
  refine x_istore_n C dX2_countConfusions_3 (by decide) rfl ?_
  refine xX.cl (hl 0 (by omega)) rfl (And.intro rfl (And.intro rfl (And.intro rfl trivial))) rfl
set_option maxRecDepth 100000 in
set_option maxHeartbeats 1000000 in
theorem c_X2_beginLife_none {l : Launch} {E : xEnv} {B N : Nat} {σ : Sg} {b k : Nat} {V : Vs} (hk : k < 8) (sh : Int32) : xM l yX2_beginLife cX2_beginLife 6 none 2 44 0 0 E B [.ref (b + 2 + 2 * k), .null, .int sh] N (vput E σ b V) N (vput E σ b (blS V k (none : Option Nat) sh)) none := by
  refine xM_of [some (.ref _), some .null, some (.int _), none, none, none] (by decide +kernel) (Nat.le_of_ble_eq_true rfl) rfl (fun k0 C Z => ?_)
  have hl : ∀ i, i ≤ 6 → xX k0 N 0 0 (vput E σ b (blL V k (none : Option Nat) sh (14 * i))) 12 [some (.ref (b + 2 + 2 * k)), some .null, some (.int sh), some (.int (nI i)), none, none] [] := by
    refine x_for 6 ?_ ?_
    · refine x_iload_n C dX2_beginLife_12 rfl ?_
      refine x_bipush (v := 6) C dX2_beginLife_13 (by decide) ?_
      refine x_ic_ge C 71 dX2_beginLife_15 (by decide) (fun _ => ?_) (fun h => absurd (nI_le (a := 6) (Nat.le_refl _) (by decide)) h)
      exact x_vret C Z dX2_beginLife_71 (Nat.le_of_ble_eq_true rfl) (Nat.le_of_ble_eq_true rfl) rfl rfl
    · intro i hi ih
      have hl2 : ∀ j, j ≤ 14 → xX k0 N 0 0 (vput E σ b (blL V k (none : Option Nat) sh (14 * i + j))) 21 [some (.ref (b + 2 + 2 * k)), some .null, some (.int sh), some (.int (nI i)), some (.int (nI j)), none] [] := by
        refine x_for 14 ?_ ?_
        · refine x_iload C dX2_beginLife_21 rfl ?_
          refine x_bipush (v := 14) C dX2_beginLife_23 (by decide) ?_
          refine x_ic_ge C 65 dX2_beginLife_25 (by decide) (fun _ => ?_) (fun h => absurd (nI_le (a := 14) (Nat.le_refl _) (by decide)) h)
          refine x_iinc C dX2_beginLife_65 rfl (nI_inc _) (by decide) rfl ?_
          refine x_goto C 12 dX2_beginLife_68 (by decide) ?_
          refine xX.cl ih rfl (And.intro rfl (And.intro rfl (And.intro rfl (And.intro rfl trivial)))) rfl
        · intro j hi2 ih2
          refine x_iload C dX2_beginLife_21 rfl ?_
          refine x_bipush (v := 14) C dX2_beginLife_23 (by decide) ?_
          refine x_ic_ge C 65 dX2_beginLife_25 (by decide) (fun h => absurd h (nI_ge (b := 14) hi2 (by decide))) (fun _ => ?_)
          refine x_aload_nN C dX2_beginLife_28 rfl ?_
          refine x_ifnnN C dX2_beginLife_29 ?_
          refine x_iconst (v := 0) C dX2_beginLife_32 (by decide) ?_
          refine x_goto C 48 dX2_beginLife_33 (by decide) ?_
          refine x_istore C dX2_beginLife_48 (by decide) rfl ?_
          refine x_aload_n C dX2_beginLife_50 rfl ?_
          refine x_iload_n C dX2_beginLife_51 rfl ?_
          refine x_iload C dX2_beginLife_52 rfl ?_
          refine x_iload C dX2_beginLife_54 rfl ?_
          refine x_callV C (c_X2_putWeight hk hi hi2 _) kv_X2_putWeight kl_X2_40 dX2_beginLife_56 (vput_s hk) rfl rfl rfl rfl (Nat.le_of_ble_eq_true rfl) (Nat.le_of_ble_eq_true rfl) (Nat.le_of_ble_eq_true rfl) (Nat.le_of_ble_eq_true rfl) (Nat.le_of_ble_eq_true rfl) ?_
          refine x_iinc C dX2_beginLife_59 rfl (nI_inc _) (by decide) rfl ?_
          refine x_goto C 21 dX2_beginLife_62 (by decide) ?_
          refine xX.cl ih2 (congrArg _ (blL_s hk)) (And.intro rfl (And.intro rfl (And.intro rfl (And.intro rfl (And.intro rfl trivial))))) rfl
      refine x_iload_n C dX2_beginLife_12 rfl ?_
      refine x_bipush (v := 6) C dX2_beginLife_13 (by decide) ?_
      refine x_ic_ge C 71 dX2_beginLife_15 (by decide) (fun h => absurd h (nI_ge (b := 6) hi (by decide))) (fun _ => ?_)
      refine x_iconst (v := 0) C dX2_beginLife_18 (by decide) ?_
      refine x_istore C dX2_beginLife_19 (by decide) rfl ?_
      refine xX.cl (hl2 0 (by omega)) rfl (And.intro rfl (And.intro rfl (And.intro rfl (And.intro rfl (And.intro rfl trivial))))) rfl
  refine x_aload_n C dX2_beginLife_0 rfl ?_
  refine x_iconst (v := 0) C dX2_beginLife_1 (by decide) ?_
  refine x_put (ty := .int) C kf_X2_25 (vput_s hk) rfl (by decide +kernel) rfl rfl (Nat.le_of_ble_eq_true rfl) (vput_a hk _) dX2_beginLife_2 ?_
  refine x_aload_n C dX2_beginLife_5 rfl ?_
  refine x_iconst (v := 0) C dX2_beginLife_6 (by decide) ?_
  refine x_put (ty := .int) C kf_X2_29 (vput_s hk) rfl (by decide +kernel) rfl rfl (Nat.le_of_ble_eq_true rfl) (vput_m hk _) dX2_beginLife_7 ?_
  refine x_iconst (v := 0) C dX2_beginLife_10 (by decide) ?_
  refine x_istore_n C dX2_beginLife_11 (by decide) rfl ?_
  refine xX.cl (hl 0 (by omega)) (congrArg _ blL_0) (And.intro rfl (And.intro rfl (And.intro rfl (And.intro rfl trivial)))) rfl
set_option maxRecDepth 100000 in
set_option maxHeartbeats 1000000 in
theorem c_X2_beginLife_some {l : Launch} {E : xEnv} {B N : Nat} {σ : Sg} {b k : Nat} {V : Vs} (hk : k < 8) {t : Nat} (ht : t < 8) (hne : t ≠ k) (sh : Int32) : xM l yX2_beginLife cX2_beginLife 6 none 2 44 0 0 E B [.ref (b + 2 + 2 * k), .ref (b + 2 + 2 * t), .int sh] N (vput E σ b V) N (vput E σ b (blS V k (some t) sh)) none := by
  refine xM_of [some (.ref _), some (.ref _), some (.int _), none, none, none] (by decide +kernel) (Nat.le_of_ble_eq_true rfl) rfl (fun k0 C Z => ?_)
  have hl : ∀ i, i ≤ 6 → xX k0 N 0 0 (vput E σ b (blL V k (some t) sh (14 * i))) 12 [some (.ref (b + 2 + 2 * k)), some (.ref (b + 2 + 2 * t)), some (.int sh), some (.int (nI i)), none, none] [] := by
    refine x_for 6 ?_ ?_
    · refine x_iload_n C dX2_beginLife_12 rfl ?_
      refine x_bipush (v := 6) C dX2_beginLife_13 (by decide) ?_
      refine x_ic_ge C 71 dX2_beginLife_15 (by decide) (fun _ => ?_) (fun h => absurd (nI_le (a := 6) (Nat.le_refl _) (by decide)) h)
      exact x_vret C Z dX2_beginLife_71 (Nat.le_of_ble_eq_true rfl) (Nat.le_of_ble_eq_true rfl) rfl rfl
    · intro i hi ih
      have hl2 : ∀ j, j ≤ 14 → xX k0 N 0 0 (vput E σ b (blL V k (some t) sh (14 * i + j))) 21 [some (.ref (b + 2 + 2 * k)), some (.ref (b + 2 + 2 * t)), some (.int sh), some (.int (nI i)), some (.int (nI j)), none] [] := by
        refine x_for 14 ?_ ?_
        · refine x_iload C dX2_beginLife_21 rfl ?_
          refine x_bipush (v := 14) C dX2_beginLife_23 (by decide) ?_
          refine x_ic_ge C 65 dX2_beginLife_25 (by decide) (fun _ => ?_) (fun h => absurd (nI_le (a := 14) (Nat.le_refl _) (by decide)) h)
          refine x_iinc C dX2_beginLife_65 rfl (nI_inc _) (by decide) rfl ?_
          refine x_goto C 12 dX2_beginLife_68 (by decide) ?_
          refine xX.cl ih rfl (And.intro rfl (And.intro rfl (And.intro rfl (And.intro rfl trivial)))) rfl
        · intro j hi2 ih2
          refine x_iload C dX2_beginLife_21 rfl ?_
          refine x_bipush (v := 14) C dX2_beginLife_23 (by decide) ?_
          refine x_ic_ge C 65 dX2_beginLife_25 (by decide) (fun h => absurd h (nI_ge (b := 14) hi2 (by decide))) (fun _ => ?_)
          refine x_aload_n C dX2_beginLife_28 rfl ?_
          refine x_ifnn C 36 dX2_beginLife_29 (by decide) ?_
          refine x_aload_n C dX2_beginLife_36 rfl ?_
          refine x_iload_n C dX2_beginLife_37 rfl ?_
          refine x_iload C dX2_beginLife_38 rfl ?_
          refine x_callV C (c_X2_weightOf ht hi hi2) kv_X2_weightOf kl_X2_36 dX2_beginLife_40 (vput_s ht) rfl rfl rfl rfl (Nat.le_of_ble_eq_true rfl) (Nat.le_of_ble_eq_true rfl) (Nat.le_of_ble_eq_true rfl) (Nat.le_of_ble_eq_true rfl) (Nat.le_of_ble_eq_true rfl) ?_
          refine x_iload_n C dX2_beginLife_43 rfl ?_
          refine x_imul C dX2_beginLife_44 ?_
          refine x_bipush (v := 100) C dX2_beginLife_45 (by decide) ?_
          refine x_idiv C dX2_beginLife_47 (by decide) ?_
          refine x_istore C dX2_beginLife_48 (by decide) rfl ?_
          refine x_aload_n C dX2_beginLife_50 rfl ?_
          refine x_iload_n C dX2_beginLife_51 rfl ?_
          refine x_iload C dX2_beginLife_52 rfl ?_
          refine x_iload C dX2_beginLife_54 rfl ?_
          refine x_callV C (c_X2_putWeight hk hi hi2 _) kv_X2_putWeight kl_X2_40 dX2_beginLife_56 (vput_s hk) rfl rfl rfl rfl (Nat.le_of_ble_eq_true rfl) (Nat.le_of_ble_eq_true rfl) (Nat.le_of_ble_eq_true rfl) (Nat.le_of_ble_eq_true rfl) (Nat.le_of_ble_eq_true rfl) ?_
          refine x_iinc C dX2_beginLife_59 rfl (nI_inc _) (by decide) rfl ?_
          refine x_goto C 21 dX2_beginLife_62 (by decide) ?_
          refine xX.cl ih2 (by rw [blL_t ht hk hne]; exact congrArg _ (blL_s hk)) (And.intro rfl (And.intro rfl (And.intro rfl (And.intro rfl (And.intro rfl trivial))))) rfl
      refine x_iload_n C dX2_beginLife_12 rfl ?_
      refine x_bipush (v := 6) C dX2_beginLife_13 (by decide) ?_
      refine x_ic_ge C 71 dX2_beginLife_15 (by decide) (fun h => absurd h (nI_ge (b := 6) hi (by decide))) (fun _ => ?_)
      refine x_iconst (v := 0) C dX2_beginLife_18 (by decide) ?_
      refine x_istore C dX2_beginLife_19 (by decide) rfl ?_
      refine xX.cl (hl2 0 (by omega)) rfl (And.intro rfl (And.intro rfl (And.intro rfl (And.intro rfl (And.intro rfl trivial))))) rfl
  refine x_aload_n C dX2_beginLife_0 rfl ?_
  refine x_iconst (v := 0) C dX2_beginLife_1 (by decide) ?_
  refine x_put (ty := .int) C kf_X2_25 (vput_s hk) rfl (by decide +kernel) rfl rfl (Nat.le_of_ble_eq_true rfl) (vput_a hk _) dX2_beginLife_2 ?_
  refine x_aload_n C dX2_beginLife_5 rfl ?_
  refine x_iconst (v := 0) C dX2_beginLife_6 (by decide) ?_
  refine x_put (ty := .int) C kf_X2_29 (vput_s hk) rfl (by decide +kernel) rfl rfl (Nat.le_of_ble_eq_true rfl) (vput_m hk _) dX2_beginLife_7 ?_
  refine x_iconst (v := 0) C dX2_beginLife_10 (by decide) ?_
  refine x_istore_n C dX2_beginLife_11 (by decide) rfl ?_
  refine xX.cl (hl 0 (by omega)) (congrArg _ blL_0) (And.intro rfl (And.intro rfl (And.intro rfl (And.intro rfl trivial)))) rfl
set_option maxRecDepth 100000 in
set_option maxHeartbeats 1000000 in
theorem c_X2_arrive {l : Launch} {E : xEnv} {B N : Nat} {σ : Sg} {b k : Nat} {V : Vs} (hk : k < 8) : xM l yX2_arrive cX2_arrive 1 none 3 69 0 0 E B [.ref (b + 2 + 2 * k)] N (vput E σ b V) N (vput E σ b (blS (up2 V 10 k 1) k none 0)) none := by
  refine xM_of [some (.ref _)] (by decide +kernel) (Nat.le_of_ble_eq_true rfl) rfl (fun k0 C Z => ?_)
  refine x_aload_n C dX2_arrive_0 rfl ?_
  refine x_iconst (v := 1) C dX2_arrive_1 (by decide) ?_
  refine x_put (ty := .boolean) C kf_X2_21 (vput_s hk) rfl (by decide +kernel) rfl rfl (Nat.le_of_ble_eq_true rfl) (vput_p1 hk) dX2_arrive_2 ?_
  refine x_aload_n C dX2_arrive_5 rfl ?_
  refine x_null C dX2_arrive_6 ?_
  refine x_iconst (v := 0) C dX2_arrive_7 (by decide) ?_
  refine x_callV C (c_X2_beginLife_none hk _) kv_X2_beginLife kl_X2_32 dX2_arrive_8 (vput_s hk) rfl rfl rfl rfl (Nat.le_of_ble_eq_true rfl) (Nat.le_of_ble_eq_true rfl) (Nat.le_of_ble_eq_true rfl) (Nat.le_of_ble_eq_true rfl) (Nat.le_of_ble_eq_true rfl) ?_
  exact x_vret C Z dX2_arrive_11 (Nat.le_of_ble_eq_true rfl) (Nat.le_of_ble_eq_true rfl) rfl rfl
set_option maxRecDepth 100000 in
set_option maxHeartbeats 1000000 in
theorem c_X2_leave {l : Launch} {E : xEnv} {B N : Nat} {σ : Sg} {b k : Nat} {V : Vs} (hk : k < 8) : xM l yX2_leave cX2_leave 1 none 0 0 0 0 E B [.ref (b + 2 + 2 * k)] N (vput E σ b V) N (vput E σ b (up2 V 10 k 0)) none := by
  refine xM_of [some (.ref _)] (by decide +kernel) (Nat.le_of_ble_eq_true rfl) rfl (fun k0 C Z => ?_)
  refine x_aload_n C dX2_leave_0 rfl ?_
  refine x_iconst (v := 0) C dX2_leave_1 (by decide) ?_
  refine x_put (ty := .boolean) C kf_X2_21 (vput_s hk) rfl (by decide +kernel) rfl rfl (Nat.le_of_ble_eq_true rfl) (vput_p0 hk) dX2_leave_2 ?_
  exact x_vret C Z dX2_leave_5 (Nat.le_of_ble_eq_true rfl) (Nat.le_of_ble_eq_true rfl) rfl rfl
set_option maxRecDepth 100000 in
set_option maxHeartbeats 1000000 in
theorem c_X2_copyFrom {l : Launch} {E : xEnv} {B N : Nat} {σ : Sg} {b c k : Nat} {V W : Vs} (hk : k < 8) (hd : b + 20 ≤ c ∨ c + 20 ≤ b) : xM l yX2_copyFrom cX2_copyFrom 2 none 1 32 0 0 E B [.ref (b + 2 + 2 * k), .ref (c + 2 + 2 * k)] N (vput E (vput E σ b V) c W) N (vput E (vput E σ b (cpK V W k)) c W) none := by
  refine xM_of [some (.ref _), some (.ref _)] (by decide +kernel) (Nat.le_of_ble_eq_true rfl) rfl (fun k0 C Z => ?_)
  refine x_aload_n C dX2_copyFrom_0 rfl ?_
  refine x_get C kf_X2_9 (vput_s hk) rfl dX2_copyFrom_1 ?_
  refine x_iconst (v := 0) C dX2_copyFrom_4 (by decide) ?_
  refine x_aload_n C dX2_copyFrom_5 rfl ?_
  refine x_get C kf_X2_9 (by rw [vput_out (by omega)]; exact vput_s hk) rfl dX2_copyFrom_6 ?_
  refine x_iconst (v := 0) C dX2_copyFrom_9 (by decide) ?_
  refine x_bipush (v := 84) C dX2_copyFrom_10 (by decide) ?_
  refine x_copy C kl_X2_15 kz_native kz_static ki_sys (vput_w hk) (by rw [vput_out (by omega)]; exact vput_w hk) (by omega) (by decide) (by decide) (by decide) (by decide) (by decide) (g2 := W k) cpy84 (Nat.le_of_ble_eq_true rfl) (Nat.le_of_ble_eq_true rfl) (by rw [xup_o (by omega), vput_rowk hk]) dX2_copyFrom_12 ?_
  refine x_aload_n C dX2_copyFrom_15 rfl ?_
  refine x_aload_n C dX2_copyFrom_16 rfl ?_
  refine x_get C kf_X2_21 (vput_s hk) rfl dX2_copyFrom_17 ?_
  refine x_put (ty := .boolean) C kf_X2_21 (by rw [vput_out (by omega)]; exact vput_s hk) rfl (by decide +kernel) (xfl_nar _) (xfl_fit _) (Nat.le_of_ble_eq_true rfl) (by rw [xup_o (by omega), vput_p hk]) dX2_copyFrom_20 ?_
  refine x_aload_n C dX2_copyFrom_23 rfl ?_
  refine x_aload_n C dX2_copyFrom_24 rfl ?_
  refine x_get C kf_X2_25 (vput_s hk) rfl dX2_copyFrom_25 ?_
  refine x_put (ty := .int) C kf_X2_25 (by rw [vput_out (by omega)]; exact vput_s hk) rfl (by decide +kernel) rfl rfl (Nat.le_of_ble_eq_true rfl) (by rw [xup_o (by omega), vput_a hk]) dX2_copyFrom_28 ?_
  refine x_aload_n C dX2_copyFrom_31 rfl ?_
  refine x_aload_n C dX2_copyFrom_32 rfl ?_
  refine x_get C kf_X2_29 (vput_s hk) rfl dX2_copyFrom_33 ?_
  refine x_put (ty := .int) C kf_X2_29 (by rw [vput_out (by omega)]; exact vput_s hk) rfl (by decide +kernel) rfl rfl (Nat.le_of_ble_eq_true rfl) (by rw [xup_o (by omega), vput_m hk]) dX2_copyFrom_36 ?_
  exact x_vret C Z dX2_copyFrom_39 (Nat.le_of_ble_eq_true rfl) (Nat.le_of_ble_eq_true rfl) rfl rfl
end
section
/-! village: counts, draws, meetings, years -/
def cpV (V W : Vs) : Vs := up2 (up2 (up2 (up2 (up2 (upr (cpL V W 8) 8 (W 8)) 9 0 (W 9 0)) 9 1 (W 9 1)) 9 2 (W 9 2)) 9 3 (W 9 3)) 9 4 (W 9 4)
def cnN (P : Fn) : Nat → Nat
  | 0 => 0
  | n + 1 => cnN P n + (if P n = 1 then 1 else 0)
def cxN (P : Fn) (lo : Int32) : Nat → Nat
  | 0 => 0
  | n + 1 => cxN P lo n + (if P n = 1 ∧ ¬ nI n = lo then 1 else 0)
theorem cxN_le {P : Fn} {lo : Int32} : ∀ n, cxN P lo n ≤ n
  | 0 => Nat.le_refl _
  | n + 1 => by
    have := cxN_le (P := P) (lo := lo) n
    unfold cxN
    split <;> omega
theorem cnN_le {P : Fn} : ∀ n, cnN P n ≤ n
  | 0 => Nat.le_refl _
  | n + 1 => by
    have := cnN_le (P := P) n
    unfold cnN
    split <;> omega
/-- the speaker with p others before, one of them left out -/
def kS (P : Fn) (lo : Int32) (p : Nat) : Nat := ((List.range 8).find? (fun q => decide (P q = 1 ∧ ¬ nI q = lo ∧ cxN P lo q = p))).getD 0
theorem kS_ex {P : Fn} {lo : Int32} {p : Nat} : ∀ n, p < cxN P lo n → ∃ q, q < n ∧ P q = 1 ∧ ¬ nI q = lo ∧ cxN P lo q = p
  | 0, h => absurd h (Nat.not_lt_zero _)
  | n + 1, h => by
    unfold cxN at h
    by_cases hc : P n = 1 ∧ ¬ nI n = lo
    · rw [if_pos hc] at h
      by_cases he : cxN P lo n = p
      · exact ⟨n, Nat.lt_succ_self n, hc.1, hc.2, he⟩
      · obtain ⟨q, h1, h2⟩ := kS_ex n (show p < cxN P lo n by omega)
        exact ⟨q, by omega, h2⟩
    · rw [if_neg hc, Nat.add_zero] at h
      obtain ⟨q, h1, h2⟩ := kS_ex n h
      exact ⟨q, by omega, h2⟩
theorem kS_ok {P : Fn} {lo : Int32} {p : Nat} (h : p < cxN P lo 8) : kS P lo p < 8 ∧ P (kS P lo p) = 1 ∧ ¬ nI (kS P lo p) = lo ∧ cxN P lo (kS P lo p) = p := by
  unfold kS
  cases hf : (List.range 8).find? (fun q => decide (P q = 1 ∧ ¬ nI q = lo ∧ cxN P lo q = p)) with
  | none =>
    obtain ⟨q, h1, h2⟩ := kS_ex 8 h
    have := List.find?_eq_none.mp hf q (List.mem_range.mpr h1)
    exact absurd (decide_eq_true h2) this
  | some q =>
    have h1 := List.find?_some hf
    have h2 := List.mem_range.mp (List.mem_of_find?_eq_some hf)
    exact ⟨h2, of_decide_eq_true h1⟩
/-- the seed -/
def sok (V : Vs) : Prop := ∃ q, q < 65536 ∧ V 9 0 = nI q
def sdN (x : Int32) : Nat := (25173 * x.toNatClampNeg + 13849) % 65536
def drV (V : Vs) : Vs := up2 V 9 0 (nI (sdN (V 9 0)))
def dvN (V : Vs) (n : Nat) : Nat := sdN (V 9 0) / 16 % n
theorem sdN_lt {x : Int32} : sdN x < 65536 := Nat.mod_lt _ (by decide)
theorem drV_ok {V : Vs} : sok (drV V) := ⟨_, sdN_lt, by rw [drV, up2_s]⟩
theorem dr_e {V : Vs} (h : sok V) : 25173 * V 9 0 + 13849 - (25173 * V 9 0 + 13849) / 65536 * 65536 = nI (sdN (V 9 0)) := by
  obtain ⟨q, hq, e⟩ := h
  unfold sdN
  rw [e, nI_clamp (by omega), show (25173 : Int32) = nI 25173 from rfl, show (13849 : Int32) = nI 13849 from rfl, show (65536 : Int32) = nI 65536 from rfl, pk_mul, nI_add, pk_rem (by omega) (by decide) (by decide)]
theorem dv_e {x n : Nat} (hx : x < 65536) (h0 : 0 < n) (hn : n < 2 ^ 31) : nI x / 16 - nI x / 16 / nI n * nI n = nI (x / 16 % n) := by
  rw [show (16 : Int32) = nI 16 from rfl, pk_div (by omega) (by decide) (by decide), pk_rem (by omega) h0 hn]
theorem dvN_lt {V : Vs} {n : Nat} (h : 0 < n) : dvN V n < n := Nat.mod_lt _ h
/-- a meeting: what is said, what is heard -/
def wdN (V : Vs) (k m : Nat) : Vs × Nat := match wfS (V k) m with
  | none => (drV V, dvN V 14)
  | some w => (V, w)
def hdN (V : Vs) (k w : Nat) : Vs × Nat := match haS (V k) w with
  | none => (drV V, dvN V 6)
  | some m => (V, m)
def mc1 (V : Vs) : Vs := up2 V 9 1 (V 9 1 + 1)
def mck (V : Vs) (k : Nat) : Vs := up2 V 12 k (V 12 k + 1)
def mtC (V : Vs) (k1 k2 : Nat) : Vs := mck (mck (mc1 V) k1) k2
def mtG (V : Vs) : Vs := up2 V 9 2 (V 9 2 + 1)
def mtA (V : Vs) (k1 k2 m w : Nat) : Vs := prS V k1 m w (lnS (V 11 k1) (V 8 0)) (V 8 1)
def mtS (V : Vs) (k1 k2 m w : Nat) (x : Int32) : Vs := fmS (prS (prS (mtG V) k1 m w (lnS (mtG V 11 k1) (mtG V 8 0)) x) k2 m w (lnS (prS (mtG V) k1 m w (lnS (mtG V 11 k1) (mtG V 8 0)) x 11 k2) (prS (mtG V) k1 m w (lnS (mtG V 11 k1) (mtG V 8 0)) x 8 0)) x) k2 m w x
def mtN (V : Vs) (k1 k2 m w h : Nat) (x : Int32) : Vs := chS (chS (chS V k1 m w (-x)) k2 m w 1) k2 h w (-x)
def mtF (V : Vs) (k1 k2 m w h : Nat) : Vs := if h = m then mtS (mtC V k1 k2) k1 k2 m w (mtC V k1 k2 8 1) else mtN (mtC V k1 k2) k1 k2 m w h (mtC V k1 k2 8 1)
/-- the village, the word and the meaning as which it is heard, ahead of what is learnt; and the village behind it -/
def mt1 (V : Vs) (k1 k2 m : Nat) : Vs × Nat × Nat := ((hdN (wdN V k1 m).1 k2 (wdN V k1 m).2).1, (wdN V k1 m).2, (hdN (wdN V k1 m).1 k2 (wdN V k1 m).2).2)
def mtV (V : Vs) (k1 k2 m : Nat) : Vs := mtF (mt1 V k1 k2 m).1 k1 k2 m (mt1 V k1 k2 m).2.1 (mt1 V k1 k2 m).2.2
theorem wdN_lt {V : Vs} {k m : Nat} : (wdN V k m).2 < 14 := by
  unfold wdN
  split
  · exact dvN_lt (by decide)
  · rename_i w h; exact wfS_in h
theorem hdN_lt {V : Vs} {k w : Nat} : (hdN V k w).2 < 6 := by
  unfold hdN
  split
  · exact dvN_lt (by decide)
  · rename_i m h; exact haS_in h
theorem wdN_ok {V : Vs} {k m : Nat} (h : sok V) : sok (wdN V k m).1 := by
  unfold wdN
  split
  · exact drV_ok
  · exact h
theorem hdN_ok {V : Vs} {k m : Nat} (h : sok V) : sok (hdN V k m).1 := by
  unfold hdN
  split
  · exact drV_ok
  · exact h
/-- one chance meeting in a village of c speakers -/
def c1S (V : Vs) (c : Nat) : Nat := kS (V 10) (-1) (dvN V c)
def c2S (V : Vs) (c : Nat) : Nat := kS (V 10) (nI (c1S V c)) (dvN (drV V) (c - 1))
def cmN (V : Vs) : Nat := dvN (drV (drV V)) 6
def chT (V : Vs) (c : Nat) : Vs := mtV (drV (drV (drV V))) (c1S V c) (c2S V c) (cmN V)
def chL (V : Vs) (c : Nat) : Nat → Vs
  | 0 => V
  | n + 1 => chT (chL V c n) c
/-- years -/
def agL (V : Vs) (i : Nat) : Vs := fun r j => if r = 11 ∧ j < i ∧ V 10 j = 1 then V r j + 1 else V r j
theorem agL_0 {V : Vs} : agL V 0 = V := by
  funext r j
  unfold agL
  rw [if_neg (by omega)]
theorem agL_t {V : Vs} {i : Nat} (h : V 10 i = 1) : up2 (agL V i) 11 i (agL V i 11 i + 1) = agL V (i + 1) := by
  funext r j
  by_cases h1 : r = 11 ∧ j = i
  · obtain ⟨rfl, rfl⟩ := h1
    rw [up2_s]
    unfold agL
    rw [if_neg (by omega), if_pos ⟨rfl, by omega, h⟩]
  · rw [up2_n h1]
    unfold agL
    by_cases h2 : r = 11 ∧ j < i ∧ V 10 j = 1
    · rw [if_pos h2, if_pos ⟨h2.1, by omega, h2.2.2⟩]
    · rw [if_neg h2, if_neg (fun z => h2 ⟨z.1, by omega, z.2.2⟩)]
theorem agL_f {V : Vs} {i : Nat} (h : ¬ V 10 i = 1) : agL V i = agL V (i + 1) := by
  funext r j
  unfold agL
  by_cases h2 : r = 11 ∧ j < i ∧ V 10 j = 1
  · rw [if_pos h2, if_pos ⟨h2.1, by omega, h2.2.2⟩]
  · rw [if_neg h2, if_neg (fun z => by
      by_cases e : j = i
      · subst e; exact h z.2.2
      · exact h2 ⟨z.1, by omega, z.2.2⟩)]
def teS (V : Vs) (c : Nat) : Nat → Option Nat
  | 0 => none
  | n + 1 => if n = c ∨ ¬ V 10 n = 1 ∨ ¬ V 11 n ≤ V 8 2 then teS V c n else match teS V c n with
    | none => some n
    | some y => if V 11 y ≤ V 11 n then some y else some n
theorem teS_in {V : Vs} {c : Nat} : ∀ {n y : Nat}, teS V c n = some y → y < n ∧ y ≠ c
  | 0, y, h => by simp [teS] at h
  | n + 1, y, h => by
    unfold teS at h
    split at h
    · have := teS_in h; omega
    · rename_i hc
      cases ht : teS V c n with
      | none =>
        rw [ht] at h
        simp at h
        omega
      | some z =>
        rw [ht] at h
        have hz := teS_in ht
        simp at h
        split at h
        · simp at h; omega
        · simp at h; omega
def byK (W : Vs) (i : Nat) : Vs := if W 10 i = 1 ∧ ¬ W 11 i ≤ W 8 2 then up2 (blS W i (teS W i 8) (W 8 3)) 9 3 (blS W i (teS W i 8) (W 8 3) 9 3 + 1) else W
def byL (V : Vs) : Nat → Vs
  | 0 => V
  | n + 1 => byK (byL V n) n
def yrS (V : Vs) : Vs := byL (agL (up2 V 9 4 (V 9 4 + 1)) 8) 8
def yrL (V : Vs) : Nat → Vs
  | 0 => V
  | n + 1 => yrS (yrL V n)
/-- numbers that are asked -/
def swL (V : Vs) : Nat → Int32
  | 0 => 0
  | n + 1 => if V 10 n = 1 then swL V n + smL (V n) 84 else swL V n
def nuS (V : Vs) (j : Nat) : Int32 := if j = 0 then nI (cnN (V 10) 8) else if j = 6 then swL V 8 else V 9 (j - 1)
def nsS (V : Vs) (k j : Nat) : Int32 := if j = 0 then V 11 k else if j = 1 then lnS (V 11 k) (V 8 0) else if j = 2 then nI (cwN (V k) 6) else if j = 3 then nI (ccN (V k) 6) else V 12 k
/-- how many of the first n speakers have the word w for the meaning m -/
def cuN (V : Vs) (m w : Nat) : Nat → Nat
  | 0 => 0
  | n + 1 => cuN V m w n + (if V 10 n = 1 ∧ wfS (V n) m = some w then 1 else 0)
theorem cuN_le {V : Vs} {m w : Nat} : ∀ n, cuN V m w n ≤ n
  | 0 => Nat.le_refl _
  | n + 1 => by
    have := cuN_le (V := V) (m := m) (w := w) n
    unfold cuN
    split <;> omega
def usR (V : Vs) (m n : Nat) : Vs := upr V 13 (fun w => if w < 14 then nI (cuN V m w n) else V 13 w)
def usZ (V : Vs) (i : Nat) : Vs := upr V 13 (fun w => if w < i then 0 else V 13 w)
def cmS (V : Vs) (m : Nat) : Option Nat := (wfL (fun w => nI (cuN V m w 8)) 14).1
theorem usZ_0 {V : Vs} : usZ V 0 = V := by
  funext r j
  unfold usZ upr
  by_cases h : r = 13
  · subst h; rw [if_pos rfl, if_neg (by omega)]
  · rw [if_neg h]
theorem usZ_s {V : Vs} {i : Nat} : up2 (usZ V i) 13 i 0 = usZ V (i + 1) := by
  funext r j
  by_cases h : r = 13 ∧ j = i
  · obtain ⟨rfl, rfl⟩ := h
    rw [up2_s]
    unfold usZ upr
    rw [if_pos rfl, if_pos (by omega)]
  · rw [up2_n h]
    unfold usZ upr
    by_cases h2 : r = 13
    · subst h2
      rw [if_pos rfl, if_pos rfl]
      by_cases h3 : j < i
      · rw [if_pos h3, if_pos (by omega)]
      · rw [if_neg h3, if_neg (by omega)]
    · rw [if_neg h2, if_neg h2]
theorem usR_0 {V : Vs} {m : Nat} : usZ V 14 = usR V m 0 := rfl
theorem usR_r {V : Vs} {m n r : Nat} (h : r ≠ 13) : usR V m n r = V r := upr_n h
theorem usR_w {V : Vs} {m n w : Nat} (h : w < 14) : usR V m n 13 w = nI (cuN V m w n) := by
  unfold usR
  rw [upr_s, if_pos h]
theorem usR_f {V : Vs} {m n : Nat} (h : ∀ w, ¬ (V 10 n = 1 ∧ wfS (V n) m = some w)) : usR V m n = usR V m (n + 1) := by
  unfold usR
  congr 1
  funext w
  rw [cuN, if_neg (h w), Nat.add_zero]
theorem usR_t {V : Vs} {m n w : Nat} (h1 : V 10 n = 1) (h2 : wfS (V n) m = some w) : up2 (usR V m n) 13 w (usR V m n 13 w + 1) = usR V m (n + 1) := by
  have hw := wfS_in h2
  funext r j
  by_cases h : r = 13 ∧ j = w
  · obtain ⟨rfl, rfl⟩ := h
    rw [up2_s, usR_w hw, usR_w hw, cuN, if_pos ⟨h1, h2⟩, nI_1]
  · rw [up2_n h]
    by_cases h3 : r = 13
    · subst h3
      unfold usR
      rw [upr_s, upr_s]
      by_cases h4 : j < 14
      · rw [if_pos h4, if_pos h4, cuN, if_neg (fun z => h ⟨rfl, by rw [h2] at z; exact (Option.some.inj z.2).symm⟩), Nat.add_zero]
      · rw [if_neg h4, if_neg h4]
    · rw [usR_r h3, usR_r h3]
theorem cxN_s {P : Fn} {lo : Int32} {i q : Nat} (hi : i < q) (h1 : P i = 1) (h2 : ¬ nI i = lo) : cxN P lo i < cxN P lo q := by
  obtain ⟨d, rfl⟩ : ∃ d, q = i + 1 + d := ⟨q - (i + 1), by omega⟩
  clear hi
  induction d with
  | zero =>
    show _ < cxN P lo (i + 1)
    rw [cxN, if_pos ⟨h1, h2⟩]
    omega
  | succ d ih =>
    show _ < cxN P lo (i + 1 + d + 1)
    rw [cxN]
    omega
theorem cx_ne {P : Fn} {lo : Int32} {i q p : Nat} (hq : q < 8) (hi : i < q) (h1 : P i = 1) (h2 : ¬ nI i = lo) (h3 : cxN P lo q = p) : ¬ nI (cxN P lo i) = nI p := by
  have a := cxN_s hi h1 h2
  have b := cxN_le (P := P) (lo := lo) q
  intro e
  have := (nI_eq (by omega) (by omega)).mp e
  omega
theorem nI_m1 (q : Nat) (h : q < 2 ^ 31) : ¬ nI q = -1 := by
  intro e
  have h1 := nI_toInt h
  rw [e] at h1
  have h2 : ((-1 : Int32)).toInt = -1 := by decide
  omega
theorem cxN_m1 {P : Fn} : ∀ n, n ≤ 8 → cxN P (-1) n = cnN P n
  | 0, _ => rfl
  | n + 1, h => by
    rw [cxN, cnN, cxN_m1 n (by omega)]
    by_cases hp : P n = 1
    · rw [if_pos ⟨hp, nI_m1 n (by omega)⟩, if_pos hp]
    · rw [if_neg (fun z => hp z.1), if_neg hp]
theorem cxN_w {P : Fn} {s : Nat} (hs : s < 8) (hp : P s = 1) : ∀ n, n ≤ 8 → cxN P (nI s) n + (if s < n then 1 else 0) = cnN P n
  | 0, _ => rfl
  | n + 1, h => by
    have ih := cxN_w hs hp n (by omega)
    rw [cxN, cnN]
    by_cases e : n = s
    · subst e
      rw [if_neg (fun z => z.2 rfl), if_pos hp, if_pos (by omega)]
      rw [if_neg (by omega)] at ih
      omega
    · have e2 : ¬ nI n = nI s := fun z => e ((nI_eq (by omega) (by omega)).mp z)
      by_cases hp2 : P n = 1
      · rw [if_pos ⟨hp2, e2⟩, if_pos hp2]
        by_cases h3 : s < n
        · rw [if_pos h3] at ih; rw [if_pos (by omega)]; omega
        · rw [if_neg h3] at ih; rw [if_neg (by omega)]; omega
      · rw [if_neg (fun z => hp2 z.1), if_neg hp2]
        by_cases h3 : s < n
        · rw [if_pos h3] at ih; rw [if_pos (by omega)]; omega
        · rw [if_neg h3] at ih; rw [if_neg (by omega)]; omega
-- rows that stay
theorem drV_r {V : Vs} {r : Nat} (h : r ≠ 9) : drV V r = V r := up2_r h
theorem chS_r {V : Vs} {k m w r : Nat} {d : Int32} (h : r ≠ k) : chS V k m w d r = V r := up2_r h
theorem prS_r {V : Vs} {k m w r : Nat} {a x : Int32} (h : r ≠ k) : prS V k m w a x r = V r := by
  funext j
  unfold prS prL
  rw [if_neg (fun z => h z.1), if_neg (fun z => h z.1)]
theorem fmS_r {V : Vs} {k m w r : Nat} {x : Int32} (h : r ≠ k) : fmS V k m w x r = V r := by
  funext j
  unfold fmS fmL
  rw [if_neg (fun z => h z.1)]
theorem mtC_r {V : Vs} {k1 k2 r : Nat} (h : r ≠ 9) (h2 : r ≠ 12) : mtC V k1 k2 r = V r := by
  unfold mtC mck mc1
  rw [up2_r h2, up2_r h2, up2_r h]
theorem mtF_r {V : Vs} {k1 k2 m w h r : Nat} (h1 : r ≠ k1) (h2 : r ≠ k2) (h3 : r ≠ 9) (h4 : r ≠ 12) : mtF V k1 k2 m w h r = V r := by
  unfold mtF
  split
  · unfold mtS mtG
    rw [fmS_r h2, prS_r h2, prS_r h1, up2_r h3, mtC_r h3 h4]
  · unfold mtN
    rw [chS_r h2, chS_r h2, chS_r h1, mtC_r h3 h4]
theorem wdN_r {V : Vs} {k m r : Nat} (h : r ≠ 9) : (wdN V k m).1 r = V r := by
  unfold wdN
  split
  · exact drV_r h
  · rfl
theorem hdN_r {V : Vs} {k m r : Nat} (h : r ≠ 9) : (hdN V k m).1 r = V r := by
  unfold hdN
  split
  · exact drV_r h
  · rfl
theorem mtV_r {V : Vs} {k1 k2 m r : Nat} (h1 : r ≠ k1) (h2 : r ≠ k2) (h3 : r ≠ 9) (h4 : r ≠ 12) : mtV V k1 k2 m r = V r := by
  unfold mtV
  rw [mtF_r h1 h2 h3 h4]
  unfold mt1
  rw [hdN_r h3, wdN_r h3]
theorem mtF_sd {V : Vs} {k1 k2 m w h : Nat} (hk1 : k1 < 8) (hk2 : k2 < 8) : mtF V k1 k2 m w h 9 0 = V 9 0 := by
  have e : mtC V k1 k2 9 0 = V 9 0 := by
    unfold mtC mck mc1
    rw [up2_n (by omega), up2_n (by omega), up2_n (by omega)]
  unfold mtF
  split
  · unfold mtS mtG
    rw [fmS_r (by omega), prS_r (by omega), prS_r (by omega), up2_n (by omega), e]
  · unfold mtN
    rw [chS_r (by omega), chS_r (by omega), chS_r (by omega), e]
theorem mtV_ok {V : Vs} {k1 k2 m : Nat} (hk1 : k1 < 8) (hk2 : k2 < 8) (h : sok V) : sok (mtV V k1 k2 m) := by
  obtain ⟨q, hq, e⟩ := hdN_ok (k := k2) (m := (wdN V k1 m).2) (wdN_ok (k := k1) (m := m) h)
  refine ⟨q, hq, ?_⟩
  unfold mtV
  rw [mtF_sd hk1 hk2]
  dsimp only [mt1]
  exact e
/-- who meets -/
theorem ch_f {W : Vs} {c : Nat} (hc : cnN (W 10) 8 = c) (h2 : 2 ≤ c) : (c1S W c < 8 ∧ W 10 (c1S W c) = 1 ∧ ¬ nI (c1S W c) = -1 ∧ cxN (W 10) (-1) (c1S W c) = dvN W c) ∧ (c2S W c < 8 ∧ W 10 (c2S W c) = 1 ∧ ¬ nI (c2S W c) = nI (c1S W c) ∧ cxN (W 10) (nI (c1S W c)) (c2S W c) = dvN (drV W) (c - 1)) ∧ cmN W < 6 := by
  have a := kS_ok (P := W 10) (lo := -1) (p := dvN W c) (by rw [cxN_m1 8 (Nat.le_refl _), hc]; exact dvN_lt (by omega))
  refine ⟨a, ?_, dvN_lt (by decide)⟩
  have e := cxN_w (P := W 10) (s := c1S W c) a.1 a.2.1 8 (Nat.le_refl _)
  rw [if_pos (show c1S W c < 8 from a.1), hc] at e
  exact kS_ok (P := W 10) (lo := nI (c1S W c)) (p := dvN (drV W) (c - 1)) (by have := dvN_lt (V := drV W) (n := c - 1) (by omega); omega)
theorem chT_r {V : Vs} {c r : Nat} (hc : cnN (V 10) 8 = c) (h2 : 2 ≤ c) (h8 : 8 ≤ r) (h3 : r ≠ 9) (h4 : r ≠ 12) : chT V c r = V r := by
  obtain ⟨a, b, -⟩ := ch_f hc h2
  unfold chT
  rw [mtV_r (by omega) (by omega) h3 h4, drV_r h3, drV_r h3, drV_r h3]
theorem chT_ok {V : Vs} {c : Nat} (hc : cnN (V 10) 8 = c) (h2 : 2 ≤ c) : sok (chT V c) := by
  obtain ⟨a, b, -⟩ := ch_f hc h2
  exact mtV_ok a.1 b.1 drV_ok
theorem chL_f {V : Vs} {c : Nat} (hc : cnN (V 10) 8 = c) (h2 : 2 ≤ c) (hs : sok V) : ∀ i, sok (chL V c i) ∧ ∀ r, 8 ≤ r → r ≠ 9 → r ≠ 12 → chL V c i r = V r
  | 0 => ⟨hs, fun _ _ _ _ => rfl⟩
  | i + 1 => by
    obtain ⟨a, b⟩ := chL_f hc h2 hs i
    have hc2 : cnN (chL V c i 10) 8 = c := by rw [b 10 (by decide) (by decide) (by decide)]; exact hc
    exact ⟨chT_ok hc2 h2, fun r h8 h3 h4 => (chT_r hc2 h2 h8 h3 h4).trans (b r h8 h3 h4)⟩
theorem agL_10 {V : Vs} {i r : Nat} (h : r ≠ 11) : agL V i r = V r := by
  funext j
  unfold agL
  rw [if_neg (fun z => h z.1)]
theorem teS_sk {V : Vs} {c n : Nat} (h : n = c ∨ ¬ V 10 n = 1 ∨ ¬ V 11 n ≤ V 8 2) : teS V c (n + 1) = teS V c n := by rw [teS, if_pos h]
theorem teS_n {V : Vs} {c n : Nat} (h1 : ¬ n = c) (h2 : V 10 n = 1) (h3 : V 11 n ≤ V 8 2) (hy : teS V c n = none) : teS V c (n + 1) = some n := by
  rw [teS, if_neg (fun z => z.elim h1 (fun z => z.elim (fun z => z h2) (fun z => z h3))), hy]
theorem teS_k {V : Vs} {c n y : Nat} (h1 : ¬ n = c) (h2 : V 10 n = 1) (h3 : V 11 n ≤ V 8 2) (hy : teS V c n = some y) (h4 : V 11 y ≤ V 11 n) : teS V c (n + 1) = some y := by
  rw [teS, if_neg (fun z => z.elim h1 (fun z => z.elim (fun z => z h2) (fun z => z h3))), hy]
  exact if_pos h4
theorem teS_u {V : Vs} {c n y : Nat} (h1 : ¬ n = c) (h2 : V 10 n = 1) (h3 : V 11 n ≤ V 8 2) (hy : teS V c n = some y) (h4 : ¬ V 11 y ≤ V 11 n) : teS V c (n + 1) = some n := by
  rw [teS, if_neg (fun z => z.elim h1 (fun z => z.elim (fun z => z h2) (fun z => z h3))), hy]
  exact if_neg h4
theorem byK_f {W : Vs} {i : Nat} (h : ¬ (W 10 i = 1 ∧ ¬ W 11 i ≤ W 8 2)) : byK W i = W := if_neg h
theorem byK_t {W : Vs} {i : Nat} {t : Option Nat} (h : W 10 i = 1 ∧ ¬ W 11 i ≤ W 8 2) (ht : teS W i 8 = t) : byK W i = up2 (blS W i t (W 8 3)) 9 3 (blS W i t (W 8 3) 9 3 + 1) := by
  subst ht
  exact if_pos h
theorem mtF_s {V : Vs} {k1 k2 m w h : Nat} (e : h = m) : mtS (mtC V k1 k2) k1 k2 m w (mtC V k1 k2 8 1) = mtF V k1 k2 m w h := (if_pos e).symm
theorem mtF_n {V : Vs} {k1 k2 m w h : Nat} (e : ¬ h = m) : mtN (mtC V k1 k2) k1 k2 m w h (mtC V k1 k2 8 1) = mtF V k1 k2 m w h := (if_neg e).symm
theorem wdN_n {V : Vs} {k m : Nat} (h : wfS (V k) m = none) : wdN V k m = (drV V, dvN V 14) := by unfold wdN; rw [h]
theorem wdN_s {V : Vs} {k m w : Nat} (h : wfS (V k) m = some w) : wdN V k m = (V, w) := by unfold wdN; rw [h]
theorem hdN_n {V : Vs} {k m : Nat} (h : haS (V k) m = none) : hdN V k m = (drV V, dvN V 6) := by unfold hdN; rw [h]
theorem hdN_s {V : Vs} {k m w : Nat} (h : haS (V k) m = some w) : hdN V k m = (V, w) := by unfold hdN; rw [h]
end
section
set_option maxRecDepth 100000 in
set_option maxHeartbeats 1000000 in
theorem c_X3_find_some {l : Launch} {E : xEnv} {B N : Nat} {σ : Sg} {b : Nat} {V : Vs} {k : Nat} (hk : k < 8) (hp : V 10 k = 1) : xM l yX3_find cX3_find 2 (some (.object "GesturePidgin$Speaker")) 1 21 0 0 E B [.ref b, .int (nI k)] N (vput E σ b V) N (vput E σ b V) (some (.ref (b + 2 + 2 * k))) := by
  refine xM_of [some (.ref _), some (.int _)] (by decide +kernel) (Nat.le_of_ble_eq_true rfl) rfl (fun k0 C Z => ?_)
  refine x_iload_n C dX3_find_0 rfl ?_
  refine x_bipush (v := 8) C dX3_find_1 (by decide) ?_
  refine x_callS C (c_X4_isBelow _ _) ks_X4_isBelow kl_X3_51 dX3_find_3 rfl rfl rfl rfl (Nat.le_of_ble_eq_true rfl) (Nat.le_of_ble_eq_true rfl) (Nat.le_of_ble_eq_true rfl) (Nat.le_of_ble_eq_true rfl) (Nat.le_of_ble_eq_true rfl) ?_
  refine x_beq C 30 dX3_find_6 (by decide) (fun h => absurd (bd_in (c := 8) hk (by decide)) h) (fun _ => ?_)
  refine x_aload_n C dX3_find_9 rfl ?_
  refine x_get C kf_X3_11 vput_0 rfl dX3_find_10 ?_
  refine x_iload_n C dX3_find_13 rfl ?_
  refine x_aald2 (t0 := 2) C vput_1 rfl rfl hk (by decide) dX3_find_14 ?_
  refine x_get C kf_X3_55 (vput_s hk) rfl dX3_find_15 ?_
  refine x_feq C 30 dX3_find_18 (by decide) (fun h => absurd hp h) (fun _ => ?_)
  refine x_aload_n C dX3_find_21 rfl ?_
  refine x_get C kf_X3_11 vput_0 rfl dX3_find_22 ?_
  refine x_iload_n C dX3_find_25 rfl ?_
  refine x_aald2 (t0 := 2) C vput_1 rfl rfl hk (by decide) dX3_find_26 ?_
  refine x_goto C 31 dX3_find_27 (by decide) ?_
  exact x_aret C Z dX3_find_31 (Or.inr ⟨_, rfl⟩) (Nat.le_of_ble_eq_true rfl) (Nat.le_of_ble_eq_true rfl) rfl rfl rfl
set_option maxRecDepth 100000 in
set_option maxHeartbeats 1000000 in
theorem c_X3_find_none {l : Launch} {E : xEnv} {B N : Nat} {σ : Sg} {b : Nat} {V : Vs} {x : Int32} (hno : ¬ ∃ k, k < 8 ∧ x = nI k ∧ V 10 k = 1) : xM l yX3_find cX3_find 2 (some (.object "GesturePidgin$Speaker")) 1 21 0 0 E B [.ref b, .int x] N (vput E σ b V) N (vput E σ b V) (some .null) := by
  refine xM_of [some (.ref _), some (.int _)] (by decide +kernel) (Nat.le_of_ble_eq_true rfl) rfl (fun k0 C Z => ?_)
  refine x_iload_n C dX3_find_0 rfl ?_
  refine x_bipush (v := 8) C dX3_find_1 (by decide) ?_
  refine x_callS C (c_X4_isBelow _ _) ks_X4_isBelow kl_X3_51 dX3_find_3 rfl rfl rfl rfl (Nat.le_of_ble_eq_true rfl) (Nat.le_of_ble_eq_true rfl) (Nat.le_of_ble_eq_true rfl) (Nat.le_of_ble_eq_true rfl) (Nat.le_of_ble_eq_true rfl) ?_
  refine x_beq C 30 dX3_find_6 (by decide) (fun h6 => ?_) (fun h6 => ?_)
  · refine x_null C dX3_find_30 ?_
    exact x_aret C Z dX3_find_31 (Or.inl rfl) (Nat.le_of_ble_eq_true rfl) (Nat.le_of_ble_eq_true rfl) rfl rfl rfl
  · obtain ⟨k, hk, rfl⟩ := bd_of (c := 8) (by decide) h6
    refine x_aload_n C dX3_find_9 rfl ?_
    refine x_get C kf_X3_11 vput_0 rfl dX3_find_10 ?_
    refine x_iload_n C dX3_find_13 rfl ?_
    refine x_aald2 (t0 := 2) C vput_1 rfl rfl hk (by decide) dX3_find_14 ?_
    refine x_get C kf_X3_55 (vput_s hk) rfl dX3_find_15 ?_
    refine x_feq C 30 dX3_find_18 (by decide) (fun h18 => ?_) (fun h18 => ?_)
    · refine x_null C dX3_find_30 ?_
      exact x_aret C Z dX3_find_31 (Or.inl rfl) (Nat.le_of_ble_eq_true rfl) (Nat.le_of_ble_eq_true rfl) rfl rfl rfl
    · exact absurd ⟨k, hk, rfl, h18⟩ hno
set_option maxRecDepth 100000 in
set_option maxHeartbeats 1000000 in
theorem c_X3_lowestFree_some {l : Launch} {E : xEnv} {B N : Nat} {σ : Sg} {b : Nat} {V : Vs} {q : Nat} (hq : q < 8) (hall : ∀ j, j < q → V 10 j = 1) (hno : ¬ V 10 q = 1) : xM l yX3_lowestFree cX3_lowestFree 2 (some .int) 0 0 0 0 E B [.ref b] N (vput E σ b V) N (vput E σ b V) (some (.int (nI q))) := by
  refine xM_of [some (.ref _), none] (by decide +kernel) (Nat.le_of_ble_eq_true rfl) rfl (fun k0 C Z => ?_)
  have hl : ∀ i, i ≤ q → xX k0 N 0 0 (vput E σ b V) 2 [some (.ref b), some (.int (nI i))] [] := by
    refine x_for q ?_ ?_
    · refine x_iload_n C dX3_lowestFree_2 rfl ?_
      refine x_bipush (v := 8) C dX3_lowestFree_3 (by decide) ?_
      refine x_ic_ge C 28 dX3_lowestFree_5 (by decide) (fun h => absurd h (nI_ge (b := 8) hq (by omega))) (fun _ => ?_)
      refine x_aload_n C dX3_lowestFree_8 rfl ?_
      refine x_get C kf_X3_11 vput_0 rfl dX3_lowestFree_9 ?_
      refine x_iload_n C dX3_lowestFree_12 rfl ?_
      refine x_aald2 (t0 := 2) C vput_1 rfl rfl (by omega) (by decide) dX3_lowestFree_13 ?_
      refine x_get C kf_X3_55 (vput_s (by omega)) rfl dX3_lowestFree_14 ?_
      refine x_fne C 22 dX3_lowestFree_17 (by decide) (fun h => absurd h hno) (fun _ => ?_)
      refine x_iload_n C dX3_lowestFree_20 rfl ?_
      exact x_zret C Z dX3_lowestFree_21 rfl (Nat.le_of_ble_eq_true rfl) (Nat.le_of_ble_eq_true rfl) rfl rfl rfl
    · intro i hi ih
      refine x_iload_n C dX3_lowestFree_2 rfl ?_
      refine x_bipush (v := 8) C dX3_lowestFree_3 (by decide) ?_
      refine x_ic_ge C 28 dX3_lowestFree_5 (by decide) (fun h => absurd h (nI_ge (b := 8) (show i < 8 by omega) (by omega))) (fun _ => ?_)
      refine x_aload_n C dX3_lowestFree_8 rfl ?_
      refine x_get C kf_X3_11 vput_0 rfl dX3_lowestFree_9 ?_
      refine x_iload_n C dX3_lowestFree_12 rfl ?_
      refine x_aald2 (t0 := 2) C vput_1 rfl rfl (by omega) (by decide) dX3_lowestFree_13 ?_
      refine x_get C kf_X3_55 (vput_s (by omega)) rfl dX3_lowestFree_14 ?_
      refine x_fne C 22 dX3_lowestFree_17 (by decide) (fun _ => ?_) (fun h => absurd (hall i hi) h)
      refine x_iinc C dX3_lowestFree_22 rfl (nI_inc _) (by decide) rfl ?_
      refine x_goto C 2 dX3_lowestFree_25 (by decide) ?_
      refine xX.cl ih rfl (And.intro rfl (And.intro rfl trivial)) rfl
  refine x_iconst (v := 0) C dX3_lowestFree_0 (by decide) ?_
  refine x_istore_n C dX3_lowestFree_1 (by decide) rfl ?_
  refine xX.cl (hl 0 (by omega)) rfl (And.intro rfl (And.intro rfl trivial)) rfl
set_option maxRecDepth 100000 in
set_option maxHeartbeats 1000000 in
theorem c_X3_lowestFree_none {l : Launch} {E : xEnv} {B N : Nat} {σ : Sg} {b : Nat} {V : Vs} (hall : ∀ j, j < 8 → V 10 j = 1) : xM l yX3_lowestFree cX3_lowestFree 2 (some .int) 0 0 0 0 E B [.ref b] N (vput E σ b V) N (vput E σ b V) (some (.int (-6))) := by
  refine xM_of [some (.ref _), none] (by decide +kernel) (Nat.le_of_ble_eq_true rfl) rfl (fun k0 C Z => ?_)
  have hl : ∀ i, i ≤ 8 → xX k0 N 0 0 (vput E σ b V) 2 [some (.ref b), some (.int (nI i))] [] := by
    refine x_for 8 ?_ ?_
    · refine x_iload_n C dX3_lowestFree_2 rfl ?_
      refine x_bipush (v := 8) C dX3_lowestFree_3 (by decide) ?_
      refine x_ic_ge C 28 dX3_lowestFree_5 (by decide) (fun _ => ?_) (fun h => absurd (nI_le (a := 8) (Nat.le_refl _) (by omega)) h)
      refine x_bipush (v := (-6)) C dX3_lowestFree_28 (by decide) ?_
      exact x_zret C Z dX3_lowestFree_30 rfl (Nat.le_of_ble_eq_true rfl) (Nat.le_of_ble_eq_true rfl) rfl rfl rfl
    · intro i hi ih
      refine x_iload_n C dX3_lowestFree_2 rfl ?_
      refine x_bipush (v := 8) C dX3_lowestFree_3 (by decide) ?_
      refine x_ic_ge C 28 dX3_lowestFree_5 (by decide) (fun h => absurd h (nI_ge (b := 8) hi (by omega))) (fun _ => ?_)
      refine x_aload_n C dX3_lowestFree_8 rfl ?_
      refine x_get C kf_X3_11 vput_0 rfl dX3_lowestFree_9 ?_
      refine x_iload_n C dX3_lowestFree_12 rfl ?_
      refine x_aald2 (t0 := 2) C vput_1 rfl rfl (by omega) (by decide) dX3_lowestFree_13 ?_
      refine x_get C kf_X3_55 (vput_s (by omega)) rfl dX3_lowestFree_14 ?_
      refine x_fne C 22 dX3_lowestFree_17 (by decide) (fun _ => ?_) (fun h => absurd (hall i hi) h)
      refine x_iinc C dX3_lowestFree_22 rfl (nI_inc _) (by decide) rfl ?_
      refine x_goto C 2 dX3_lowestFree_25 (by decide) ?_
      refine xX.cl ih rfl (And.intro rfl (And.intro rfl trivial)) rfl
  refine x_iconst (v := 0) C dX3_lowestFree_0 (by decide) ?_
  refine x_istore_n C dX3_lowestFree_1 (by decide) rfl ?_
  refine xX.cl (hl 0 (by omega)) rfl (And.intro rfl (And.intro rfl trivial)) rfl
set_option maxRecDepth 100000 in
set_option maxHeartbeats 1000000 in
theorem c_X3_countSpeakers {l : Launch} {E : xEnv} {B N : Nat} {σ : Sg} {b : Nat} {V : Vs} : xM l yX3_countSpeakers cX3_countSpeakers 3 (some .int) 0 0 0 0 E B [.ref b] N (vput E σ b V) N (vput E σ b V) (some (.int (nI (cnN (V 10) 8)))) := by
  refine xM_of [some (.ref _), none, none] (by decide +kernel) (Nat.le_of_ble_eq_true rfl) rfl (fun k0 C Z => ?_)
  have hl : ∀ i, i ≤ 8 → xX k0 N 0 0 (vput E σ b V) 4 [some (.ref b), some (.int (nI (cnN (V 10) i))), some (.int (nI i))] [] := by
    refine x_for 8 ?_ ?_
    · refine x_iload_n C dX3_countSpeakers_4 rfl ?_
      refine x_bipush (v := 8) C dX3_countSpeakers_5 (by decide) ?_
      refine x_ic_ge C 31 dX3_countSpeakers_7 (by decide) (fun _ => ?_) (fun h => absurd (nI_le (a := 8) (Nat.le_refl _) (by omega)) h)
      refine x_iload_n C dX3_countSpeakers_31 rfl ?_
      exact x_zret C Z dX3_countSpeakers_32 rfl (Nat.le_of_ble_eq_true rfl) (Nat.le_of_ble_eq_true rfl) rfl rfl rfl
    · intro i hi ih
      refine x_iload_n C dX3_countSpeakers_4 rfl ?_
      refine x_bipush (v := 8) C dX3_countSpeakers_5 (by decide) ?_
      refine x_ic_ge C 31 dX3_countSpeakers_7 (by decide) (fun h => absurd h (nI_ge (b := 8) hi (by omega))) (fun _ => ?_)
      refine x_aload_n C dX3_countSpeakers_10 rfl ?_
      refine x_get C kf_X3_11 vput_0 rfl dX3_countSpeakers_11 ?_
      refine x_iload_n C dX3_countSpeakers_14 rfl ?_
      refine x_aald2 (t0 := 2) C vput_1 rfl rfl hi (by decide) dX3_countSpeakers_15 ?_
      refine x_get C kf_X3_55 (vput_s hi) rfl dX3_countSpeakers_16 ?_
      refine x_feq C 25 dX3_countSpeakers_19 (by decide) (fun h19 => ?_) (fun h19 => ?_)
      · refine x_iinc C dX3_countSpeakers_25 rfl (nI_inc _) (by decide) rfl ?_
        refine x_goto C 4 dX3_countSpeakers_28 (by decide) ?_
        refine xX.cl ih rfl (And.intro rfl (And.intro ?_ (And.intro rfl trivial))) rfl
        rw [cnN, if_neg h19]; rfl
      · refine x_iinc C dX3_countSpeakers_22 rfl (nI_inc _) (by decide) rfl ?_
        refine x_iinc C dX3_countSpeakers_25 rfl (nI_inc _) (by decide) rfl ?_
        refine x_goto C 4 dX3_countSpeakers_28 (by decide) ?_
        refine xX.cl ih rfl (And.intro rfl (And.intro ?_ (And.intro rfl trivial))) rfl
        rw [cnN, if_pos h19]; rfl
  refine x_iconst (v := 0) C dX3_countSpeakers_0 (by decide) ?_
  refine x_istore_n C dX3_countSpeakers_1 (by decide) rfl ?_
  refine x_iconst (v := 0) C dX3_countSpeakers_2 (by decide) ?_
  refine x_istore_n C dX3_countSpeakers_3 (by decide) rfl ?_
  refine xX.cl (hl 0 (by omega)) rfl (And.intro rfl (And.intro rfl (And.intro rfl trivial))) rfl
set_option maxRecDepth 100000 in
set_option maxHeartbeats 1000000 in
theorem c_X3_welcome {l : Launch} {E : xEnv} {B N : Nat} {σ : Sg} {b : Nat} {V : Vs} {k : Nat} (hk : k < 8) : xM l yX3_welcome cX3_welcome 2 none 4 89 0 0 E B [.ref b, .int (nI k)] N (vput E σ b V) N (vput E σ b (blS (up2 V 10 k 1) k none 0)) none := by
  refine xM_of [some (.ref _), some (.int _)] (by decide +kernel) (Nat.le_of_ble_eq_true rfl) rfl (fun k0 C Z => ?_)
  refine x_iload_n C dX3_welcome_0 rfl ?_
  refine x_bipush (v := 8) C dX3_welcome_1 (by decide) ?_
  refine x_callS C (c_X4_isBelow _ _) ks_X4_isBelow kl_X3_51 dX3_welcome_3 rfl rfl rfl rfl (Nat.le_of_ble_eq_true rfl) (Nat.le_of_ble_eq_true rfl) (Nat.le_of_ble_eq_true rfl) (Nat.le_of_ble_eq_true rfl) (Nat.le_of_ble_eq_true rfl) ?_
  refine x_beq C 18 dX3_welcome_6 (by decide) (fun h => absurd (bd_in (c := 8) hk (by decide)) h) (fun _ => ?_)
  refine x_aload_n C dX3_welcome_9 rfl ?_
  refine x_get C kf_X3_11 vput_0 rfl dX3_welcome_10 ?_
  refine x_iload_n C dX3_welcome_13 rfl ?_
  refine x_aald2 (t0 := 2) C vput_1 rfl rfl hk (by decide) dX3_welcome_14 ?_
  refine x_callV C (c_X2_arrive hk) kv_X2_arrive kl_X3_59 dX3_welcome_15 (vput_s hk) rfl rfl rfl rfl (Nat.le_of_ble_eq_true rfl) (Nat.le_of_ble_eq_true rfl) (Nat.le_of_ble_eq_true rfl) (Nat.le_of_ble_eq_true rfl) (Nat.le_of_ble_eq_true rfl) ?_
  exact x_vret C Z dX3_welcome_18 (Nat.le_of_ble_eq_true rfl) (Nat.le_of_ble_eq_true rfl) rfl rfl
set_option maxRecDepth 100000 in
set_option maxHeartbeats 1000000 in
theorem c_X3_settingAt {l : Launch} {E : xEnv} {B N : Nat} {σ : Sg} {b : Nat} {V : Vs} {k : Nat} (hk : k < 4) : xM l yX3_settingAt cX3_settingAt 2 (some .int) 1 21 0 0 E B [.ref b, .int (nI k)] N (vput E σ b V) N (vput E σ b V) (some (.int (V 8 k))) := by
  refine xM_of [some (.ref _), some (.int _)] (by decide +kernel) (Nat.le_of_ble_eq_true rfl) rfl (fun k0 C Z => ?_)
  refine x_iload_n C dX3_settingAt_0 rfl ?_
  refine x_iconst (v := 4) C dX3_settingAt_1 (by decide) ?_
  refine x_callS C (c_X4_isBelow _ _) ks_X4_isBelow kl_X3_51 dX3_settingAt_2 rfl rfl rfl rfl (Nat.le_of_ble_eq_true rfl) (Nat.le_of_ble_eq_true rfl) (Nat.le_of_ble_eq_true rfl) (Nat.le_of_ble_eq_true rfl) (Nat.le_of_ble_eq_true rfl) ?_
  refine x_beq C 17 dX3_settingAt_5 (by decide) (fun h => absurd (bd_in (c := 4) hk (by decide)) h) (fun _ => ?_)
  refine x_aload_n C dX3_settingAt_8 rfl ?_
  refine x_get C kf_X3_18 vput_0 rfl dX3_settingAt_9 ?_
  refine x_iload_n C dX3_settingAt_12 rfl ?_
  refine x_iald2 C vput_18 rfl hk (by decide) dX3_settingAt_13 ?_
  refine x_goto C 18 dX3_settingAt_14 (by decide) ?_
  exact x_zret C Z dX3_settingAt_18 rfl (Nat.le_of_ble_eq_true rfl) (Nat.le_of_ble_eq_true rfl) rfl rfl rfl
set_option maxRecDepth 100000 in
set_option maxHeartbeats 1000000 in
theorem c_X3_putSetting {l : Launch} {E : xEnv} {B N : Nat} {σ : Sg} {b : Nat} {V : Vs} {k : Nat} (hk : k < 4) (x : Int32) : xM l yX3_putSetting cX3_putSetting 3 none 1 21 0 0 E B [.ref b, .int (nI k), .int x] N (vput E σ b V) N (vput E σ b (up2 V 8 k x)) none := by
  refine xM_of [some (.ref _), some (.int _), some (.int _)] (by decide +kernel) (Nat.le_of_ble_eq_true rfl) rfl (fun k0 C Z => ?_)
  refine x_iload_n C dX3_putSetting_0 rfl ?_
  refine x_iconst (v := 4) C dX3_putSetting_1 (by decide) ?_
  refine x_callS C (c_X4_isBelow _ _) ks_X4_isBelow kl_X3_51 dX3_putSetting_2 rfl rfl rfl rfl (Nat.le_of_ble_eq_true rfl) (Nat.le_of_ble_eq_true rfl) (Nat.le_of_ble_eq_true rfl) (Nat.le_of_ble_eq_true rfl) (Nat.le_of_ble_eq_true rfl) ?_
  refine x_beq C 15 dX3_putSetting_5 (by decide) (fun h => absurd (bd_in (c := 4) hk (by decide)) h) (fun _ => ?_)
  refine x_aload_n C dX3_putSetting_8 rfl ?_
  refine x_get C kf_X3_18 vput_0 rfl dX3_putSetting_9 ?_
  refine x_iload_n C dX3_putSetting_12 rfl ?_
  refine x_iload_n C dX3_putSetting_13 rfl ?_
  refine x_iast2 C vput_18 rfl hk (by decide) (fun _ _ => rfl) (vput_st _ _) dX3_putSetting_14 ?_
  exact x_vret C Z dX3_putSetting_15 (Nat.le_of_ble_eq_true rfl) (Nat.le_of_ble_eq_true rfl) rfl rfl
set_option maxRecDepth 100000 in
set_option maxHeartbeats 1000000 in
theorem c_X3_draw {l : Launch} {E : xEnv} {B N : Nat} {σ : Sg} {b : Nat} {V : Vs} {n : Nat} (hs : sok V) (h0 : 0 < n) (hn : n < 2 ^ 31) : xM l yX3_draw cX3_draw 2 (some .int) 0 0 0 0 E B [.ref b, .int (nI n)] N (vput E σ b V) N (vput E σ b (drV V)) (some (.int (nI (dvN V n)))) := by
  refine xM_of [some (.ref _), some (.int _)] (by decide +kernel) (Nat.le_of_ble_eq_true rfl) rfl (fun k0 C Z => ?_)
  refine x_aload_n C dX3_draw_0 rfl ?_
  refine x_sipush (v := 25173) C dX3_draw_1 (by decide) ?_
  refine x_aload_n C dX3_draw_4 rfl ?_
  refine x_get C kf_X3_25 vput_0 rfl dX3_draw_5 ?_
  refine x_imul C dX3_draw_8 ?_
  refine x_sipush (v := 13849) C dX3_draw_9 (by decide) ?_
  refine x_iadd C dX3_draw_12 ?_
  refine x_ldc C kk_X3_62 dX3_draw_13 ?_
  refine x_irem C dX3_draw_15 (by decide) ?_
  refine x_put (ty := .int) C kf_X3_25 vput_0 rfl (by decide +kernel) rfl rfl (Nat.le_of_ble_eq_true rfl) (vput_v0 _) dX3_draw_16 ?_
  refine xX.sg (congrArg (fun z => vput E σ b (up2 V 9 0 z)) (dr_e hs)) ?_
  refine x_iload_n C dX3_draw_19 rfl ?_
  refine x_iconst (v := 1) C dX3_draw_20 (by decide) ?_
  refine x_ic_ge C 28 dX3_draw_21 (by decide) (fun _ => ?_) (fun h => absurd (nI_le (a := 1) h0 hn) h)
  refine x_aload_n C dX3_draw_28 rfl ?_
  refine x_get C kf_X3_25 vput_0 rfl dX3_draw_29 ?_
  refine x_bipush (v := 16) C dX3_draw_32 (by decide) ?_
  refine x_idiv C dX3_draw_34 (by decide) ?_
  refine x_iload_n C dX3_draw_35 rfl ?_
  refine x_irem C dX3_draw_36 (nI_ne0 h0 hn) ?_
  exact x_zret C Z dX3_draw_37 rfl (Nat.le_of_ble_eq_true rfl) (Nat.le_of_ble_eq_true rfl) rfl rfl (by rw [up2_s]; exact dv_e sdN_lt h0 hn)
set_option maxRecDepth 100000 in
set_option maxHeartbeats 1000000 in
theorem c_X3_teacherFor_none {l : Launch} {E : xEnv} {B N : Nat} {σ : Sg} {b : Nat} {V : Vs} {c : Nat} (hc : c < 8) (ht : teS V c 8 = none) : xM l yX3_teacherFor cX3_teacherFor 5 (some (.object "GesturePidgin$Speaker")) 0 0 0 0 E B [.ref b, .int (nI c)] N (vput E σ b V) N (vput E σ b V) (some .null) := by
  refine xM_of [some (.ref _), some (.int _), none, none, none] (by decide +kernel) (Nat.le_of_ble_eq_true rfl) rfl (fun k0 C Z => ?_)
  have hl : ∀ i, i ≤ 8 → xX k0 N 0 0 (vput E σ b V) 4 [some (.ref b), some (.int (nI c)), some (va_rf ((teS V c i).map (fun y => b + 2 + 2 * y))), some (.int (nI i)), none] [] := by
    refine x_for 8 ?_ ?_
    · rw [ht]
      show xX k0 N 0 0 (vput E σ b V) 4 [some (.ref b), some (.int (nI c)), some .null, some (.int (nI 8)), none] []
      refine x_iload_n C dX3_teacherFor_4 rfl ?_
      refine x_bipush (v := 8) C dX3_teacherFor_5 (by decide) ?_
      refine x_ic_ge C 73 dX3_teacherFor_7 (by decide) (fun _ => ?_) (fun h => absurd (nI_le (a := 8) (Nat.le_refl _) (by omega)) h)
      refine x_aload_nN C dX3_teacherFor_73 rfl ?_
      exact x_aret C Z dX3_teacherFor_74 (Or.inl rfl) (Nat.le_of_ble_eq_true rfl) (Nat.le_of_ble_eq_true rfl) rfl rfl rfl
    · intro i hi ih
      cases hy : teS V c i with
      | none =>
        show xX k0 N 0 0 (vput E σ b V) 4 [some (.ref b), some (.int (nI c)), some .null, some (.int (nI i)), none] []
        refine x_iload_n C dX3_teacherFor_4 rfl ?_
        refine x_bipush (v := 8) C dX3_teacherFor_5 (by decide) ?_
        refine x_ic_ge C 73 dX3_teacherFor_7 (by decide) (fun h => absurd h (nI_ge (b := 8) hi (by omega))) (fun _ => ?_)
        refine x_aload_n C dX3_teacherFor_10 rfl ?_
        refine x_get C kf_X3_11 vput_0 rfl dX3_teacherFor_11 ?_
        refine x_iload_n C dX3_teacherFor_14 rfl ?_
        refine x_aald2 (t0 := 2) C vput_1 rfl rfl hi (by decide) dX3_teacherFor_15 ?_
        refine x_astore C dX3_teacherFor_16 (by decide) rfl ?_
        refine x_iload_n C dX3_teacherFor_18 rfl ?_
        refine x_iload_n C dX3_teacherFor_19 rfl ?_
        refine x_ic_eq C 67 dX3_teacherFor_20 (by decide) (fun h20 => ?_) (fun h20 => ?_)
        · refine x_iinc C dX3_teacherFor_67 rfl (nI_inc _) (by decide) rfl ?_
          refine x_goto C 4 dX3_teacherFor_70 (by decide) ?_
          refine xX.cl ih rfl (And.intro rfl (And.intro rfl (And.intro ?_ (And.intro rfl trivial)))) rfl
          rw [teS_sk (Or.inl ((nI_eq (by omega) (by omega)).mp h20)), hy]; rfl
        · refine x_aload C dX3_teacherFor_23 rfl ?_
          refine x_get C kf_X3_55 (vput_s hi) rfl dX3_teacherFor_25 ?_
          refine x_feq C 67 dX3_teacherFor_28 (by decide) (fun h28 => ?_) (fun h28 => ?_)
          · refine x_iinc C dX3_teacherFor_67 rfl (nI_inc _) (by decide) rfl ?_
            refine x_goto C 4 dX3_teacherFor_70 (by decide) ?_
            refine xX.cl ih rfl (And.intro rfl (And.intro rfl (And.intro ?_ (And.intro rfl trivial)))) rfl
            rw [teS_sk (Or.inr (Or.inl h28)), hy]; rfl
          · refine x_aload C dX3_teacherFor_31 rfl ?_
            refine x_get C kf_X3_104 (vput_s hi) rfl dX3_teacherFor_33 ?_
            refine x_aload_n C dX3_teacherFor_36 rfl ?_
            refine x_get C kf_X3_18 vput_0 rfl dX3_teacherFor_37 ?_
            refine x_iconst (v := 2) C dX3_teacherFor_40 (by decide) ?_
            refine x_iald2 C vput_18 rfl (by decide) (by decide) dX3_teacherFor_41 ?_
            refine x_ic_le C 48 dX3_teacherFor_42 (by decide) (fun h42 => ?_) (fun h42 => ?_)
            · refine x_aload_nN C dX3_teacherFor_48 rfl ?_
              refine x_ifnullN C 64 dX3_teacherFor_49 (by decide) ?_
              refine x_aload C dX3_teacherFor_64 rfl ?_
              refine x_astore_n C dX3_teacherFor_66 (by decide) rfl ?_
              refine x_iinc C dX3_teacherFor_67 rfl (nI_inc _) (by decide) rfl ?_
              refine x_goto C 4 dX3_teacherFor_70 (by decide) ?_
              refine xX.cl ih rfl (And.intro rfl (And.intro rfl (And.intro ?_ (And.intro rfl trivial)))) rfl
              rw [teS_n (fun z => h20 (by rw [z])) h28 h42 hy]; rfl
            · refine x_goto C 67 dX3_teacherFor_45 (by decide) ?_
              refine x_iinc C dX3_teacherFor_67 rfl (nI_inc _) (by decide) rfl ?_
              refine x_goto C 4 dX3_teacherFor_70 (by decide) ?_
              refine xX.cl ih rfl (And.intro rfl (And.intro rfl (And.intro ?_ (And.intro rfl trivial)))) rfl
              rw [teS_sk (Or.inr (Or.inr h42)), hy]; rfl
      | some y =>
        show xX k0 N 0 0 (vput E σ b V) 4 [some (.ref b), some (.int (nI c)), some (.ref (b + 2 + 2 * y)), some (.int (nI i)), none] []
        have hy8 : y < 8 := by have := (teS_in hy).1; omega
        refine x_iload_n C dX3_teacherFor_4 rfl ?_
        refine x_bipush (v := 8) C dX3_teacherFor_5 (by decide) ?_
        refine x_ic_ge C 73 dX3_teacherFor_7 (by decide) (fun h => absurd h (nI_ge (b := 8) hi (by omega))) (fun _ => ?_)
        refine x_aload_n C dX3_teacherFor_10 rfl ?_
        refine x_get C kf_X3_11 vput_0 rfl dX3_teacherFor_11 ?_
        refine x_iload_n C dX3_teacherFor_14 rfl ?_
        refine x_aald2 (t0 := 2) C vput_1 rfl rfl hi (by decide) dX3_teacherFor_15 ?_
        refine x_astore C dX3_teacherFor_16 (by decide) rfl ?_
        refine x_iload_n C dX3_teacherFor_18 rfl ?_
        refine x_iload_n C dX3_teacherFor_19 rfl ?_
        refine x_ic_eq C 67 dX3_teacherFor_20 (by decide) (fun h20 => ?_) (fun h20 => ?_)
        · refine x_iinc C dX3_teacherFor_67 rfl (nI_inc _) (by decide) rfl ?_
          refine x_goto C 4 dX3_teacherFor_70 (by decide) ?_
          refine xX.cl ih rfl (And.intro rfl (And.intro rfl (And.intro ?_ (And.intro rfl trivial)))) rfl
          rw [teS_sk (Or.inl ((nI_eq (by omega) (by omega)).mp h20)), hy]; rfl
        · refine x_aload C dX3_teacherFor_23 rfl ?_
          refine x_get C kf_X3_55 (vput_s hi) rfl dX3_teacherFor_25 ?_
          refine x_feq C 67 dX3_teacherFor_28 (by decide) (fun h28 => ?_) (fun h28 => ?_)
          · refine x_iinc C dX3_teacherFor_67 rfl (nI_inc _) (by decide) rfl ?_
            refine x_goto C 4 dX3_teacherFor_70 (by decide) ?_
            refine xX.cl ih rfl (And.intro rfl (And.intro rfl (And.intro ?_ (And.intro rfl trivial)))) rfl
            rw [teS_sk (Or.inr (Or.inl h28)), hy]; rfl
          · refine x_aload C dX3_teacherFor_31 rfl ?_
            refine x_get C kf_X3_104 (vput_s hi) rfl dX3_teacherFor_33 ?_
            refine x_aload_n C dX3_teacherFor_36 rfl ?_
            refine x_get C kf_X3_18 vput_0 rfl dX3_teacherFor_37 ?_
            refine x_iconst (v := 2) C dX3_teacherFor_40 (by decide) ?_
            refine x_iald2 C vput_18 rfl (by decide) (by decide) dX3_teacherFor_41 ?_
            refine x_ic_le C 48 dX3_teacherFor_42 (by decide) (fun h42 => ?_) (fun h42 => ?_)
            · refine x_aload_n C dX3_teacherFor_48 rfl ?_
              refine x_ifnull C dX3_teacherFor_49 ?_
              refine x_aload C dX3_teacherFor_52 rfl ?_
              refine x_get C kf_X3_104 (vput_s hi) rfl dX3_teacherFor_54 ?_
              refine x_aload_n C dX3_teacherFor_57 rfl ?_
              refine x_get C kf_X3_104 (vput_s hy8) rfl dX3_teacherFor_58 ?_
              refine x_ic_ge C 67 dX3_teacherFor_61 (by decide) (fun h61 => ?_) (fun h61 => ?_)
              · refine x_iinc C dX3_teacherFor_67 rfl (nI_inc _) (by decide) rfl ?_
                refine x_goto C 4 dX3_teacherFor_70 (by decide) ?_
                refine xX.cl ih rfl (And.intro rfl (And.intro rfl (And.intro ?_ (And.intro rfl trivial)))) rfl
                rw [teS_k (fun z => h20 (by rw [z])) h28 h42 hy h61]; rfl
              · refine x_aload C dX3_teacherFor_64 rfl ?_
                refine x_astore_n C dX3_teacherFor_66 (by decide) rfl ?_
                refine x_iinc C dX3_teacherFor_67 rfl (nI_inc _) (by decide) rfl ?_
                refine x_goto C 4 dX3_teacherFor_70 (by decide) ?_
                refine xX.cl ih rfl (And.intro rfl (And.intro rfl (And.intro ?_ (And.intro rfl trivial)))) rfl
                rw [teS_u (fun z => h20 (by rw [z])) h28 h42 hy h61]; rfl
            · refine x_goto C 67 dX3_teacherFor_45 (by decide) ?_
              refine x_iinc C dX3_teacherFor_67 rfl (nI_inc _) (by decide) rfl ?_
              refine x_goto C 4 dX3_teacherFor_70 (by decide) ?_
              refine xX.cl ih rfl (And.intro rfl (And.intro rfl (And.intro ?_ (And.intro rfl trivial)))) rfl
              rw [teS_sk (Or.inr (Or.inr h42)), hy]; rfl
  refine x_null C dX3_teacherFor_0 ?_
  refine x_astore_nN C dX3_teacherFor_1 (by decide) rfl ?_
  refine x_iconst (v := 0) C dX3_teacherFor_2 (by decide) ?_
  refine x_istore_n C dX3_teacherFor_3 (by decide) rfl ?_
  refine xX.cl (hl 0 (by omega)) rfl (And.intro rfl (And.intro rfl (And.intro rfl (And.intro rfl trivial)))) rfl
set_option maxRecDepth 100000 in
set_option maxHeartbeats 1000000 in
theorem c_X3_teacherFor_some {l : Launch} {E : xEnv} {B N : Nat} {σ : Sg} {b : Nat} {V : Vs} {c : Nat} (hc : c < 8) {y0 : Nat} (ht : teS V c 8 = some y0) : xM l yX3_teacherFor cX3_teacherFor 5 (some (.object "GesturePidgin$Speaker")) 0 0 0 0 E B [.ref b, .int (nI c)] N (vput E σ b V) N (vput E σ b V) (some (.ref (b + 2 + 2 * y0))) := by
  refine xM_of [some (.ref _), some (.int _), none, none, none] (by decide +kernel) (Nat.le_of_ble_eq_true rfl) rfl (fun k0 C Z => ?_)
  have hl : ∀ i, i ≤ 8 → xX k0 N 0 0 (vput E σ b V) 4 [some (.ref b), some (.int (nI c)), some (va_rf ((teS V c i).map (fun y => b + 2 + 2 * y))), some (.int (nI i)), none] [] := by
    refine x_for 8 ?_ ?_
    · rw [ht]
      show xX k0 N 0 0 (vput E σ b V) 4 [some (.ref b), some (.int (nI c)), some (.ref (b + 2 + 2 * y0)), some (.int (nI 8)), none] []
      refine x_iload_n C dX3_teacherFor_4 rfl ?_
      refine x_bipush (v := 8) C dX3_teacherFor_5 (by decide) ?_
      refine x_ic_ge C 73 dX3_teacherFor_7 (by decide) (fun _ => ?_) (fun h => absurd (nI_le (a := 8) (Nat.le_refl _) (by omega)) h)
      refine x_aload_n C dX3_teacherFor_73 rfl ?_
      exact x_aret C Z dX3_teacherFor_74 (Or.inr ⟨_, rfl⟩) (Nat.le_of_ble_eq_true rfl) (Nat.le_of_ble_eq_true rfl) rfl rfl rfl
    · intro i hi ih
      cases hy : teS V c i with
      | none =>
        show xX k0 N 0 0 (vput E σ b V) 4 [some (.ref b), some (.int (nI c)), some .null, some (.int (nI i)), none] []
        refine x_iload_n C dX3_teacherFor_4 rfl ?_
        refine x_bipush (v := 8) C dX3_teacherFor_5 (by decide) ?_
        refine x_ic_ge C 73 dX3_teacherFor_7 (by decide) (fun h => absurd h (nI_ge (b := 8) hi (by omega))) (fun _ => ?_)
        refine x_aload_n C dX3_teacherFor_10 rfl ?_
        refine x_get C kf_X3_11 vput_0 rfl dX3_teacherFor_11 ?_
        refine x_iload_n C dX3_teacherFor_14 rfl ?_
        refine x_aald2 (t0 := 2) C vput_1 rfl rfl hi (by decide) dX3_teacherFor_15 ?_
        refine x_astore C dX3_teacherFor_16 (by decide) rfl ?_
        refine x_iload_n C dX3_teacherFor_18 rfl ?_
        refine x_iload_n C dX3_teacherFor_19 rfl ?_
        refine x_ic_eq C 67 dX3_teacherFor_20 (by decide) (fun h20 => ?_) (fun h20 => ?_)
        · refine x_iinc C dX3_teacherFor_67 rfl (nI_inc _) (by decide) rfl ?_
          refine x_goto C 4 dX3_teacherFor_70 (by decide) ?_
          refine xX.cl ih rfl (And.intro rfl (And.intro rfl (And.intro ?_ (And.intro rfl trivial)))) rfl
          rw [teS_sk (Or.inl ((nI_eq (by omega) (by omega)).mp h20)), hy]; rfl
        · refine x_aload C dX3_teacherFor_23 rfl ?_
          refine x_get C kf_X3_55 (vput_s hi) rfl dX3_teacherFor_25 ?_
          refine x_feq C 67 dX3_teacherFor_28 (by decide) (fun h28 => ?_) (fun h28 => ?_)
          · refine x_iinc C dX3_teacherFor_67 rfl (nI_inc _) (by decide) rfl ?_
            refine x_goto C 4 dX3_teacherFor_70 (by decide) ?_
            refine xX.cl ih rfl (And.intro rfl (And.intro rfl (And.intro ?_ (And.intro rfl trivial)))) rfl
            rw [teS_sk (Or.inr (Or.inl h28)), hy]; rfl
          · refine x_aload C dX3_teacherFor_31 rfl ?_
            refine x_get C kf_X3_104 (vput_s hi) rfl dX3_teacherFor_33 ?_
            refine x_aload_n C dX3_teacherFor_36 rfl ?_
            refine x_get C kf_X3_18 vput_0 rfl dX3_teacherFor_37 ?_
            refine x_iconst (v := 2) C dX3_teacherFor_40 (by decide) ?_
            refine x_iald2 C vput_18 rfl (by decide) (by decide) dX3_teacherFor_41 ?_
            refine x_ic_le C 48 dX3_teacherFor_42 (by decide) (fun h42 => ?_) (fun h42 => ?_)
            · refine x_aload_nN C dX3_teacherFor_48 rfl ?_
              refine x_ifnullN C 64 dX3_teacherFor_49 (by decide) ?_
              refine x_aload C dX3_teacherFor_64 rfl ?_
              refine x_astore_n C dX3_teacherFor_66 (by decide) rfl ?_
              refine x_iinc C dX3_teacherFor_67 rfl (nI_inc _) (by decide) rfl ?_
              refine x_goto C 4 dX3_teacherFor_70 (by decide) ?_
              refine xX.cl ih rfl (And.intro rfl (And.intro rfl (And.intro ?_ (And.intro rfl trivial)))) rfl
              rw [teS_n (fun z => h20 (by rw [z])) h28 h42 hy]; rfl
            · refine x_goto C 67 dX3_teacherFor_45 (by decide) ?_
              refine x_iinc C dX3_teacherFor_67 rfl (nI_inc _) (by decide) rfl ?_
              refine x_goto C 4 dX3_teacherFor_70 (by decide) ?_
              refine xX.cl ih rfl (And.intro rfl (And.intro rfl (And.intro ?_ (And.intro rfl trivial)))) rfl
              rw [teS_sk (Or.inr (Or.inr h42)), hy]; rfl
      | some y =>
        show xX k0 N 0 0 (vput E σ b V) 4 [some (.ref b), some (.int (nI c)), some (.ref (b + 2 + 2 * y)), some (.int (nI i)), none] []
        have hy8 : y < 8 := by have := (teS_in hy).1; omega
        refine x_iload_n C dX3_teacherFor_4 rfl ?_
        refine x_bipush (v := 8) C dX3_teacherFor_5 (by decide) ?_
        refine x_ic_ge C 73 dX3_teacherFor_7 (by decide) (fun h => absurd h (nI_ge (b := 8) hi (by omega))) (fun _ => ?_)
        refine x_aload_n C dX3_teacherFor_10 rfl ?_
        refine x_get C kf_X3_11 vput_0 rfl dX3_teacherFor_11 ?_
        refine x_iload_n C dX3_teacherFor_14 rfl ?_
        refine x_aald2 (t0 := 2) C vput_1 rfl rfl hi (by decide) dX3_teacherFor_15 ?_
        refine x_astore C dX3_teacherFor_16 (by decide) rfl ?_
        refine x_iload_n C dX3_teacherFor_18 rfl ?_
        refine x_iload_n C dX3_teacherFor_19 rfl ?_
        refine x_ic_eq C 67 dX3_teacherFor_20 (by decide) (fun h20 => ?_) (fun h20 => ?_)
        · refine x_iinc C dX3_teacherFor_67 rfl (nI_inc _) (by decide) rfl ?_
          refine x_goto C 4 dX3_teacherFor_70 (by decide) ?_
          refine xX.cl ih rfl (And.intro rfl (And.intro rfl (And.intro ?_ (And.intro rfl trivial)))) rfl
          rw [teS_sk (Or.inl ((nI_eq (by omega) (by omega)).mp h20)), hy]; rfl
        · refine x_aload C dX3_teacherFor_23 rfl ?_
          refine x_get C kf_X3_55 (vput_s hi) rfl dX3_teacherFor_25 ?_
          refine x_feq C 67 dX3_teacherFor_28 (by decide) (fun h28 => ?_) (fun h28 => ?_)
          · refine x_iinc C dX3_teacherFor_67 rfl (nI_inc _) (by decide) rfl ?_
            refine x_goto C 4 dX3_teacherFor_70 (by decide) ?_
            refine xX.cl ih rfl (And.intro rfl (And.intro rfl (And.intro ?_ (And.intro rfl trivial)))) rfl
            rw [teS_sk (Or.inr (Or.inl h28)), hy]; rfl
          · refine x_aload C dX3_teacherFor_31 rfl ?_
            refine x_get C kf_X3_104 (vput_s hi) rfl dX3_teacherFor_33 ?_
            refine x_aload_n C dX3_teacherFor_36 rfl ?_
            refine x_get C kf_X3_18 vput_0 rfl dX3_teacherFor_37 ?_
            refine x_iconst (v := 2) C dX3_teacherFor_40 (by decide) ?_
            refine x_iald2 C vput_18 rfl (by decide) (by decide) dX3_teacherFor_41 ?_
            refine x_ic_le C 48 dX3_teacherFor_42 (by decide) (fun h42 => ?_) (fun h42 => ?_)
            · refine x_aload_n C dX3_teacherFor_48 rfl ?_
              refine x_ifnull C dX3_teacherFor_49 ?_
              refine x_aload C dX3_teacherFor_52 rfl ?_
              refine x_get C kf_X3_104 (vput_s hi) rfl dX3_teacherFor_54 ?_
              refine x_aload_n C dX3_teacherFor_57 rfl ?_
              refine x_get C kf_X3_104 (vput_s hy8) rfl dX3_teacherFor_58 ?_
              refine x_ic_ge C 67 dX3_teacherFor_61 (by decide) (fun h61 => ?_) (fun h61 => ?_)
              · refine x_iinc C dX3_teacherFor_67 rfl (nI_inc _) (by decide) rfl ?_
                refine x_goto C 4 dX3_teacherFor_70 (by decide) ?_
                refine xX.cl ih rfl (And.intro rfl (And.intro rfl (And.intro ?_ (And.intro rfl trivial)))) rfl
                rw [teS_k (fun z => h20 (by rw [z])) h28 h42 hy h61]; rfl
              · refine x_aload C dX3_teacherFor_64 rfl ?_
                refine x_astore_n C dX3_teacherFor_66 (by decide) rfl ?_
                refine x_iinc C dX3_teacherFor_67 rfl (nI_inc _) (by decide) rfl ?_
                refine x_goto C 4 dX3_teacherFor_70 (by decide) ?_
                refine xX.cl ih rfl (And.intro rfl (And.intro rfl (And.intro ?_ (And.intro rfl trivial)))) rfl
                rw [teS_u (fun z => h20 (by rw [z])) h28 h42 hy h61]; rfl
            · refine x_goto C 67 dX3_teacherFor_45 (by decide) ?_
              refine x_iinc C dX3_teacherFor_67 rfl (nI_inc _) (by decide) rfl ?_
              refine x_goto C 4 dX3_teacherFor_70 (by decide) ?_
              refine xX.cl ih rfl (And.intro rfl (And.intro rfl (And.intro ?_ (And.intro rfl trivial)))) rfl
              rw [teS_sk (Or.inr (Or.inr h42)), hy]; rfl
  refine x_null C dX3_teacherFor_0 ?_
  refine x_astore_nN C dX3_teacherFor_1 (by decide) rfl ?_
  refine x_iconst (v := 0) C dX3_teacherFor_2 (by decide) ?_
  refine x_istore_n C dX3_teacherFor_3 (by decide) rfl ?_
  refine xX.cl (hl 0 (by omega)) rfl (And.intro rfl (And.intro rfl (And.intro rfl (And.intro rfl trivial)))) rfl
end
section
set_option maxRecDepth 100000 in
set_option maxHeartbeats 1000000 in
theorem c_X3_sumOfWeights {l : Launch} {E : xEnv} {B N : Nat} {σ : Sg} {b : Nat} {V : Vs} : xM l yX3_sumOfWeights cX3_sumOfWeights 3 (some .int) 1 25 0 0 E B [.ref b] N (vput E σ b V) N (vput E σ b V) (some (.int (swL V 8))) := by
  refine xM_of [some (.ref _), none, none] (by decide +kernel) (Nat.le_of_ble_eq_true rfl) rfl (fun k0 C Z => ?_)
  have hl : ∀ i, i ≤ 8 → xX k0 N 0 0 (vput E σ b V) 4 [some (.ref b), some (.int (swL V i)), some (.int (nI i))] [] := by
    refine x_for 8 ?_ ?_
    · refine x_iload_n C dX3_sumOfWeights_4 rfl ?_
      refine x_bipush (v := 8) C dX3_sumOfWeights_5 (by decide) ?_
      refine x_ic_ge C 40 dX3_sumOfWeights_7 (by decide) (fun _ => ?_) (fun h => absurd (nI_le (a := 8) (Nat.le_refl _) (by omega)) h)
      refine x_iload_n C dX3_sumOfWeights_40 rfl ?_
      exact x_zret C Z dX3_sumOfWeights_41 rfl (Nat.le_of_ble_eq_true rfl) (Nat.le_of_ble_eq_true rfl) rfl rfl rfl
    · intro i hi ih
      refine x_iload_n C dX3_sumOfWeights_4 rfl ?_
      refine x_bipush (v := 8) C dX3_sumOfWeights_5 (by decide) ?_
      refine x_ic_ge C 40 dX3_sumOfWeights_7 (by decide) (fun h => absurd h (nI_ge (b := 8) hi (by omega))) (fun _ => ?_)
      refine x_aload_n C dX3_sumOfWeights_10 rfl ?_
      refine x_get C kf_X3_11 vput_0 rfl dX3_sumOfWeights_11 ?_
      refine x_iload_n C dX3_sumOfWeights_14 rfl ?_
      refine x_aald2 (t0 := 2) C vput_1 rfl rfl hi (by decide) dX3_sumOfWeights_15 ?_
      refine x_get C kf_X3_55 (vput_s hi) rfl dX3_sumOfWeights_16 ?_
      refine x_feq C 34 dX3_sumOfWeights_19 (by decide) (fun h19 => ?_) (fun h19 => ?_)
      · refine x_iinc C dX3_sumOfWeights_34 rfl (nI_inc _) (by decide) rfl ?_
        refine x_goto C 4 dX3_sumOfWeights_37 (by decide) ?_
        refine xX.cl ih rfl (And.intro rfl (And.intro ?_ (And.intro rfl trivial))) rfl
        rw [swL, if_neg h19]; rfl
      · refine x_iload_n C dX3_sumOfWeights_22 rfl ?_
        refine x_aload_n C dX3_sumOfWeights_23 rfl ?_
        refine x_get C kf_X3_11 vput_0 rfl dX3_sumOfWeights_24 ?_
        refine x_iload_n C dX3_sumOfWeights_27 rfl ?_
        refine x_aald2 (t0 := 2) C vput_1 rfl rfl hi (by decide) dX3_sumOfWeights_28 ?_
        refine x_callV C (c_X2_sumOfWeights hi) kv_X2_sumOfWeights kl_X3_124 dX3_sumOfWeights_29 (vput_s hi) rfl rfl rfl rfl (Nat.le_of_ble_eq_true rfl) (Nat.le_of_ble_eq_true rfl) (Nat.le_of_ble_eq_true rfl) (Nat.le_of_ble_eq_true rfl) (Nat.le_of_ble_eq_true rfl) ?_
        refine x_iadd C dX3_sumOfWeights_32 ?_
        refine x_istore_n C dX3_sumOfWeights_33 (by decide) rfl ?_
        refine x_iinc C dX3_sumOfWeights_34 rfl (nI_inc _) (by decide) rfl ?_
        refine x_goto C 4 dX3_sumOfWeights_37 (by decide) ?_
        refine xX.cl ih rfl (And.intro rfl (And.intro ?_ (And.intro rfl trivial))) rfl
        rw [swL, if_pos h19]; rfl
  refine x_iconst (v := 0) C dX3_sumOfWeights_0 (by decide) ?_
  refine x_istore_n C dX3_sumOfWeights_1 (by decide) rfl ?_
  refine x_iconst (v := 0) C dX3_sumOfWeights_2 (by decide) ?_
  refine x_istore_n C dX3_sumOfWeights_3 (by decide) rfl ?_
  refine xX.cl (hl 0 (by omega)) rfl (And.intro rfl (And.intro rfl (And.intro rfl trivial))) rfl
set_option maxRecDepth 100000 in
set_option maxHeartbeats 1000000 in
theorem c_X3_numberOf {l : Launch} {E : xEnv} {B N : Nat} {σ : Sg} {b : Nat} {V : Vs} {j : Nat} (hj : j < 7) : xM l yX3_numberOf cX3_numberOf 2 (some .int) 2 47 0 0 E B [.ref b, .int (nI j)] N (vput E σ b V) N (vput E σ b V) (some (.int (nuS V j))) := by
  rcases (show j = 0 ∨ j = 1 ∨ j = 2 ∨ j = 3 ∨ j = 4 ∨ j = 5 ∨ j = 6 by omega) with rfl | rfl | rfl | rfl | rfl | rfl | rfl
  · refine xM_of [some (.ref _), some (.int _)] (by decide +kernel) (Nat.le_of_ble_eq_true rfl) rfl (fun k0 C Z => ?_)
    refine x_iload_n C dX3_numberOf_0 rfl ?_
    refine x_tbI C 40 dX3_numberOf_1 (by decide) (by decide) rfl (by decide) ?_
    refine x_aload_n C dX3_numberOf_40 rfl ?_
    refine x_callV C c_X3_countSpeakers kv_X3_countSpeakers kl_X3_85 dX3_numberOf_41 vput_0 rfl rfl rfl rfl (Nat.le_of_ble_eq_true rfl) (Nat.le_of_ble_eq_true rfl) (Nat.le_of_ble_eq_true rfl) (Nat.le_of_ble_eq_true rfl) (Nat.le_of_ble_eq_true rfl) ?_
    exact x_zret C Z dX3_numberOf_44 rfl (Nat.le_of_ble_eq_true rfl) (Nat.le_of_ble_eq_true rfl) rfl rfl rfl
  · refine xM_of [some (.ref _), some (.int _)] (by decide +kernel) (Nat.le_of_ble_eq_true rfl) rfl (fun k0 C Z => ?_)
    refine x_iload_n C dX3_numberOf_0 rfl ?_
    refine x_tbI C 45 dX3_numberOf_1 (by decide) (by decide) rfl (by decide) ?_
    refine x_aload_n C dX3_numberOf_45 rfl ?_
    refine x_get C kf_X3_25 vput_0 rfl dX3_numberOf_46 ?_
    exact x_zret C Z dX3_numberOf_49 rfl (Nat.le_of_ble_eq_true rfl) (Nat.le_of_ble_eq_true rfl) rfl rfl rfl
  · refine xM_of [some (.ref _), some (.int _)] (by decide +kernel) (Nat.le_of_ble_eq_true rfl) rfl (fun k0 C Z => ?_)
    refine x_iload_n C dX3_numberOf_0 rfl ?_
    refine x_tbI C 50 dX3_numberOf_1 (by decide) (by decide) rfl (by decide) ?_
    refine x_aload_n C dX3_numberOf_50 rfl ?_
    refine x_get C kf_X3_39 vput_0 rfl dX3_numberOf_51 ?_
    exact x_zret C Z dX3_numberOf_54 rfl (Nat.le_of_ble_eq_true rfl) (Nat.le_of_ble_eq_true rfl) rfl rfl rfl
  · refine xM_of [some (.ref _), some (.int _)] (by decide +kernel) (Nat.le_of_ble_eq_true rfl) rfl (fun k0 C Z => ?_)
    refine x_iload_n C dX3_numberOf_0 rfl ?_
    refine x_tbI C 55 dX3_numberOf_1 (by decide) (by decide) rfl (by decide) ?_
    refine x_aload_n C dX3_numberOf_55 rfl ?_
    refine x_get C kf_X3_42 vput_0 rfl dX3_numberOf_56 ?_
    exact x_zret C Z dX3_numberOf_59 rfl (Nat.le_of_ble_eq_true rfl) (Nat.le_of_ble_eq_true rfl) rfl rfl rfl
  · refine xM_of [some (.ref _), some (.int _)] (by decide +kernel) (Nat.le_of_ble_eq_true rfl) rfl (fun k0 C Z => ?_)
    refine x_iload_n C dX3_numberOf_0 rfl ?_
    refine x_tbI C 60 dX3_numberOf_1 (by decide) (by decide) rfl (by decide) ?_
    refine x_aload_n C dX3_numberOf_60 rfl ?_
    refine x_get C kf_X3_45 vput_0 rfl dX3_numberOf_61 ?_
    exact x_zret C Z dX3_numberOf_64 rfl (Nat.le_of_ble_eq_true rfl) (Nat.le_of_ble_eq_true rfl) rfl rfl rfl
  · refine xM_of [some (.ref _), some (.int _)] (by decide +kernel) (Nat.le_of_ble_eq_true rfl) rfl (fun k0 C Z => ?_)
    refine x_iload_n C dX3_numberOf_0 rfl ?_
    refine x_tbI C 65 dX3_numberOf_1 (by decide) (by decide) rfl (by decide) ?_
    refine x_aload_n C dX3_numberOf_65 rfl ?_
    refine x_get C kf_X3_48 vput_0 rfl dX3_numberOf_66 ?_
    exact x_zret C Z dX3_numberOf_69 rfl (Nat.le_of_ble_eq_true rfl) (Nat.le_of_ble_eq_true rfl) rfl rfl rfl
  · refine xM_of [some (.ref _), some (.int _)] (by decide +kernel) (Nat.le_of_ble_eq_true rfl) rfl (fun k0 C Z => ?_)
    refine x_iload_n C dX3_numberOf_0 rfl ?_
    refine x_tbO C 70 dX3_numberOf_1 (Or.inr (by decide)) (by decide) ?_
    refine x_aload_n C dX3_numberOf_70 rfl ?_
    refine x_callV C c_X3_sumOfWeights kv_X3_sumOfWeights kl_X3_112 dX3_numberOf_71 vput_0 rfl rfl rfl rfl (Nat.le_of_ble_eq_true rfl) (Nat.le_of_ble_eq_true rfl) (Nat.le_of_ble_eq_true rfl) (Nat.le_of_ble_eq_true rfl) (Nat.le_of_ble_eq_true rfl) ?_
    exact x_zret C Z dX3_numberOf_74 rfl (Nat.le_of_ble_eq_true rfl) (Nat.le_of_ble_eq_true rfl) rfl rfl rfl
set_option maxRecDepth 100000 in
set_option maxHeartbeats 1000000 in
theorem c_X3_numberOfSpeaker {l : Launch} {E : xEnv} {B N : Nat} {σ : Sg} {b : Nat} {V : Vs} {k j : Nat} (hk : k < 8) (hj : j < 5) : xM l yX3_numberOfSpeaker cX3_numberOfSpeaker 3 (some .int) 4 91 0 0 E B [.ref b, .ref (b + 2 + 2 * k), .int (nI j)] N (vput E σ b V) N (vput E σ b V) (some (.int (nsS V k j))) := by
  rcases (show j = 0 ∨ j = 1 ∨ j = 2 ∨ j = 3 ∨ j = 4 by omega) with rfl | rfl | rfl | rfl | rfl
  · refine xM_of [some (.ref _), some (.ref _), some (.int _)] (by decide +kernel) (Nat.le_of_ble_eq_true rfl) rfl (fun k0 C Z => ?_)
    refine x_iload_n C dX3_numberOfSpeaker_0 rfl ?_
    refine x_tbI C 32 dX3_numberOfSpeaker_1 (by decide) (by decide) rfl (by decide) ?_
    refine x_aload_n C dX3_numberOfSpeaker_32 rfl ?_
    refine x_get C kf_X3_104 (vput_s hk) rfl dX3_numberOfSpeaker_33 ?_
    exact x_zret C Z dX3_numberOfSpeaker_36 rfl (Nat.le_of_ble_eq_true rfl) (Nat.le_of_ble_eq_true rfl) rfl rfl rfl
  · refine xM_of [some (.ref _), some (.ref _), some (.int _)] (by decide +kernel) (Nat.le_of_ble_eq_true rfl) rfl (fun k0 C Z => ?_)
    refine x_iload_n C dX3_numberOfSpeaker_0 rfl ?_
    refine x_tbI C 37 dX3_numberOfSpeaker_1 (by decide) (by decide) rfl (by decide) ?_
    refine x_aload_n C dX3_numberOfSpeaker_37 rfl ?_
    refine x_aload_n C dX3_numberOfSpeaker_38 rfl ?_
    refine x_get C kf_X3_18 vput_0 rfl dX3_numberOfSpeaker_39 ?_
    refine x_iconst (v := 0) C dX3_numberOfSpeaker_42 (by decide) ?_
    refine x_iald2 C vput_18 rfl (by decide) (by decide) dX3_numberOfSpeaker_43 ?_
    refine x_callV C (c_X2_learnsWith hk _) kv_X2_learnsWith kl_X3_115 dX3_numberOfSpeaker_44 (vput_s hk) rfl rfl rfl rfl (Nat.le_of_ble_eq_true rfl) (Nat.le_of_ble_eq_true rfl) (Nat.le_of_ble_eq_true rfl) (Nat.le_of_ble_eq_true rfl) (Nat.le_of_ble_eq_true rfl) ?_
    exact x_zret C Z dX3_numberOfSpeaker_47 rfl (Nat.le_of_ble_eq_true rfl) (Nat.le_of_ble_eq_true rfl) rfl rfl rfl
  · refine xM_of [some (.ref _), some (.ref _), some (.int _)] (by decide +kernel) (Nat.le_of_ble_eq_true rfl) rfl (fun k0 C Z => ?_)
    refine x_iload_n C dX3_numberOfSpeaker_0 rfl ?_
    refine x_tbI C 48 dX3_numberOfSpeaker_1 (by decide) (by decide) rfl (by decide) ?_
    refine x_aload_n C dX3_numberOfSpeaker_48 rfl ?_
    refine x_callV C (c_X2_countWords hk) kv_X2_countWords kl_X3_118 dX3_numberOfSpeaker_49 (vput_s hk) rfl rfl rfl rfl (Nat.le_of_ble_eq_true rfl) (Nat.le_of_ble_eq_true rfl) (Nat.le_of_ble_eq_true rfl) (Nat.le_of_ble_eq_true rfl) (Nat.le_of_ble_eq_true rfl) ?_
    exact x_zret C Z dX3_numberOfSpeaker_52 rfl (Nat.le_of_ble_eq_true rfl) (Nat.le_of_ble_eq_true rfl) rfl rfl rfl
  · refine xM_of [some (.ref _), some (.ref _), some (.int _)] (by decide +kernel) (Nat.le_of_ble_eq_true rfl) rfl (fun k0 C Z => ?_)
    refine x_iload_n C dX3_numberOfSpeaker_0 rfl ?_
    refine x_tbI C 53 dX3_numberOfSpeaker_1 (by decide) (by decide) rfl (by decide) ?_
    refine x_aload_n C dX3_numberOfSpeaker_53 rfl ?_
    refine x_callV C (c_X2_countConfusions hk) kv_X2_countConfusions kl_X3_121 dX3_numberOfSpeaker_54 (vput_s hk) rfl rfl rfl rfl (Nat.le_of_ble_eq_true rfl) (Nat.le_of_ble_eq_true rfl) (Nat.le_of_ble_eq_true rfl) (Nat.le_of_ble_eq_true rfl) (Nat.le_of_ble_eq_true rfl) ?_
    exact x_zret C Z dX3_numberOfSpeaker_57 rfl (Nat.le_of_ble_eq_true rfl) (Nat.le_of_ble_eq_true rfl) rfl rfl rfl
  · refine xM_of [some (.ref _), some (.ref _), some (.int _)] (by decide +kernel) (Nat.le_of_ble_eq_true rfl) rfl (fun k0 C Z => ?_)
    refine x_iload_n C dX3_numberOfSpeaker_0 rfl ?_
    refine x_tbO C 58 dX3_numberOfSpeaker_1 (Or.inr (by decide)) (by decide) ?_
    refine x_aload_n C dX3_numberOfSpeaker_58 rfl ?_
    refine x_get C kf_X3_73 (vput_s hk) rfl dX3_numberOfSpeaker_59 ?_
    exact x_zret C Z dX3_numberOfSpeaker_62 rfl (Nat.le_of_ble_eq_true rfl) (Nat.le_of_ble_eq_true rfl) rfl rfl rfl
set_option maxRecDepth 100000 in
set_option maxHeartbeats 1000000 in
theorem c_X3_countUsers {l : Launch} {E : xEnv} {B N : Nat} {σ : Sg} {b : Nat} {V : Vs} {m : Nat} (hm : m < 6) : xM l yX3_countUsers cX3_countUsers 4 none 3 67 0 0 E B [.ref b, .int (nI m)] N (vput E σ b V) N (vput E σ b (usR V m 8)) none := by
  refine xM_of [some (.ref _), some (.int _), none, none] (by decide +kernel) (Nat.le_of_ble_eq_true rfl) rfl (fun k0 C Z => ?_)
  have hl2 : ∀ i, i ≤ 8 → xX k0 N 0 0 (vput E σ b (usR V m i)) 23 [some (.ref b), some (.int (nI m)), some (.int (nI i)), none] [] := by
    refine x_for 8 ?_ ?_
    · refine x_iload_n C dX3_countUsers_23 rfl ?_
      refine x_bipush (v := 8) C dX3_countUsers_24 (by decide) ?_
      refine x_ic_ge C 80 dX3_countUsers_26 (by decide) (fun _ => ?_) (fun h => absurd (nI_le (a := 8) (Nat.le_refl _) (by omega)) h)
      exact x_vret C Z dX3_countUsers_80 (Nat.le_of_ble_eq_true rfl) (Nat.le_of_ble_eq_true rfl) rfl rfl
    · intro i hi ih
      refine x_iload_n C dX3_countUsers_23 rfl ?_
      refine x_bipush (v := 8) C dX3_countUsers_24 (by decide) ?_
      refine x_ic_ge C 80 dX3_countUsers_26 (by decide) (fun h => absurd h (nI_ge (b := 8) hi (by omega))) (fun _ => ?_)
      refine x_aload_n C dX3_countUsers_29 rfl ?_
      refine x_get C kf_X3_11 vput_0 rfl dX3_countUsers_30 ?_
      refine x_iload_n C dX3_countUsers_33 rfl ?_
      refine x_aald2 (t0 := 2) C vput_1 rfl rfl hi (by decide) dX3_countUsers_34 ?_
      refine x_get C kf_X3_55 (vput_s hi) rfl dX3_countUsers_35 ?_
      refine x_feq C 54 dX3_countUsers_38 (by decide) (fun h38 => ?_) (fun h38 => ?_)
      · rw [usR_r (by decide)] at h38
        refine x_bipush (v := (-6)) C dX3_countUsers_54 (by decide) ?_
        refine x_istore_n C dX3_countUsers_56 (by decide) rfl ?_
        refine x_iload_n C dX3_countUsers_57 rfl ?_
        refine x_callS C (c_X4_isWord _) ks_X4_isWord kl_X3_129 dX3_countUsers_58 rfl rfl rfl rfl (Nat.le_of_ble_eq_true rfl) (Nat.le_of_ble_eq_true rfl) (Nat.le_of_ble_eq_true rfl) (Nat.le_of_ble_eq_true rfl) (Nat.le_of_ble_eq_true rfl) ?_
        refine x_beq C 74 dX3_countUsers_61 (by decide) (fun _ => ?_) (fun h => absurd h (show ¬ (0 ≤ (-6 : Int32) ∧ (-6 : Int32) < 14) by decide))
        refine x_iinc C dX3_countUsers_74 rfl (nI_inc _) (by decide) rfl ?_
        refine x_goto C 23 dX3_countUsers_77 (by decide) ?_
        refine xX.cl ih (congrArg _ (usR_f (fun w z => h38 z.1))) (And.intro rfl (And.intro rfl (And.intro rfl trivial))) rfl
      · rw [usR_r (by decide)] at h38
        refine x_aload_n C dX3_countUsers_41 rfl ?_
        refine x_get C kf_X3_11 vput_0 rfl dX3_countUsers_42 ?_
        refine x_iload_n C dX3_countUsers_45 rfl ?_
        refine x_aald2 (t0 := 2) C vput_1 rfl rfl hi (by decide) dX3_countUsers_46 ?_
        refine x_iload_n C dX3_countUsers_47 rfl ?_
        refine x_callV C (c_X2_wordFor hi hm) kv_X2_wordFor kl_X3_63 dX3_countUsers_48 (vput_s hi) rfl rfl rfl rfl (Nat.le_of_ble_eq_true rfl) (Nat.le_of_ble_eq_true rfl) (Nat.le_of_ble_eq_true rfl) (Nat.le_of_ble_eq_true rfl) (Nat.le_of_ble_eq_true rfl) ?_
        refine x_goto C 56 dX3_countUsers_51 (by decide) ?_
        refine x_istore_n C dX3_countUsers_56 (by decide) rfl ?_
        rw [usR_r (show i ≠ 13 by omega)]
        cases hq : wfS (V i) m with
        | none =>
          refine x_iload_n C dX3_countUsers_57 rfl ?_
          refine x_callS C (c_X4_isWord _) ks_X4_isWord kl_X3_129 dX3_countUsers_58 rfl rfl rfl rfl (Nat.le_of_ble_eq_true rfl) (Nat.le_of_ble_eq_true rfl) (Nat.le_of_ble_eq_true rfl) (Nat.le_of_ble_eq_true rfl) (Nat.le_of_ble_eq_true rfl) ?_
          refine x_beq C 74 dX3_countUsers_61 (by decide) (fun _ => ?_) (fun h => absurd h (show ¬ (0 ≤ (-6 : Int32) ∧ (-6 : Int32) < 14) by decide))
          refine x_iinc C dX3_countUsers_74 rfl (nI_inc _) (by decide) rfl ?_
          refine x_goto C 23 dX3_countUsers_77 (by decide) ?_
          refine xX.cl ih (congrArg _ (usR_f (fun w z => by rw [hq] at z; cases z.2))) (And.intro rfl (And.intro rfl (And.intro rfl trivial))) rfl
        | some w =>
          refine x_iload_n C dX3_countUsers_57 rfl ?_
          refine x_callS C (c_X4_isWord _) ks_X4_isWord kl_X3_129 dX3_countUsers_58 rfl rfl rfl rfl (Nat.le_of_ble_eq_true rfl) (Nat.le_of_ble_eq_true rfl) (Nat.le_of_ble_eq_true rfl) (Nat.le_of_ble_eq_true rfl) (Nat.le_of_ble_eq_true rfl) ?_
          refine x_beq C 74 dX3_countUsers_61 (by decide) (fun h => absurd (bd_in (c := 14) (wfS_in hq) (by decide)) h) (fun _ => ?_)
          refine x_aload_n C dX3_countUsers_64 rfl ?_
          refine x_get C kf_X3_22 vput_0 rfl dX3_countUsers_65 ?_
          refine x_iload_n C dX3_countUsers_68 rfl ?_
          refine x_dup2 C dX3_countUsers_69 rfl rfl ?_
          refine x_iald2 C vput_19 rfl (wfS_in hq) (by decide) dX3_countUsers_70 ?_
          refine x_iconst (v := 1) C dX3_countUsers_71 (by decide) ?_
          refine x_iadd C dX3_countUsers_72 ?_
          refine x_iast2 C vput_19 rfl (wfS_in hq) (by decide) (fun _ _ => rfl) (vput_us _ _) dX3_countUsers_73 ?_
          refine x_iinc C dX3_countUsers_74 rfl (nI_inc _) (by decide) rfl ?_
          refine x_goto C 23 dX3_countUsers_77 (by decide) ?_
          refine xX.cl ih (congrArg _ (usR_t h38 hq)) (And.intro rfl (And.intro rfl (And.intro rfl trivial))) rfl
  have hl : ∀ i, i ≤ 14 → xX k0 N 0 0 (vput E σ b (usZ V i)) 2 [some (.ref b), some (.int (nI m)), some (.int (nI i)), none] [] := by
    refine x_for 14 ?_ ?_
    · refine x_iload_n C dX3_countUsers_2 rfl ?_
      refine x_bipush (v := 14) C dX3_countUsers_3 (by decide) ?_
      refine x_ic_ge C 21 dX3_countUsers_5 (by decide) (fun _ => ?_) (fun h => absurd (nI_le (a := 14) (Nat.le_refl _) (by omega)) h)
      refine x_iconst (v := 0) C dX3_countUsers_21 (by decide) ?_
      refine x_istore_n C dX3_countUsers_22 (by decide) rfl ?_
      refine xX.cl (hl2 0 (by omega)) (congrArg _ usR_0) (And.intro rfl (And.intro rfl (And.intro rfl trivial))) rfl
    · intro i hi ih
      refine x_iload_n C dX3_countUsers_2 rfl ?_
      refine x_bipush (v := 14) C dX3_countUsers_3 (by decide) ?_
      refine x_ic_ge C 21 dX3_countUsers_5 (by decide) (fun h => absurd h (nI_ge (b := 14) hi (by omega))) (fun _ => ?_)
      refine x_aload_n C dX3_countUsers_8 rfl ?_
      refine x_get C kf_X3_22 vput_0 rfl dX3_countUsers_9 ?_
      refine x_iload_n C dX3_countUsers_12 rfl ?_
      refine x_iconst (v := 0) C dX3_countUsers_13 (by decide) ?_
      refine x_iast2 C vput_19 rfl hi (by decide) (fun _ _ => rfl) (vput_us _ _) dX3_countUsers_14 ?_
      refine x_iinc C dX3_countUsers_15 rfl (nI_inc _) (by decide) rfl ?_
      refine x_goto C 2 dX3_countUsers_18 (by decide) ?_
      refine xX.cl ih (congrArg _ usZ_s) (And.intro rfl (And.intro rfl (And.intro rfl trivial))) rfl
  refine x_iconst (v := 0) C dX3_countUsers_0 (by decide) ?_
  refine x_istore_n C dX3_countUsers_1 (by decide) rfl ?_
  refine xX.cl (hl 0 (by omega)) (congrArg _ usZ_0.symm) (And.intro rfl (And.intro rfl (And.intro rfl trivial))) rfl
set_option maxRecDepth 100000 in
set_option maxHeartbeats 1000000 in
theorem c_X3_commonWord {l : Launch} {E : xEnv} {B N : Nat} {σ : Sg} {b : Nat} {V : Vs} {m : Nat} (hm : m < 6) : xM l yX3_commonWord cX3_commonWord 5 (some .int) 4 90 0 0 E B [.ref b, .int (nI m)] N (vput E σ b V) N (vput E σ b (usR V m 8)) (some (.int (oI (cmS V m)))) := by
  refine xM_of [some (.ref _), some (.int _), none, none, none] (by decide +kernel) (Nat.le_of_ble_eq_true rfl) rfl (fun k0 C Z => ?_)
  have hl : ∀ i, i ≤ 14 → xX k0 N 0 0 (vput E σ b (usR V m 8)) 13 [some (.ref b), some (.int (nI m)), some (.int (oI (wfL (fun w => nI (cuN V m w 8)) i).1)), some (.int (wfL (fun w => nI (cuN V m w 8)) i).2), some (.int (nI i))] [] := by
    refine x_for 14 ?_ ?_
    · refine x_iload C dX3_commonWord_13 rfl ?_
      refine x_bipush (v := 14) C dX3_commonWord_15 (by decide) ?_
      refine x_ic_ge C 48 dX3_commonWord_17 (by decide) (fun _ => ?_) (fun h => absurd (nI_le (a := 14) (Nat.le_refl _) (by omega)) h)
      refine x_iload_n C dX3_commonWord_48 rfl ?_
      exact x_zret C Z dX3_commonWord_49 rfl (Nat.le_of_ble_eq_true rfl) (Nat.le_of_ble_eq_true rfl) rfl rfl rfl
    · intro i hi ih
      refine x_iload C dX3_commonWord_13 rfl ?_
      refine x_bipush (v := 14) C dX3_commonWord_15 (by decide) ?_
      refine x_ic_ge C 48 dX3_commonWord_17 (by decide) (fun h => absurd h (nI_ge (b := 14) hi (by omega))) (fun _ => ?_)
      refine x_aload_n C dX3_commonWord_20 rfl ?_
      refine x_get C kf_X3_22 vput_0 rfl dX3_commonWord_21 ?_
      refine x_iload C dX3_commonWord_24 rfl ?_
      refine x_iald2 C vput_19 rfl hi (by decide) dX3_commonWord_26 ?_
      rw [usR_w hi]
      refine x_iload_n C dX3_commonWord_27 rfl ?_
      refine x_ic_le C 42 dX3_commonWord_28 (by decide) (fun h28 => ?_) (fun h28 => ?_)
      · refine x_iinc C dX3_commonWord_42 rfl (nI_inc _) (by decide) rfl ?_
        refine x_goto C 13 dX3_commonWord_45 (by decide) ?_
        refine xX.cl ih rfl (And.intro rfl (And.intro rfl (And.intro ?_ (And.intro ?_ (And.intro rfl trivial))))) rfl
        all_goals (rw [wfL, if_pos h28]; rfl)
      · refine x_aload_n C dX3_commonWord_31 rfl ?_
        refine x_get C kf_X3_22 vput_0 rfl dX3_commonWord_32 ?_
        refine x_iload C dX3_commonWord_35 rfl ?_
        refine x_iald2 C vput_19 rfl hi (by decide) dX3_commonWord_37 ?_
        rw [usR_w hi]
        refine x_istore_n C dX3_commonWord_38 (by decide) rfl ?_
        refine x_iload C dX3_commonWord_39 rfl ?_
        refine x_istore_n C dX3_commonWord_41 (by decide) rfl ?_
        refine x_iinc C dX3_commonWord_42 rfl (nI_inc _) (by decide) rfl ?_
        refine x_goto C 13 dX3_commonWord_45 (by decide) ?_
        refine xX.cl ih rfl (And.intro rfl (And.intro rfl (And.intro ?_ (And.intro ?_ (And.intro rfl trivial))))) rfl
        all_goals (rw [wfL, if_neg h28]; rfl)
  refine x_aload_n C dX3_commonWord_0 rfl ?_
  refine x_iload_n C dX3_commonWord_1 rfl ?_
  refine x_callV C (c_X3_countUsers hm) kv_X3_countUsers kl_X3_125 dX3_commonWord_2 vput_0 rfl rfl rfl rfl (Nat.le_of_ble_eq_true rfl) (Nat.le_of_ble_eq_true rfl) (Nat.le_of_ble_eq_true rfl) (Nat.le_of_ble_eq_true rfl) (Nat.le_of_ble_eq_true rfl) ?_
  refine x_bipush (v := (-6)) C dX3_commonWord_5 (by decide) ?_
  refine x_istore_n C dX3_commonWord_7 (by decide) rfl ?_
  refine x_iconst (v := 0) C dX3_commonWord_8 (by decide) ?_
  refine x_istore_n C dX3_commonWord_9 (by decide) rfl ?_
  refine x_iconst (v := 0) C dX3_commonWord_10 (by decide) ?_
  refine x_istore C dX3_commonWord_11 (by decide) rfl ?_
  refine xX.cl (hl 0 (by omega)) rfl (And.intro rfl (And.intro rfl (And.intro rfl (And.intro rfl (And.intro rfl trivial))))) rfl
set_option maxRecDepth 100000 in
set_option maxHeartbeats 1000000 in
theorem c_X3_passYear {l : Launch} {E : xEnv} {B N : Nat} {σ : Sg} {b : Nat} {V : Vs} : xM l yX3_passYear cX3_passYear 3 none 3 69 0 0 E B [.ref b] N (vput E σ b V) N (vput E σ b (yrS V)) none := by
  refine xM_of [some (.ref _), none, none] (by decide +kernel) (Nat.le_of_ble_eq_true rfl) rfl (fun k0 C Z => ?_)
  have hl2 : ∀ i, i ≤ 8 → xX k0 N 0 0 (vput E σ b (byL (agL (up2 V 9 4 (V 9 4 + 1)) 8) i)) 53 [some (.ref b), some (.int (nI i)), none] [] := by
    refine x_for 8 ?_ ?_
    · refine x_iload_n C dX3_passYear_53 rfl ?_
      refine x_bipush (v := 8) C dX3_passYear_54 (by decide) ?_
      refine x_ic_ge C 117 dX3_passYear_56 (by decide) (fun _ => ?_) (fun h => absurd (nI_le (a := 8) (Nat.le_refl _) (by omega)) h)
      exact x_vret C Z dX3_passYear_117 (Nat.le_of_ble_eq_true rfl) (Nat.le_of_ble_eq_true rfl) rfl rfl
    · intro i hi ih
      refine x_iload_n C dX3_passYear_53 rfl ?_
      refine x_bipush (v := 8) C dX3_passYear_54 (by decide) ?_
      refine x_ic_ge C 117 dX3_passYear_56 (by decide) (fun h => absurd h (nI_ge (b := 8) hi (by omega))) (fun _ => ?_)
      refine x_aload_n C dX3_passYear_59 rfl ?_
      refine x_get C kf_X3_11 vput_0 rfl dX3_passYear_60 ?_
      refine x_iload_n C dX3_passYear_63 rfl ?_
      refine x_aald2 (t0 := 2) C vput_1 rfl rfl hi (by decide) dX3_passYear_64 ?_
      refine x_astore_n C dX3_passYear_65 (by decide) rfl ?_
      refine x_aload_n C dX3_passYear_66 rfl ?_
      refine x_get C kf_X3_55 (vput_s hi) rfl dX3_passYear_67 ?_
      refine x_feq C 111 dX3_passYear_70 (by decide) (fun h70 => ?_) (fun h70 => ?_)
      · refine x_iinc C dX3_passYear_111 rfl (nI_inc _) (by decide) rfl ?_
        refine x_goto C 53 dX3_passYear_114 (by decide) ?_
        refine xX.cl ih (congrArg _ (byK_f (fun z => h70 z.1)).symm) (And.intro rfl (And.intro rfl trivial)) rfl
      · refine x_aload_n C dX3_passYear_73 rfl ?_
        refine x_get C kf_X3_104 (vput_s hi) rfl dX3_passYear_74 ?_
        refine x_aload_n C dX3_passYear_77 rfl ?_
        refine x_get C kf_X3_18 vput_0 rfl dX3_passYear_78 ?_
        refine x_iconst (v := 2) C dX3_passYear_81 (by decide) ?_
        refine x_iald2 C vput_18 rfl (by decide) (by decide) dX3_passYear_82 ?_
        refine x_ic_le C 111 dX3_passYear_83 (by decide) (fun h83 => ?_) (fun h83 => ?_)
        · refine x_iinc C dX3_passYear_111 rfl (nI_inc _) (by decide) rfl ?_
          refine x_goto C 53 dX3_passYear_114 (by decide) ?_
          refine xX.cl ih (congrArg _ (byK_f (fun z => z.2 h83)).symm) (And.intro rfl (And.intro rfl trivial)) rfl
        · cases ht : teS (byL (agL (up2 V 9 4 (V 9 4 + 1)) 8) i) i 8 with
          | none =>
            refine x_aload_n C dX3_passYear_86 rfl ?_
            refine x_aload_n C dX3_passYear_87 rfl ?_
            refine x_iload_n C dX3_passYear_88 rfl ?_
            refine x_callV C (c_X3_teacherFor_none hi ht) kv_X3_teacherFor kl_X3_105 dX3_passYear_89 vput_0 rfl rfl rfl rfl (Nat.le_of_ble_eq_true rfl) (Nat.le_of_ble_eq_true rfl) (Nat.le_of_ble_eq_true rfl) (Nat.le_of_ble_eq_true rfl) (Nat.le_of_ble_eq_true rfl) ?_
            refine x_aload_n C dX3_passYear_92 rfl ?_
            refine x_get C kf_X3_18 vput_0 rfl dX3_passYear_93 ?_
            refine x_iconst (v := 3) C dX3_passYear_96 (by decide) ?_
            refine x_iald2 C vput_18 rfl (by decide) (by decide) dX3_passYear_97 ?_
            refine x_callV C (c_X2_beginLife_none hi _) kv_X2_beginLife kl_X3_108 dX3_passYear_98 (vput_s hi) rfl rfl rfl rfl (Nat.le_of_ble_eq_true rfl) (Nat.le_of_ble_eq_true rfl) (Nat.le_of_ble_eq_true rfl) (Nat.le_of_ble_eq_true rfl) (Nat.le_of_ble_eq_true rfl) ?_
            refine x_aload_n C dX3_passYear_101 rfl ?_
            refine x_dup C dX3_passYear_102 rfl ?_
            refine x_get C kf_X3_45 vput_0 rfl dX3_passYear_103 ?_
            refine x_iconst (v := 1) C dX3_passYear_106 (by decide) ?_
            refine x_iadd C dX3_passYear_107 ?_
            refine x_put (ty := .int) C kf_X3_45 vput_0 rfl (by decide +kernel) rfl rfl (Nat.le_of_ble_eq_true rfl) (vput_v3 _) dX3_passYear_108 ?_
            refine x_iinc C dX3_passYear_111 rfl (nI_inc _) (by decide) rfl ?_
            refine x_goto C 53 dX3_passYear_114 (by decide) ?_
            refine xX.cl ih (congrArg _ (byK_t ⟨h70, h83⟩ ht).symm) (And.intro rfl (And.intro rfl trivial)) rfl
          | some y =>
            have hy := teS_in ht
            refine x_aload_n C dX3_passYear_86 rfl ?_
            refine x_aload_n C dX3_passYear_87 rfl ?_
            refine x_iload_n C dX3_passYear_88 rfl ?_
            refine x_callV C (c_X3_teacherFor_some hi ht) kv_X3_teacherFor kl_X3_105 dX3_passYear_89 vput_0 rfl rfl rfl rfl (Nat.le_of_ble_eq_true rfl) (Nat.le_of_ble_eq_true rfl) (Nat.le_of_ble_eq_true rfl) (Nat.le_of_ble_eq_true rfl) (Nat.le_of_ble_eq_true rfl) ?_
            refine x_aload_n C dX3_passYear_92 rfl ?_
            refine x_get C kf_X3_18 vput_0 rfl dX3_passYear_93 ?_
            refine x_iconst (v := 3) C dX3_passYear_96 (by decide) ?_
            refine x_iald2 C vput_18 rfl (by decide) (by decide) dX3_passYear_97 ?_
            refine x_callV C (c_X2_beginLife_some hi hy.1 hy.2 _) kv_X2_beginLife kl_X3_108 dX3_passYear_98 (vput_s hi) rfl rfl rfl rfl (Nat.le_of_ble_eq_true rfl) (Nat.le_of_ble_eq_true rfl) (Nat.le_of_ble_eq_true rfl) (Nat.le_of_ble_eq_true rfl) (Nat.le_of_ble_eq_true rfl) ?_
            refine x_aload_n C dX3_passYear_101 rfl ?_
            refine x_dup C dX3_passYear_102 rfl ?_
            refine x_get C kf_X3_45 vput_0 rfl dX3_passYear_103 ?_
            refine x_iconst (v := 1) C dX3_passYear_106 (by decide) ?_
            refine x_iadd C dX3_passYear_107 ?_
            refine x_put (ty := .int) C kf_X3_45 vput_0 rfl (by decide +kernel) rfl rfl (Nat.le_of_ble_eq_true rfl) (vput_v3 _) dX3_passYear_108 ?_
            refine x_iinc C dX3_passYear_111 rfl (nI_inc _) (by decide) rfl ?_
            refine x_goto C 53 dX3_passYear_114 (by decide) ?_
            refine xX.cl ih (congrArg _ (byK_t ⟨h70, h83⟩ ht).symm) (And.intro rfl (And.intro rfl trivial)) rfl
  have hl : ∀ i, i ≤ 8 → xX k0 N 0 0 (vput E σ b (agL (up2 V 9 4 (V 9 4 + 1)) i)) 12 [some (.ref b), some (.int (nI i)), none] [] := by
    refine x_for 8 ?_ ?_
    · refine x_iload_n C dX3_passYear_12 rfl ?_
      refine x_bipush (v := 8) C dX3_passYear_13 (by decide) ?_
      refine x_ic_ge C 51 dX3_passYear_15 (by decide) (fun _ => ?_) (fun h => absurd (nI_le (a := 8) (Nat.le_refl _) (by omega)) h)
      refine x_iconst (v := 0) C dX3_passYear_51 (by decide) ?_
      refine x_istore_n C dX3_passYear_52 (by decide) rfl ?_
      refine xX.cl (hl2 0 (by omega)) rfl (And.intro rfl (And.intro rfl trivial)) rfl
    · intro i hi ih
      refine x_iload_n C dX3_passYear_12 rfl ?_
      refine x_bipush (v := 8) C dX3_passYear_13 (by decide) ?_
      refine x_ic_ge C 51 dX3_passYear_15 (by decide) (fun h => absurd h (nI_ge (b := 8) hi (by omega))) (fun _ => ?_)
      refine x_aload_n C dX3_passYear_18 rfl ?_
      refine x_get C kf_X3_11 vput_0 rfl dX3_passYear_19 ?_
      refine x_iload_n C dX3_passYear_22 rfl ?_
      refine x_aald2 (t0 := 2) C vput_1 rfl rfl hi (by decide) dX3_passYear_23 ?_
      refine x_get C kf_X3_55 (vput_s hi) rfl dX3_passYear_24 ?_
      refine x_feq C 45 dX3_passYear_27 (by decide) (fun h27 => ?_) (fun h27 => ?_)
      · rw [agL_10 (by decide)] at h27
        refine x_iinc C dX3_passYear_45 rfl (nI_inc _) (by decide) rfl ?_
        refine x_goto C 12 dX3_passYear_48 (by decide) ?_
        refine xX.cl ih (congrArg _ (agL_f h27)) (And.intro rfl (And.intro rfl trivial)) rfl
      · rw [agL_10 (by decide)] at h27
        refine x_aload_n C dX3_passYear_30 rfl ?_
        refine x_get C kf_X3_11 vput_0 rfl dX3_passYear_31 ?_
        refine x_iload_n C dX3_passYear_34 rfl ?_
        refine x_aald2 (t0 := 2) C vput_1 rfl rfl hi (by decide) dX3_passYear_35 ?_
        refine x_dup C dX3_passYear_36 rfl ?_
        refine x_get C kf_X3_104 (vput_s hi) rfl dX3_passYear_37 ?_
        refine x_iconst (v := 1) C dX3_passYear_40 (by decide) ?_
        refine x_iadd C dX3_passYear_41 ?_
        refine x_put (ty := .int) C kf_X3_104 (vput_s hi) rfl (by decide +kernel) rfl rfl (Nat.le_of_ble_eq_true rfl) (vput_a hi _) dX3_passYear_42 ?_
        refine x_iinc C dX3_passYear_45 rfl (nI_inc _) (by decide) rfl ?_
        refine x_goto C 12 dX3_passYear_48 (by decide) ?_
        refine xX.cl ih (congrArg _ (agL_t h27)) (And.intro rfl (And.intro rfl trivial)) rfl
  refine x_aload_n C dX3_passYear_0 rfl ?_
  refine x_dup C dX3_passYear_1 rfl ?_
  refine x_get C kf_X3_48 vput_0 rfl dX3_passYear_2 ?_
  refine x_iconst (v := 1) C dX3_passYear_5 (by decide) ?_
  refine x_iadd C dX3_passYear_6 ?_
  refine x_put (ty := .int) C kf_X3_48 vput_0 rfl (by decide +kernel) rfl rfl (Nat.le_of_ble_eq_true rfl) (vput_v4 _) dX3_passYear_7 ?_
  refine x_iconst (v := 0) C dX3_passYear_10 (by decide) ?_
  refine x_istore_n C dX3_passYear_11 (by decide) rfl ?_
  refine xX.cl (hl 0 (by omega)) (congrArg _ agL_0.symm) (And.intro rfl (And.intro rfl trivial)) rfl
set_option maxRecDepth 100000 in
set_option maxHeartbeats 1000000 in
theorem c_X3_passYears {l : Launch} {E : xEnv} {B N : Nat} {σ : Sg} {b : Nat} {V : Vs} {n : Nat} (hn : n < 2 ^ 31) : xM l yX3_passYears cX3_passYears 4 (some .int) 4 91 0 0 E B [.ref b, .int (nI n)] N (vput E σ b V) N (vput E σ b (yrL V n)) (some (.int (yrL V n 9 3 - V 9 3))) := by
  refine xM_of [some (.ref _), some (.int _), none, none] (by decide +kernel) (Nat.le_of_ble_eq_true rfl) rfl (fun k0 C Z => ?_)
  have hl : ∀ i, i ≤ n → xX k0 N 0 0 (vput E σ b (yrL V i)) 7 [some (.ref b), some (.int (nI n)), some (.int (V 9 3)), some (.int (nI i))] [] := by
    refine x_for n ?_ ?_
    · refine x_iload_n C dX3_passYears_7 rfl ?_
      refine x_iload_n C dX3_passYears_8 rfl ?_
      refine x_ic_ge C 22 dX3_passYears_9 (by decide) (fun _ => ?_) (fun h => absurd (nI_le (Nat.le_refl _) hn) h)
      refine x_aload_n C dX3_passYears_22 rfl ?_
      refine x_get C kf_X3_45 vput_0 rfl dX3_passYears_23 ?_
      refine x_iload_n C dX3_passYears_26 rfl ?_
      refine x_isub C dX3_passYears_27 ?_
      exact x_zret C Z dX3_passYears_28 rfl (Nat.le_of_ble_eq_true rfl) (Nat.le_of_ble_eq_true rfl) rfl rfl rfl
    · intro i hi ih
      refine x_iload_n C dX3_passYears_7 rfl ?_
      refine x_iload_n C dX3_passYears_8 rfl ?_
      refine x_ic_ge C 22 dX3_passYears_9 (by decide) (fun h => absurd h (nI_ge hi hn)) (fun _ => ?_)
      refine x_aload_n C dX3_passYears_12 rfl ?_
      refine x_callV C c_X3_passYear kv_X3_passYear kl_X3_101 dX3_passYears_13 vput_0 rfl rfl rfl rfl (Nat.le_of_ble_eq_true rfl) (Nat.le_of_ble_eq_true rfl) (Nat.le_of_ble_eq_true rfl) (Nat.le_of_ble_eq_true rfl) (Nat.le_of_ble_eq_true rfl) ?_
      refine x_iinc C dX3_passYears_16 rfl (nI_inc _) (by decide) rfl ?_
      refine x_goto C 7 dX3_passYears_19 (by decide) ?_
      refine xX.cl ih rfl (And.intro rfl (And.intro rfl (And.intro rfl (And.intro rfl trivial)))) rfl
  refine x_aload_n C dX3_passYears_0 rfl ?_
  refine x_get C kf_X3_45 vput_0 rfl dX3_passYears_1 ?_
  refine x_istore_n C dX3_passYears_4 (by decide) rfl ?_
  refine x_iconst (v := 0) C dX3_passYears_5 (by decide) ?_
  refine x_istore_n C dX3_passYears_6 (by decide) rfl ?_
  refine xX.cl (hl 0 (by omega)) rfl (And.intro rfl (And.intro rfl (And.intro rfl (And.intro rfl trivial)))) rfl
set_option maxRecDepth 100000 in
set_option maxHeartbeats 1000000 in
theorem hm_C {k0 : xT} {l : Launch} {E : xEnv} {B N : Nat} {σ : Sg} {b k1 k2 m : Nat} {W : Vs} (hk1 : k1 < 8) (hk2 : k2 < 8) (hm : m < 6) {w h : Nat} (hw : w < 14) (hh : h < 6) (C : xC k0 l E B cX3_holdMeeting 7 (some .int) yX3_holdMeeting.cls yX3_holdMeeting.name 4 92 0 0) (Z : xZ k0 0 0 N (vput E σ b (mtF W k1 k2 m w h)) (some (.int (10 * nI w + nI h)))) : xX k0 N 0 0 (vput E σ b W) 45 [some (.ref b), some (.ref (b + 2 + 2 * k1)), some (.ref (b + 2 + 2 * k2)), some (.int (nI m)), some (.int (nI w)), some (.int (nI h)), none] [] := by
  refine x_aload_n C dX3_holdMeeting_45 rfl ?_
  refine x_dup C dX3_holdMeeting_46 rfl ?_
  refine x_get C kf_X3_39 vput_0 rfl dX3_holdMeeting_47 ?_
  refine x_iconst (v := 1) C dX3_holdMeeting_50 (by decide) ?_
  refine x_iadd C dX3_holdMeeting_51 ?_
  refine x_put (ty := .int) C kf_X3_39 vput_0 rfl (by decide +kernel) rfl rfl (Nat.le_of_ble_eq_true rfl) (vput_v1 _) dX3_holdMeeting_52 ?_
  refine x_aload_n C dX3_holdMeeting_55 rfl ?_
  refine x_dup C dX3_holdMeeting_56 rfl ?_
  refine x_get C kf_X3_73 (vput_s hk1) rfl dX3_holdMeeting_57 ?_
  refine x_iconst (v := 1) C dX3_holdMeeting_60 (by decide) ?_
  refine x_iadd C dX3_holdMeeting_61 ?_
  refine x_put (ty := .int) C kf_X3_73 (vput_s hk1) rfl (by decide +kernel) rfl rfl (Nat.le_of_ble_eq_true rfl) (vput_m hk1 _) dX3_holdMeeting_62 ?_
  refine x_aload_n C dX3_holdMeeting_65 rfl ?_
  refine x_dup C dX3_holdMeeting_66 rfl ?_
  refine x_get C kf_X3_73 (vput_s hk2) rfl dX3_holdMeeting_67 ?_
  refine x_iconst (v := 1) C dX3_holdMeeting_70 (by decide) ?_
  refine x_iadd C dX3_holdMeeting_71 ?_
  refine x_put (ty := .int) C kf_X3_73 (vput_s hk2) rfl (by decide +kernel) rfl rfl (Nat.le_of_ble_eq_true rfl) (vput_m hk2 _) dX3_holdMeeting_72 ?_
  refine x_aload_n C dX3_holdMeeting_75 rfl ?_
  refine x_get C kf_X3_18 vput_0 rfl dX3_holdMeeting_76 ?_
  refine x_iconst (v := 1) C dX3_holdMeeting_79 (by decide) ?_
  refine x_iald2 C vput_18 rfl (by decide) (by decide) dX3_holdMeeting_80 ?_
  refine x_istore C dX3_holdMeeting_81 (by decide) rfl ?_
  refine x_iload C dX3_holdMeeting_83 rfl ?_
  refine x_iload_n C dX3_holdMeeting_85 rfl ?_
  refine x_ic_ne C 141 dX3_holdMeeting_86 (by decide) (fun h86 => ?_) (fun h86 => ?_)
  · refine x_aload_n C dX3_holdMeeting_141 rfl ?_
    refine x_iload_n C dX3_holdMeeting_142 rfl ?_
    refine x_iload C dX3_holdMeeting_143 rfl ?_
    refine x_iload C dX3_holdMeeting_145 rfl ?_
    refine x_ineg C dX3_holdMeeting_147 ?_
    refine x_callV C (c_X2_changeWeight hk1 hm hw _) kv_X2_changeWeight kl_X3_82 dX3_holdMeeting_148 (vput_s hk1) rfl rfl rfl rfl (Nat.le_of_ble_eq_true rfl) (Nat.le_of_ble_eq_true rfl) (Nat.le_of_ble_eq_true rfl) (Nat.le_of_ble_eq_true rfl) (Nat.le_of_ble_eq_true rfl) ?_
    refine x_aload_n C dX3_holdMeeting_151 rfl ?_
    refine x_iload_n C dX3_holdMeeting_152 rfl ?_
    refine x_iload C dX3_holdMeeting_153 rfl ?_
    refine x_iconst (v := 1) C dX3_holdMeeting_155 (by decide) ?_
    refine x_callV C (c_X2_changeWeight hk2 hm hw _) kv_X2_changeWeight kl_X3_82 dX3_holdMeeting_156 (vput_s hk2) rfl rfl rfl rfl (Nat.le_of_ble_eq_true rfl) (Nat.le_of_ble_eq_true rfl) (Nat.le_of_ble_eq_true rfl) (Nat.le_of_ble_eq_true rfl) (Nat.le_of_ble_eq_true rfl) ?_
    refine x_aload_n C dX3_holdMeeting_159 rfl ?_
    refine x_iload C dX3_holdMeeting_160 rfl ?_
    refine x_iload C dX3_holdMeeting_162 rfl ?_
    refine x_iload C dX3_holdMeeting_164 rfl ?_
    refine x_ineg C dX3_holdMeeting_166 ?_
    refine x_callV C (c_X2_changeWeight hk2 hh hw _) kv_X2_changeWeight kl_X3_82 dX3_holdMeeting_167 (vput_s hk2) rfl rfl rfl rfl (Nat.le_of_ble_eq_true rfl) (Nat.le_of_ble_eq_true rfl) (Nat.le_of_ble_eq_true rfl) (Nat.le_of_ble_eq_true rfl) (Nat.le_of_ble_eq_true rfl) ?_
    refine x_bipush (v := 10) C dX3_holdMeeting_170 (by decide) ?_
    refine x_iload C dX3_holdMeeting_172 rfl ?_
    refine x_imul C dX3_holdMeeting_174 ?_
    refine x_iload C dX3_holdMeeting_175 rfl ?_
    refine x_iadd C dX3_holdMeeting_177 ?_
    exact x_zret C Z dX3_holdMeeting_178 rfl (Nat.le_of_ble_eq_true rfl) (Nat.le_of_ble_eq_true rfl) rfl (congrArg _ (mtF_n (fun z => h86 (by rw [z])))) rfl
  · refine x_aload_n C dX3_holdMeeting_89 rfl ?_
    refine x_dup C dX3_holdMeeting_90 rfl ?_
    refine x_get C kf_X3_42 vput_0 rfl dX3_holdMeeting_91 ?_
    refine x_iconst (v := 1) C dX3_holdMeeting_94 (by decide) ?_
    refine x_iadd C dX3_holdMeeting_95 ?_
    refine x_put (ty := .int) C kf_X3_42 vput_0 rfl (by decide +kernel) rfl rfl (Nat.le_of_ble_eq_true rfl) (vput_v2 _) dX3_holdMeeting_96 ?_
    refine x_aload_n C dX3_holdMeeting_99 rfl ?_
    refine x_iload_n C dX3_holdMeeting_100 rfl ?_
    refine x_iload C dX3_holdMeeting_101 rfl ?_
    refine x_aload_n C dX3_holdMeeting_103 rfl ?_
    refine x_get C kf_X3_18 vput_0 rfl dX3_holdMeeting_104 ?_
    refine x_iconst (v := 0) C dX3_holdMeeting_107 (by decide) ?_
    refine x_iald2 C vput_18 rfl (by decide) (by decide) dX3_holdMeeting_108 ?_
    refine x_iload C dX3_holdMeeting_109 rfl ?_
    refine x_callV C (c_X2_prefer hk1 hm hw _ _) kv_X2_prefer kl_X3_74 dX3_holdMeeting_111 (vput_s hk1) rfl rfl rfl rfl (Nat.le_of_ble_eq_true rfl) (Nat.le_of_ble_eq_true rfl) (Nat.le_of_ble_eq_true rfl) (Nat.le_of_ble_eq_true rfl) (Nat.le_of_ble_eq_true rfl) ?_
    refine x_aload_n C dX3_holdMeeting_114 rfl ?_
    refine x_iload_n C dX3_holdMeeting_115 rfl ?_
    refine x_iload C dX3_holdMeeting_116 rfl ?_
    refine x_aload_n C dX3_holdMeeting_118 rfl ?_
    refine x_get C kf_X3_18 vput_0 rfl dX3_holdMeeting_119 ?_
    refine x_iconst (v := 0) C dX3_holdMeeting_122 (by decide) ?_
    refine x_iald2 C vput_18 rfl (by decide) (by decide) dX3_holdMeeting_123 ?_
    refine x_iload C dX3_holdMeeting_124 rfl ?_
    refine x_callV C (c_X2_prefer hk2 hm hw _ _) kv_X2_prefer kl_X3_74 dX3_holdMeeting_126 (vput_s hk2) rfl rfl rfl rfl (Nat.le_of_ble_eq_true rfl) (Nat.le_of_ble_eq_true rfl) (Nat.le_of_ble_eq_true rfl) (Nat.le_of_ble_eq_true rfl) (Nat.le_of_ble_eq_true rfl) ?_
    refine x_aload_n C dX3_holdMeeting_129 rfl ?_
    refine x_iload_n C dX3_holdMeeting_130 rfl ?_
    refine x_iload C dX3_holdMeeting_131 rfl ?_
    refine x_iload C dX3_holdMeeting_133 rfl ?_
    refine x_callV C (c_X2_forgetOtherMeanings hk2 hm hw _) kv_X2_forgetOtherMeanings kl_X3_78 dX3_holdMeeting_135 (vput_s hk2) rfl rfl rfl rfl (Nat.le_of_ble_eq_true rfl) (Nat.le_of_ble_eq_true rfl) (Nat.le_of_ble_eq_true rfl) (Nat.le_of_ble_eq_true rfl) (Nat.le_of_ble_eq_true rfl) ?_
    refine x_goto C 170 dX3_holdMeeting_138 (by decide) ?_
    refine x_bipush (v := 10) C dX3_holdMeeting_170 (by decide) ?_
    refine x_iload C dX3_holdMeeting_172 rfl ?_
    refine x_imul C dX3_holdMeeting_174 ?_
    refine x_iload C dX3_holdMeeting_175 rfl ?_
    refine x_iadd C dX3_holdMeeting_177 ?_
    exact x_zret C Z dX3_holdMeeting_178 rfl (Nat.le_of_ble_eq_true rfl) (Nat.le_of_ble_eq_true rfl) rfl (congrArg _ (mtF_s ((nI_eq (by omega) (by omega)).mp h86))) rfl
set_option maxRecDepth 100000 in
set_option maxHeartbeats 1000000 in
theorem hm_B {k0 : xT} {l : Launch} {E : xEnv} {B N : Nat} {σ : Sg} {b k1 k2 m : Nat} {W : Vs} (hk1 : k1 < 8) (hk2 : k2 < 8) (hm : m < 6) {w : Nat} (hw : w < 14) (hs : sok W) (C : xC k0 l E B cX3_holdMeeting 7 (some .int) yX3_holdMeeting.cls yX3_holdMeeting.name 4 92 0 0) (Z : xZ k0 0 0 N (vput E σ b (mtF (hdN W k2 w).1 k1 k2 m w (hdN W k2 w).2)) (some (.int (10 * nI w + nI (hdN W k2 w).2)))) : xX k0 N 0 0 (vput E σ b W) 22 [some (.ref b), some (.ref (b + 2 + 2 * k1)), some (.ref (b + 2 + 2 * k2)), some (.int (nI m)), some (.int (nI w)), none, none] [] := by
  refine x_aload_n C dX3_holdMeeting_22 rfl ?_
  refine x_iload C dX3_holdMeeting_23 rfl ?_
  refine x_callV C (c_X2_meaningOf hk2 hw) kv_X2_meaningOf kl_X3_70 dX3_holdMeeting_25 (vput_s hk2) rfl rfl rfl rfl (Nat.le_of_ble_eq_true rfl) (Nat.le_of_ble_eq_true rfl) (Nat.le_of_ble_eq_true rfl) (Nat.le_of_ble_eq_true rfl) (Nat.le_of_ble_eq_true rfl) ?_
  cases hq : haS (W k2) w with
  | none =>
    rw [hdN_n hq] at Z
    refine x_istore C dX3_holdMeeting_28 (by decide) rfl ?_
    refine x_iload C dX3_holdMeeting_30 rfl ?_
    refine x_bipush (v := (-6)) C dX3_holdMeeting_32 (by decide) ?_
    refine x_ic_ne C 45 dX3_holdMeeting_34 (by decide) (fun h => absurd rfl h) (fun _ => ?_)
    refine x_aload_n C dX3_holdMeeting_37 rfl ?_
    refine x_bipush (v := 6) C dX3_holdMeeting_38 (by decide) ?_
    refine x_callV C (c_X3_draw hs (n := 6) (by decide) (by decide)) kv_X3_draw kl_X3_67 dX3_holdMeeting_40 vput_0 rfl rfl rfl rfl (Nat.le_of_ble_eq_true rfl) (Nat.le_of_ble_eq_true rfl) (Nat.le_of_ble_eq_true rfl) (Nat.le_of_ble_eq_true rfl) (Nat.le_of_ble_eq_true rfl) ?_
    refine x_istore C dX3_holdMeeting_43 (by decide) rfl ?_
    exact hm_C hk1 hk2 hm hw (dvN_lt (by decide)) C Z
  | some h =>
    rw [hdN_s hq] at Z
    refine x_istore C dX3_holdMeeting_28 (by decide) rfl ?_
    refine x_iload C dX3_holdMeeting_30 rfl ?_
    refine x_bipush (v := (-6)) C dX3_holdMeeting_32 (by decide) ?_
    refine x_ic_ne C 45 dX3_holdMeeting_34 (by decide) (fun _ => ?_) (fun h => absurd h (nI_ne6 (by have := haS_in hq; omega)))
    exact hm_C hk1 hk2 hm hw (haS_in hq) C Z
set_option maxRecDepth 100000 in
set_option maxHeartbeats 1000000 in
theorem c_X3_holdMeeting {l : Launch} {E : xEnv} {B N : Nat} {σ : Sg} {b k1 k2 m : Nat} {V : Vs} (hk1 : k1 < 8) (hk2 : k2 < 8) (hm : m < 6) (hs : sok V) : xM l yX3_holdMeeting cX3_holdMeeting 7 (some .int) 4 92 0 0 E B [.ref b, .ref (b + 2 + 2 * k1), .ref (b + 2 + 2 * k2), .int (nI m)] N (vput E σ b V) N (vput E σ b (mtV V k1 k2 m)) (some (.int (10 * nI (mt1 V k1 k2 m).2.1 + nI (mt1 V k1 k2 m).2.2))) := by
  refine xM_of [some (.ref _), some (.ref _), some (.ref _), some (.int _), none, none, none] (by decide +kernel) (Nat.le_of_ble_eq_true rfl) rfl (fun k0 C Z => ?_)
  unfold mtV mt1 at Z
  dsimp only at Z
  refine x_aload_n C dX3_holdMeeting_0 rfl ?_
  refine x_iload_n C dX3_holdMeeting_1 rfl ?_
  refine x_callV C (c_X2_wordFor hk1 hm) kv_X2_wordFor kl_X3_63 dX3_holdMeeting_2 (vput_s hk1) rfl rfl rfl rfl (Nat.le_of_ble_eq_true rfl) (Nat.le_of_ble_eq_true rfl) (Nat.le_of_ble_eq_true rfl) (Nat.le_of_ble_eq_true rfl) (Nat.le_of_ble_eq_true rfl) ?_
  cases hq : wfS (V k1) m with
  | none =>
    rw [wdN_n hq] at Z
    refine x_istore C dX3_holdMeeting_5 (by decide) rfl ?_
    refine x_iload C dX3_holdMeeting_7 rfl ?_
    refine x_bipush (v := (-6)) C dX3_holdMeeting_9 (by decide) ?_
    refine x_ic_ne C 22 dX3_holdMeeting_11 (by decide) (fun h => absurd rfl h) (fun _ => ?_)
    refine x_aload_n C dX3_holdMeeting_14 rfl ?_
    refine x_bipush (v := 14) C dX3_holdMeeting_15 (by decide) ?_
    refine x_callV C (c_X3_draw hs (n := 14) (by decide) (by decide)) kv_X3_draw kl_X3_67 dX3_holdMeeting_17 vput_0 rfl rfl rfl rfl (Nat.le_of_ble_eq_true rfl) (Nat.le_of_ble_eq_true rfl) (Nat.le_of_ble_eq_true rfl) (Nat.le_of_ble_eq_true rfl) (Nat.le_of_ble_eq_true rfl) ?_
    refine x_istore C dX3_holdMeeting_20 (by decide) rfl ?_
    exact hm_B hk1 hk2 hm (dvN_lt (by decide)) drV_ok C Z
  | some w =>
    rw [wdN_s hq] at Z
    refine x_istore C dX3_holdMeeting_5 (by decide) rfl ?_
    refine x_iload C dX3_holdMeeting_7 rfl ?_
    refine x_bipush (v := (-6)) C dX3_holdMeeting_9 (by decide) ?_
    refine x_ic_ne C 22 dX3_holdMeeting_11 (by decide) (fun _ => ?_) (fun h => absurd h (nI_ne6 (by have := wfS_in hq; omega)))
    exact hm_B hk1 hk2 hm (wfS_in hq) hs C Z
end
section
set_option maxRecDepth 100000 in
set_option maxHeartbeats 1000000 in
theorem c_X3_copyFrom {l : Launch} {E : xEnv} {B N : Nat} {σ : Sg} {b c : Nat} {V W : Vs} (hd : b + 20 ≤ c ∨ c + 20 ≤ b) : xM l yX3_copyFrom cX3_copyFrom 3 none 2 53 0 0 E B [.ref b, .ref c] N (vput E (vput E σ b V) c W) N (vput E (vput E σ b (cpV V W)) c W) none := by
  refine xM_of [some (.ref _), some (.ref _), none] (by decide +kernel) (Nat.le_of_ble_eq_true rfl) rfl (fun k0 C Z => ?_)
  have hl : ∀ i, i ≤ 8 → xX k0 N 0 0 (vput E (vput E σ b (cpL V W i)) c W) 2 [some (.ref b), some (.ref c), some (.int (nI i))] [] := by
    refine x_for 8 ?_ ?_
    · refine x_iload_n C dX3_copyFrom_2 rfl ?_
      refine x_bipush (v := 8) C dX3_copyFrom_3 (by decide) ?_
      refine x_ic_ge C 29 dX3_copyFrom_5 (by decide) (fun _ => ?_) (fun h => absurd (nI_le (a := 8) (Nat.le_refl _) (by omega)) h)
      refine x_aload_n C dX3_copyFrom_29 rfl ?_
      refine x_get C kf_X3_18 vput_0 rfl dX3_copyFrom_30 ?_
      refine x_iconst (v := 0) C dX3_copyFrom_33 (by decide) ?_
      refine x_aload_n C dX3_copyFrom_34 rfl ?_
      refine x_get C kf_X3_18 (by rw [vput_out (by omega)]; exact vput_0) rfl dX3_copyFrom_35 ?_
      refine x_iconst (v := 0) C dX3_copyFrom_38 (by decide) ?_
      refine x_iconst (v := 4) C dX3_copyFrom_39 (by decide) ?_
      refine x_copy C kl_X3_33 kz_native kz_static ki_sys vput_18 (by rw [vput_out (by omega)]; exact vput_18) (by omega) (by decide) (by decide) (by decide) (by decide) (by decide) (g2 := W 8) cpy4 (Nat.le_of_ble_eq_true rfl) (Nat.le_of_ble_eq_true rfl) (by rw [xup_o (by omega), vput_row8]) dX3_copyFrom_40 ?_
      refine x_aload_n C dX3_copyFrom_43 rfl ?_
      refine x_aload_n C dX3_copyFrom_44 rfl ?_
      refine x_get C kf_X3_25 vput_0 rfl dX3_copyFrom_45 ?_
      refine x_put (ty := .int) C kf_X3_25 (by rw [vput_out (by omega)]; exact vput_0) rfl (by decide +kernel) rfl rfl (Nat.le_of_ble_eq_true rfl) (by rw [xup_o (by omega), vput_v0]) dX3_copyFrom_48 ?_
      refine x_aload_n C dX3_copyFrom_51 rfl ?_
      refine x_aload_n C dX3_copyFrom_52 rfl ?_
      refine x_get C kf_X3_39 vput_0 rfl dX3_copyFrom_53 ?_
      refine x_put (ty := .int) C kf_X3_39 (by rw [vput_out (by omega)]; exact vput_0) rfl (by decide +kernel) rfl rfl (Nat.le_of_ble_eq_true rfl) (by rw [xup_o (by omega), vput_v1]) dX3_copyFrom_56 ?_
      refine x_aload_n C dX3_copyFrom_59 rfl ?_
      refine x_aload_n C dX3_copyFrom_60 rfl ?_
      refine x_get C kf_X3_42 vput_0 rfl dX3_copyFrom_61 ?_
      refine x_put (ty := .int) C kf_X3_42 (by rw [vput_out (by omega)]; exact vput_0) rfl (by decide +kernel) rfl rfl (Nat.le_of_ble_eq_true rfl) (by rw [xup_o (by omega), vput_v2]) dX3_copyFrom_64 ?_
      refine x_aload_n C dX3_copyFrom_67 rfl ?_
      refine x_aload_n C dX3_copyFrom_68 rfl ?_
      refine x_get C kf_X3_45 vput_0 rfl dX3_copyFrom_69 ?_
      refine x_put (ty := .int) C kf_X3_45 (by rw [vput_out (by omega)]; exact vput_0) rfl (by decide +kernel) rfl rfl (Nat.le_of_ble_eq_true rfl) (by rw [xup_o (by omega), vput_v3]) dX3_copyFrom_72 ?_
      refine x_aload_n C dX3_copyFrom_75 rfl ?_
      refine x_aload_n C dX3_copyFrom_76 rfl ?_
      refine x_get C kf_X3_48 vput_0 rfl dX3_copyFrom_77 ?_
      refine x_put (ty := .int) C kf_X3_48 (by rw [vput_out (by omega)]; exact vput_0) rfl (by decide +kernel) rfl rfl (Nat.le_of_ble_eq_true rfl) (by rw [xup_o (by omega), vput_v4]) dX3_copyFrom_80 ?_
      exact x_vret C Z dX3_copyFrom_83 (Nat.le_of_ble_eq_true rfl) (Nat.le_of_ble_eq_true rfl) rfl rfl
    · intro i hi ih
      refine x_iload_n C dX3_copyFrom_2 rfl ?_
      refine x_bipush (v := 8) C dX3_copyFrom_3 (by decide) ?_
      refine x_ic_ge C 29 dX3_copyFrom_5 (by decide) (fun h => absurd h (nI_ge (b := 8) hi (by omega))) (fun _ => ?_)
      refine x_aload_n C dX3_copyFrom_8 rfl ?_
      refine x_get C kf_X3_11 (by rw [vput_out (by omega)]; exact vput_0) rfl dX3_copyFrom_9 ?_
      refine x_iload_n C dX3_copyFrom_12 rfl ?_
      refine x_aald2 (t0 := 2) C (by rw [vput_out (by omega)]; exact vput_1) rfl rfl hi (by decide) dX3_copyFrom_13 ?_
      refine x_aload_n C dX3_copyFrom_14 rfl ?_
      refine x_get C kf_X3_11 vput_0 rfl dX3_copyFrom_15 ?_
      refine x_iload_n C dX3_copyFrom_18 rfl ?_
      refine x_aald2 (t0 := 2) C vput_1 rfl rfl hi (by decide) dX3_copyFrom_19 ?_
      refine x_callV C (c_X2_copyFrom (V := cpL V W i) (W := W) hi hd) kv_X2_copyFrom kl_X3_29 dX3_copyFrom_20 (by rw [vput_out (by omega)]; exact (vput_s hi)) rfl rfl rfl rfl (Nat.le_of_ble_eq_true rfl) (Nat.le_of_ble_eq_true rfl) (Nat.le_of_ble_eq_true rfl) (Nat.le_of_ble_eq_true rfl) (Nat.le_of_ble_eq_true rfl) ?_
      refine x_iinc C dX3_copyFrom_23 rfl (nI_inc _) (by decide) rfl ?_
      refine x_goto C 2 dX3_copyFrom_26 (by decide) ?_
      refine xX.cl ih (congrArg (fun z => vput E (vput E σ b z) c W) (cpL_s hi)) (And.intro rfl (And.intro rfl (And.intro rfl trivial))) rfl
  refine x_iconst (v := 0) C dX3_copyFrom_0 (by decide) ?_
  refine x_istore_n C dX3_copyFrom_1 (by decide) rfl ?_
  refine xX.cl (hl 0 (by omega)) (congrArg (fun z => vput E (vput E σ b z) c W) cpL_0.symm) (And.intro rfl (And.intro rfl (And.intro rfl trivial))) rfl
end
section
/-! the class's object, seen from its parts -/
def kpV (VV : Cs) (p : Nat) : Cs := upV VV (2 + p) (cpV (VV (2 + p)) (VV 0))
theorem kpV_0 {VV : Cs} {p : Nat} : kpV VV p 0 = VV 0 := upV_n (by omega)
theorem kpV_1 {VV : Cs} {p : Nat} : kpV VV p 1 = VV 1 := upV_n (by omega)
section W2
variable {E : xEnv} {σ : Sg} {B p k : Nat} {VV : Cs} {nx sz len : Int32} {tx : Fn}
theorem bs_0 : bs B 0 = B + 1 := rfl
theorem bs_1 : bs B 1 = B + 21 := rfl
theorem bs_s : bs B (2 + p) = B + 43 + 20 * p := by unfold bs; rw [if_neg (by omega)]; omega
theorem cput_v0 : vput E (cput E σ B VV nx sz len tx) (B + 1) (VV 0) = cput E σ B VV nx sz len tx := cput_v (i := 0) (by decide)
theorem cput_w0 {W : Vs} : vput E (cput E σ B VV nx sz len tx) (B + 1) W = cput E σ B (upV VV 0 W) nx sz len tx := cput_w (i := 0) (by decide)
theorem cput_v1 : vput E (cput E σ B VV nx sz len tx) (B + 21) (VV 1) = cput E σ B VV nx sz len tx := cput_v (i := 1) (by decide)
theorem cput_w1 {W : Vs} : vput E (cput E σ B VV nx sz len tx) (B + 21) W = cput E σ B (upV VV 1 W) nx sz len tx := cput_w (i := 1) (by decide)
theorem cput_vs (hp : p < 6) : vput E (cput E σ B VV nx sz len tx) (B + 43 + 20 * p) (VV (2 + p)) = cput E σ B VV nx sz len tx := by
  rw [← bs_s]; exact cput_v (by omega)
theorem cput_ws (hp : p < 6) {W : Vs} : vput E (cput E σ B VV nx sz len tx) (B + 43 + 20 * p) W = cput E σ B (upV VV (2 + p) W) nx sz len tx := by
  rw [← bs_s]; exact cput_w (by omega)
/-- the village itself is V -/
theorem cput_is0 {V : Vs} (h : VV 0 = V) : cput E σ B VV nx sz len tx = vput E (cput E σ B VV nx sz len tx) (B + 1) V := by rw [← h]; exact cput_v0.symm
theorem cput_is1 {V : Vs} (h : VV 1 = V) : cput E σ B VV nx sz len tx = vput E (cput E σ B VV nx sz len tx) (B + 21) V := by rw [← h]; exact cput_v1.symm
theorem cput_h0 : cput E σ B VV nx sz len tx (B + 1) = some (.inr (3, vfs (B + 1) (VV 0))) := by rw [← cput_v0]; exact vput_0
theorem cput_h1 : cput E σ B VV nx sz len tx (B + 21) = some (.inr (3, vfs (B + 21) (VV 1))) := by rw [← cput_v1]; exact vput_0
theorem cput_hv (hp : p < 6) : cput E σ B VV nx sz len tx (B + 43 + 20 * p) = some (.inr (3, vfs (B + 43 + 20 * p) (VV (2 + p)))) := by rw [← cput_vs hp]; exact vput_0
theorem cput_hs (hk : k < 8) : cput E σ B VV nx sz len tx (B + 1 + 2 + 2 * k) = some (.inr (2, sfs (B + 1) (VV 0) k)) := by rw [← cput_v0]; exact vput_s hk
theorem cput_hs1 (hk : k < 8) : cput E σ B VV nx sz len tx (B + 21 + 2 + 2 * k) = some (.inr (2, sfs (B + 21) (VV 1) k)) := by rw [← cput_v1]; exact vput_s hk
/-- two villages at once -/
theorem cput_k1 (hp : p < 6) : cput E σ B VV nx sz len tx = vput E (vput E (cput E σ B VV nx sz len tx) (B + 43 + 20 * p) (VV (2 + p))) (B + 1) (VV 0) := by rw [cput_vs hp, cput_v0]
theorem cput_k2 (hp : p < 6) {X : Vs} : vput E (vput E (cput E σ B VV nx sz len tx) (B + 43 + 20 * p) X) (B + 1) (VV 0) = cput E σ B (upV VV (2 + p) X) nx sz len tx := by
  rw [cput_ws hp]
  exact (cput_is0 (upV_n (by omega))).symm
theorem cput_r1 (hp : p < 6) : cput E σ B VV nx sz len tx = vput E (vput E (cput E σ B VV nx sz len tx) (B + 1) (VV 0)) (B + 43 + 20 * p) (VV (2 + p)) := by rw [cput_v0, cput_vs hp]
theorem cput_r2 (hp : p < 6) {X : Vs} : vput E (vput E (cput E σ B VV nx sz len tx) (B + 1) X) (B + 43 + 20 * p) (VV (2 + p)) = cput E σ B (upV VV 0 X) nx sz len tx := by
  rw [cput_w0, ← bs_s]
  have h := cput_v (E := E) (σ := σ) (B := B) (VV := upV VV 0 X) (nx := nx) (sz := sz) (len := len) (tx := tx) (i := 2 + p) (by omega)
  rw [upV_n (by omega)] at h
  exact h
/-- the trial village gets the village's state -/
theorem cput_t1 : cput E σ B VV nx sz len tx = vput E (vput E (cput E σ B VV nx sz len tx) (B + 21) (VV 1)) (B + 1) (VV 0) := by rw [cput_v1, cput_v0]
theorem cput_t2 {X : Vs} : vput E (vput E (cput E σ B VV nx sz len tx) (B + 21) X) (B + 1) (VV 0) = cput E σ B (upV VV 1 X) nx sz len tx := by
  rw [cput_w1]
  exact (cput_is0 (upV_n (by omega))).symm
theorem cput_tt : tput E (cput E σ B VV nx sz len tx) (B + 163) len tx = cput E σ B VV nx sz len tx := cput_t
theorem cput_l (x : Int32) : xup (cput E σ B VV nx sz len tx) (B + 163) (.inr (0, ([.ref (B + 164), .int len] : List Value).set 1 (.int x))) = cput E σ B VV nx sz x tx := by
  rw [← cput_t (len := len) (len2 := x) (tx := tx) (tx2 := tx), ← tput_l (len := len) x, cput_tt]
theorem cput_p0 {x : Int32} : xup (cput E σ B VV nx sz len tx) (B + 1) (.inr (3, (vfs (B + 1) (VV 0)).set 3 (.int x))) = cput E σ B (upV VV 0 (up2 (VV 0) 9 0 x)) nx sz len tx := by
  rw [← cput_w0, ← vput_v0, cput_v0]
theorem cput_pa {x : Int32} (hk : k < 8) : xup (cput E σ B VV nx sz len tx) (B + 1 + 2 + 2 * k) (.inr (2, (sfs (B + 1) (VV 0) k).set 2 (.int x))) = cput E σ B (upV VV 0 (up2 (VV 0) 11 k x)) nx sz len tx := by
  rw [← cput_w0, ← vput_a hk, cput_v0]
end W2
theorem mod6 {p : Nat} (hp : p < 6) : nI p + 1 - (nI p + 1) / 6 * 6 = nI ((p + 1) % 6) := by
  rw [nI_1, show (6 : Int32) = nI 6 from rfl, pk_rem (by omega) (by decide) (by decide)]
theorem mod5 {p : Nat} (hp : p < 6) : nI p + 6 - 1 - (nI p + 6 - 1) / 6 * 6 = nI ((p + 5) % 6) := by
  rw [show (6 : Int32) = nI 6 from rfl, nI_add, show (1 : Int32) = nI 1 from rfl, pk_sub (by omega), pk_rem (by omega) (by decide) (by decide)]
  rfl
theorem min6 {z : Nat} (hz : z ≤ 6) : (if nI z + 1 < 6 then nI z + 1 else (6 : Int32)) = nI (min 6 (z + 1)) := by
  rw [nI_1, show (6 : Int32) = nI 6 from rfl]
  by_cases h : z + 1 < 6
  · rw [if_pos (nI_lt h (by omega)), Nat.min_eq_right (by omega)]
  · rw [if_neg (nI_nlt (by omega) (by omega)), Nat.min_eq_left (by omega)]
theorem char_n {c : Nat} (h : c < 65536) : vp_nar .char (nI c) = nI c := by
  unfold vp_nar
  rw [(pk_charN h).1]
/-! the text -/
def sgS (n : Nat) (tx : Fn) (j : Nat) : Int32 := if j < n then tx j else 0
abbrev gesP (s : Int32) : Prop := s = 119 ∨ s = 110
abbrev digP (s : Int32) : Prop := 48 ≤ s ∧ s ≤ 57
def astS (s : Int32) : Nat := if s = 42 then 8 else 11
def aenS (s : Int32) : Nat := if s = 59 then 0 else 11
def exS (j : Nat) (s : Int32) : Nat :=
  if j = 0 then (if 48 ≤ s ∧ s ≤ 55 then 1 else 11)
  else if j = 1 then (if s = 46 then 2 else 11)
  else if j = 2 then (if 48 ≤ s ∧ s ≤ 53 then 3 else 11)
  else if j = 3 then (if s = 61 then 4 else 11)
  else if j = 4 then (if gesP s then 5 else 11)
  else if j = 5 then (if gesP s then 6 else astS s)
  else if j = 6 then (if gesP s then 7 else astS s)
  else if j = 7 then astS s
  else if j = 8 then (if s = 48 then 10 else if digP s then 9 else 11)
  else if j = 9 then (if digP s then 10 else aenS s)
  else if j = 10 then aenS s
  else 11
/-- where the reader stands after i characters -/
def auS (tx : Fn) : Nat → Nat
  | 0 => 0
  | i + 1 => exS (auS tx i) (tx i)
def feS (tx : Fn) (n : Nat) : Int32 := match (List.range n).find? (fun i => decide (auS tx (i + 1) = 11)) with
  | some i => nI i
  | none => if auS tx n = 9 ∨ auS tx n = 10 then -6 else nI n
theorem ite_le {c : Prop} [Decidable c] {a b n : Nat} (h1 : a ≤ n) (h2 : b ≤ n) : (if c then a else b) ≤ n := by split <;> assumption
theorem astS_le {s : Int32} : astS s ≤ 11 := ite_le (by decide) (by decide)
theorem aenS_le {s : Int32} : aenS s ≤ 11 := ite_le (by decide) (by decide)
theorem exS_le {j : Nat} {s : Int32} : exS j s ≤ 11 := by
  unfold exS
  have a : ∀ {c : Prop} [Decidable c] (x y : Nat), x ≤ 11 → y ≤ 11 → (if c then x else y) ≤ 11 := fun x y h1 h2 => ite_le h1 h2
  exact ite_le (a _ _ (by decide) (by decide)) (ite_le (a _ _ (by decide) (by decide)) (ite_le (a _ _ (by decide) (by decide)) (ite_le (a _ _ (by decide) (by decide)) (ite_le (a _ _ (by decide) (by decide)) (ite_le (a _ _ (by decide) astS_le) (ite_le (a _ _ (by decide) astS_le) (ite_le astS_le (ite_le (a _ _ (by decide) (a _ _ (by decide) (by decide))) (ite_le (a _ _ (by decide) aenS_le) (ite_le aenS_le (by decide)))))))))))
theorem auS_le {tx : Fn} : ∀ i, auS tx i ≤ 11
  | 0 => Nat.zero_le _
  | i + 1 => exS_le
theorem exS_11 {s : Int32} : exS 11 s = 11 := rfl
theorem ex_0 {s : Int32} : exS 0 s = if 48 ≤ s ∧ s ≤ 55 then 1 else 11 := rfl
theorem ex_1 {s : Int32} : exS 1 s = if s = 46 then 2 else 11 := rfl
theorem ex_2 {s : Int32} : exS 2 s = if 48 ≤ s ∧ s ≤ 53 then 3 else 11 := rfl
theorem ex_3 {s : Int32} : exS 3 s = if s = 61 then 4 else 11 := rfl
theorem ex_4 {s : Int32} : exS 4 s = if gesP s then 5 else 11 := rfl
theorem ex_5 {s : Int32} : exS 5 s = if gesP s then 6 else astS s := rfl
theorem ex_6 {s : Int32} : exS 6 s = if gesP s then 7 else astS s := rfl
theorem ex_7 {s : Int32} : exS 7 s = astS s := rfl
theorem ex_8 {s : Int32} : exS 8 s = if s = 48 then 10 else if digP s then 9 else 11 := rfl
theorem ex_9 {s : Int32} : exS 9 s = if digP s then 10 else aenS s := rfl
theorem ex_10 {s : Int32} : exS 10 s = aenS s := rfl
theorem sg_in {n j : Nat} {tx : Fn} (h : j < n) : sgS n tx j = tx j := if_pos h
theorem nI_neL {a b : Nat} (ha : a < 2 ^ 31) (hb : b < 2 ^ 31) (h : a ≠ b) : ¬ nI a = nI b := fun z => h ((nI_eq ha hb).mp z)
theorem auS_st {tx : Fn} {i j : Nat} (h : auS tx i = 11) : auS tx (i + j) = 11 := by
  induction j with
  | zero => exact h
  | succ j ih =>
    show exS (auS tx (i + j)) _ = 11
    rw [ih]; rfl
theorem feS_c (tx : Fn) (n : Nat) : (∃ q, q < n ∧ (∀ j, j ≤ q → auS tx j ≠ 11) ∧ auS tx (q + 1) = 11 ∧ feS tx n = nI q) ∨ ((∀ j, j ≤ n → auS tx j ≠ 11) ∧ (auS tx n = 9 ∨ auS tx n = 10) ∧ feS tx n = -6) ∨ ((∀ j, j ≤ n → auS tx j ≠ 11) ∧ ¬ (auS tx n = 9 ∨ auS tx n = 10) ∧ feS tx n = nI n) := by
  unfold feS
  cases hf : (List.range n).find? (fun i => decide (auS tx (i + 1) = 11)) with
  | some q =>
    left
    have h0 := List.find?_some hf
    have h1 : auS tx (q + 1) = 11 := of_decide_eq_true h0
    have h2 := List.mem_range.mp (List.mem_of_find?_eq_some hf)
    refine ⟨q, h2, fun j hj e => ?_, h1, rfl⟩
    have h3 := List.find?_eq_some_iff_append.mp hf
    obtain ⟨-, as, bs, hab, hno⟩ := h3
    cases j with
    | zero => exact absurd e (by show ¬ (0 : Nat) = 11; decide)
    | succ i =>
      have hi : i ∈ as := by
        have hlen : as.length = q := by
          have h5 : (List.range n)[as.length]? = some q := by rw [hab]; simp
          rw [List.getElem?_range (by
            have := congrArg List.length hab
            simp at this
            omega)] at h5
          exact Option.some.inj h5
        have h6 : (List.range n)[i]? = some i := List.getElem?_range (by omega)
        rw [hab, List.getElem?_append_left (by omega)] at h6
        exact List.mem_of_getElem? h6
      have := hno i hi
      simp [e] at this
  | none =>
    right
    have hall : ∀ j, j ≤ n → auS tx j ≠ 11 := by
      intro j hj e
      cases j with
      | zero => exact absurd e (by show ¬ (0 : Nat) = 11; decide)
      | succ i =>
        have := List.find?_eq_none.mp hf i (List.mem_range.mpr (by omega))
        exact this (decide_eq_true e)
    by_cases h : auS tx n = 9 ∨ auS tx n = 10
    · exact Or.inl ⟨hall, h, if_pos h⟩
    · exact Or.inr ⟨hall, h, if_neg h⟩
end
section
set_option maxRecDepth 100000 in
set_option maxHeartbeats 1000000 in
theorem c_X1_keep {l : Launch} {E : xEnv} {B N : Nat} {σ : Sg} {VV : Cs} {p z : Nat} {len : Int32} {tx : Fn} (hp : p < 6) (hz : z ≤ 6) : xM l yX1_keep cX1_keep 2 none 3 75 0 0 E B [.ref (B + 41), .ref (B + 1)] N (cput E σ B VV (nI p) (nI z) len tx) N (cput E σ B (kpV VV p) (nI ((p + 1) % 6)) (nI (min 6 (z + 1))) len tx) none := by
  refine xM_of [some (.ref _), some (.ref _)] (by decide +kernel) (Nat.le_of_ble_eq_true rfl) rfl (fun k0 C Z => ?_)
  refine x_aload_n C dX1_keep_0 rfl ?_
  refine x_get C kf_X1_18 cput_41 rfl dX1_keep_1 ?_
  refine x_bipush (v := 6) C dX1_keep_4 (by decide) ?_
  refine x_callS C (c_X4_isBelow _ _) ks_X4_isBelow kl_X1_22 dX1_keep_6 rfl rfl rfl rfl (Nat.le_of_ble_eq_true rfl) (Nat.le_of_ble_eq_true rfl) (Nat.le_of_ble_eq_true rfl) (Nat.le_of_ble_eq_true rfl) (Nat.le_of_ble_eq_true rfl) ?_
  refine x_bne C 13 dX1_keep_9 (by decide) (fun _ => ?_) (fun h => absurd (bd_in (c := 6) hp (by decide)) h)
  refine x_aload_n C dX1_keep_13 rfl ?_
  refine x_get C kf_X1_11 cput_41 rfl dX1_keep_14 ?_
  refine x_aload_n C dX1_keep_17 rfl ?_
  refine x_get C kf_X1_18 cput_41 rfl dX1_keep_18 ?_
  refine x_aald2 (t0 := 3) C cput_42 rfl rfl hp (by decide) dX1_keep_21 ?_
  refine x_aload_n C dX1_keep_22 rfl ?_
  refine x_callV C (c_X3_copyFrom (V := VV (2 + p)) (W := VV 0) (by omega)) kv_X3_copyFrom kl_X1_26 dX1_keep_23 (cput_hv hp) (cput_k1 hp) (cput_k2 hp) rfl rfl (Nat.le_of_ble_eq_true rfl) (Nat.le_of_ble_eq_true rfl) (Nat.le_of_ble_eq_true rfl) (Nat.le_of_ble_eq_true rfl) (Nat.le_of_ble_eq_true rfl) ?_
  refine x_aload_n C dX1_keep_26 rfl ?_
  refine x_aload_n C dX1_keep_27 rfl ?_
  refine x_get C kf_X1_18 cput_41 rfl dX1_keep_28 ?_
  refine x_iconst (v := 1) C dX1_keep_31 (by decide) ?_
  refine x_iadd C dX1_keep_32 ?_
  refine x_bipush (v := 6) C dX1_keep_33 (by decide) ?_
  refine x_irem C dX1_keep_35 (by decide) ?_
  refine x_put (ty := .int) C kf_X1_18 cput_41 rfl (by decide +kernel) rfl rfl (Nat.le_of_ble_eq_true rfl) cput_s dX1_keep_36 ?_
  refine xX.sg (congrArg (fun q => cput E σ B _ q (nI z) len tx) (mod6 hp)) ?_
  refine x_aload_n C dX1_keep_39 rfl ?_
  refine x_bipush (v := 6) C dX1_keep_40 (by decide) ?_
  refine x_aload_n C dX1_keep_42 rfl ?_
  refine x_get C kf_X1_30 cput_41 rfl dX1_keep_43 ?_
  refine x_iconst (v := 1) C dX1_keep_46 (by decide) ?_
  refine x_iadd C dX1_keep_47 ?_
  refine x_mmin C kl_X1_33 kz_smin ki_math kz_cmin (Nat.le_of_ble_eq_true rfl) (Nat.le_of_ble_eq_true rfl) (Nat.le_of_ble_eq_true rfl) (Nat.le_of_ble_eq_true rfl) dX1_keep_48 ?_
  refine x_put (ty := .int) C kf_X1_30 cput_41 rfl (by decide +kernel) rfl rfl (Nat.le_of_ble_eq_true rfl) cput_s dX1_keep_51 ?_
  exact x_vret C Z dX1_keep_54 (Nat.le_of_ble_eq_true rfl) (Nat.le_of_ble_eq_true rfl) rfl (congrArg (fun q => cput E σ B _ _ q len tx) (min6 hz))
end
section
/-! what is asked of two speakers, of a word, of the whole village -/
def agN (V : Vs) (a b : Nat) : Nat → Nat
  | 0 => 0
  | n + 1 => agN V a b n + (if wfS (V a) n ≠ none ∧ wfS (V a) n = wfS (V b) n then 1 else 0)
def awI (V : Vs) (a b w : Nat) : Nat → Nat
  | 0 => 0
  | n + 1 => awI V a b w n + (if wfS (V a) n = some w ∧ wfS (V b) n = some w then 1 else 0)
def awN (V : Vs) (a b : Nat) : Nat → Nat
  | 0 => 0
  | w + 1 => awN V a b w + awI V a b w 6
def unT (V : Vs) (s h n : Nat) : Nat := match wfS (V s) n with
  | none => 0
  | some w => if haS (V h) w = some n then 1 else 0
def unN (V : Vs) (s h : Nat) : Nat → Nat
  | 0 => 0
  | n + 1 => unN V s h n + unT V s h n
theorem unT_n {V : Vs} {s h n : Nat} (e : wfS (V s) n = none) : unT V s h n = 0 := by unfold unT; rw [e]
theorem unT_t {V : Vs} {s h n w : Nat} (e : wfS (V s) n = some w) (e2 : haS (V h) w = some n) : unT V s h n = 1 := by unfold unT; rw [e]; exact if_pos e2
theorem unT_f {V : Vs} {s h n w : Nat} (e : wfS (V s) n = some w) (e2 : ¬ haS (V h) w = some n) : unT V s h n = 0 := by unfold unT; rw [e]; exact if_neg e2
theorem unT_le {V : Vs} {s h n : Nat} : unT V s h n ≤ 1 := by
  unfold unT
  split
  · exact Nat.zero_le _
  · split <;> decide
theorem unN_le {V : Vs} {s h : Nat} : ∀ n, unN V s h n ≤ n
  | 0 => Nat.le_refl _
  | n + 1 => by
    have a := unN_le (V := V) (s := s) (h := h) n
    have b := unT_le (V := V) (s := s) (h := h) (n := n)
    show unN V s h n + unT V s h n ≤ n + 1
    omega
/-- the other one whom h understands best -/
def bsL (V : Vs) (h : Nat) : Nat → Option Nat
  | 0 => none
  | n + 1 => if ¬ V 10 n = 1 ∨ n = h then bsL V h n else match bsL V h n with
    | none => some n
    | some y => if unN V n h 6 ≤ unN V y h 6 then some y else some n
def bsG (V : Vs) (h : Nat) (o : Option Nat) : Int32 := match o with
  | none => -1
  | some y => nI (unN V y h 6)
theorem bsL_in {V : Vs} {h : Nat} : ∀ {n y : Nat}, bsL V h n = some y → y < n
  | 0, y, e => by simp [bsL] at e
  | n + 1, y, e => by
    unfold bsL at e
    split at e
    · have := bsL_in e; omega
    · cases ht : bsL V h n with
      | none => rw [ht] at e; simp at e; omega
      | some z =>
        rw [ht] at e
        have hz := bsL_in ht
        simp at e
        split at e <;> simp at e <;> omega
theorem bsL_sk {V : Vs} {h n : Nat} (e : ¬ V 10 n = 1 ∨ n = h) : bsL V h (n + 1) = bsL V h n := if_pos e
theorem bsL_n {V : Vs} {h n : Nat} (e : V 10 n = 1) (e2 : ¬ n = h) (hy : bsL V h n = none) : bsL V h (n + 1) = some n := by
  rw [bsL, if_neg (fun z => z.elim (fun z => z e) e2), hy]
theorem bsL_k {V : Vs} {h n y : Nat} (e : V 10 n = 1) (e2 : ¬ n = h) (hy : bsL V h n = some y) (e3 : unN V n h 6 ≤ unN V y h 6) : bsL V h (n + 1) = some y := by
  rw [bsL, if_neg (fun z => z.elim (fun z => z e) e2), hy]
  exact if_pos e3
theorem bsL_u {V : Vs} {h n y : Nat} (e : V 10 n = 1) (e2 : ¬ n = h) (hy : bsL V h n = some y) (e3 : ¬ unN V n h 6 ≤ unN V y h 6) : bsL V h (n + 1) = some n := by
  rw [bsL, if_neg (fun z => z.elim (fun z => z e) e2), hy]
  exact if_neg e3
def leS (j : Nat) : Int32 := if j = 0 then 1 else if j = 2 then 5 else 0
def moS (j : Nat) : Int32 := if j = 2 then 99 else if j = 3 then 100 else 9
def lwN (w : Nat) : Nat := if w < 2 then 1 else if w < 6 then 2 else 3
/-- digest -/
def mxS (h : Int64) (v : Int32) : Int64 := 31 * h + v.toInt64
def dgA (V : Vs) (h : Int64) : Nat → Int64
  | 0 => h
  | n + 1 => mxS (dgA V h n) (nuS V n)
def dgB (V : Vs) (h : Int64) : Nat → Int64
  | 0 => h
  | n + 1 => mxS (dgB V h n) (V 8 n)
def dgS1 (V : Vs) (k : Nat) (h : Int64) : Nat → Int64
  | 0 => h
  | n + 1 => mxS (dgS1 V k h n) (nsS V k n)
def dgS2 (V : Vs) (k : Nat) (h : Int64) : Nat → Int64
  | 0 => h
  | n + 1 => mxS (dgS2 V k h n) (oI (wfS (V k) n))
def dgS (V : Vs) (k : Nat) (h : Int64) : Int64 := if V 10 k = 1 then dgS2 V k (dgS1 V k (mxS h (nI k)) 5) 6 else h
def dgC (V : Vs) (h : Int64) : Nat → Int64
  | 0 => h
  | n + 1 => dgS V n (dgC V h n)
def dgD (V : Vs) (h : Int64) : Nat → Int64
  | 0 => h
  | n + 1 => mxS (dgD V h n) (oI (cmS V n))
def dgP (V : Vs) (k : Nat) (h : Int64) : Nat → Int64
  | 0 => h
  | t + 1 => if V 10 (k + 1 + t) = 1 then mxS (mxS (dgP V k h t) (nI (agN V k (k + 1 + t) 6))) (nI (unN V k (k + 1 + t) 6)) else dgP V k h t
def dgQ (V : Vs) (k : Nat) (h : Int64) : Int64 := if V 10 k = 1 then dgP V k h (7 - k) else h
def dgE (V : Vs) (h : Int64) : Nat → Int64
  | 0 => h
  | n + 1 => dgQ V n (dgE V h n)
def dgV (V : Vs) (V2 : Vs) : Int64 := dgE V2 (dgD V (dgC V (dgB V (dgA V 473 7) 4) 8) 6) 8
/-- the users' row behind the first n of the common words -/
def usC (V : Vs) : Nat → Vs
  | 0 => V
  | n + 1 => usR (usC V n) n 8
theorem usC_r {V : Vs} {r : Nat} (h : r ≠ 13) : ∀ n, usC V n r = V r
  | 0 => rfl
  | n + 1 => (usR_r h).trans (usC_r h n)
theorem cuN_cg {V W : Vs} (h : ∀ r, r ≠ 13 → V r = W r) {m w : Nat} : ∀ n, n ≤ 8 → cuN V m w n = cuN W m w n
  | 0, _ => rfl
  | n + 1, hn => by rw [cuN, cuN, cuN_cg h n (by omega), h 10 (by decide), h n (by omega)]
theorem cmS_cg {V W : Vs} (h : ∀ r, r ≠ 13 → V r = W r) {m : Nat} : cmS V m = cmS W m := by
  unfold cmS
  rw [wfL_cg (fun w _ => congrArg nI (cuN_cg h 8 (Nat.le_refl _)))]
theorem i2c_n {c : Nat} (h : c < 65536) : ((nI c).toUInt32 % 65536).toInt32 = nI c := by
  rw [pk_char, pk_tn (by omega), Nat.mod_eq_of_lt h]
theorem cpL_at {V W : Vs} {r j : Nat} (h : r < 8 ∨ ((r = 10 ∨ r = 11 ∨ r = 12) ∧ j < 8)) : cpL V W 8 r j = W r j := if_pos h
theorem cpV_w {V W : Vs} {r : Nat} (h : r < 8) : cpV V W r = W r := by
  unfold cpV
  rw [up2_r (by omega), up2_r (by omega), up2_r (by omega), up2_r (by omega), up2_r (by omega), upr_n (by omega)]
  funext j
  exact cpL_at (Or.inl h)
theorem cpV_8 {V W : Vs} : cpV V W 8 = W 8 := by
  unfold cpV
  rw [up2_r (by omega), up2_r (by omega), up2_r (by omega), up2_r (by omega), up2_r (by omega), upr_s]
theorem cpV_9 {V W : Vs} {j : Nat} (h : j < 5) : cpV V W 9 j = W 9 j := by
  unfold cpV
  by_cases h4 : j = 4
  · subst h4; rw [up2_s]
  rw [up2_n (by omega)]
  by_cases h3 : j = 3
  · subst h3; rw [up2_s]
  rw [up2_n (by omega)]
  by_cases h2 : j = 2
  · subst h2; rw [up2_s]
  rw [up2_n (by omega)]
  by_cases h1 : j = 1
  · subst h1; rw [up2_s]
  rw [up2_n (by omega)]
  have h0 : j = 0 := by omega
  subst h0
  rw [up2_s]
theorem cpV_k {V W : Vs} {r j : Nat} (h : r = 10 ∨ r = 11 ∨ r = 12) (hj : j < 8) : cpV V W r j = W r j := by
  unfold cpV
  rw [up2_r (by omega), up2_r (by omega), up2_r (by omega), up2_r (by omega), up2_r (by omega), upr_n (by omega)]
  exact cpL_at (Or.inr ⟨h, hj⟩)
theorem cnN_cg {P Q : Fn} : ∀ {n : Nat}, (∀ j, j < n → P j = Q j) → cnN P n = cnN Q n
  | 0, _ => rfl
  | n + 1, h => by rw [cnN, cnN, cnN_cg (fun j hj => h j (by omega)), h n (by omega)]
theorem cpV_ok {V W : Vs} (h : sok W) : sok (cpV V W) := by
  obtain ⟨q, hq, e⟩ := h
  exact ⟨q, hq, by rw [cpV_9 (by decide)]; exact e⟩
theorem cpV_cn {V W : Vs} {c : Nat} (h : cnN (W 10) 8 = c) : cnN (cpV V W 10) 8 = c := by
  rw [cnN_cg (fun j hj => cpV_k (Or.inl rfl) hj)]; exact h
def imS (W : Vs) (k1 k2 m j : Nat) : Int32 := if j = 0 then nI (mt1 W k1 k2 m).2.1 else if j = 1 then nI (mt1 W k1 k2 m).2.2 else if j = 2 then (if (mt1 W k1 k2 m).2.2 = m then 1 else 0) else nI (agN (mtV W k1 k2 m) k1 k2 6)
theorem mt1_w {V : Vs} {k1 k2 m : Nat} : (mt1 V k1 k2 m).2.1 < 14 := by
  dsimp only [mt1]
  exact wdN_lt
theorem mt1_h {V : Vs} {k1 k2 m : Nat} : (mt1 V k1 k2 m).2.2 < 6 := by
  dsimp only [mt1]
  exact hdN_lt
theorem o10 {w h : Nat} (hw : w < 14) (hh : h < 6) : (10 * nI w + nI h) / 10 = nI w := by
  rw [show (10 : Int32) = nI 10 from rfl, pk_mul, nI_add, pk_div (by omega) (by decide) (by decide), show (10 * w + h) / 10 = w by omega]
theorem o10r {w h : Nat} (hw : w < 14) (hh : h < 6) : 10 * nI w + nI h - (10 * nI w + nI h) / 10 * 10 = nI h := by
  rw [show (10 : Int32) = nI 10 from rfl, pk_mul, nI_add, pk_rem (by omega) (by decide) (by decide), show (10 * w + h) % 10 = h by omega]
theorem no_f {P : Fn} {i : Nat} (hi : i < 8) (h : ¬ P i = 1) : ¬ ∃ k, k < 8 ∧ nI i = nI k ∧ P k = 1 := by
  rintro ⟨k, hk, e, hp⟩
  have := (nI_eq (by omega) (by omega)).mp e
  subst this
  exact h hp
theorem nI_nm1 {u : Nat} (h : u < 2 ^ 31) : ¬ nI u ≤ -1 := by
  intro z
  have h1 := Int32.le_iff_toInt_le.mp z
  rw [nI_toInt h] at h1
  have h2 : ((-1 : Int32)).toInt = -1 := by decide
  omega
theorem imS_0 {W : Vs} {k1 k2 m : Nat} : imS W k1 k2 m 0 = nI (mt1 W k1 k2 m).2.1 := by unfold imS; rw [if_pos rfl]
theorem imS_1 {W : Vs} {k1 k2 m : Nat} : imS W k1 k2 m 1 = nI (mt1 W k1 k2 m).2.2 := by unfold imS; rw [if_neg (by decide), if_pos rfl]
theorem imS_2 {W : Vs} {k1 k2 m : Nat} : imS W k1 k2 m 2 = if (mt1 W k1 k2 m).2.2 = m then 1 else 0 := by unfold imS; rw [if_neg (by decide), if_neg (by decide), if_pos rfl]
theorem imS_3 {W : Vs} {k1 k2 m : Nat} : imS W k1 k2 m 3 = nI (agN (mtV W k1 k2 m) k1 k2 6) := by unfold imS; rw [if_neg (by decide), if_neg (by decide), if_neg (by decide)]
theorem imS_2t {W : Vs} {k1 k2 m : Nat} (hm : m < 6) (h : 10 * nI (mt1 W k1 k2 m).2.1 + nI (mt1 W k1 k2 m).2.2 - (10 * nI (mt1 W k1 k2 m).2.1 + nI (mt1 W k1 k2 m).2.2) / 10 * 10 = nI m) : 1 = imS W k1 k2 m 2 := by
  rw [o10r mt1_w mt1_h] at h
  have hh := mt1_h (V := W) (k1 := k1) (k2 := k2) (m := m)
  rw [imS_2, if_pos ((nI_eq (by omega) (by omega)).mp h)]
theorem imS_2f {W : Vs} {k1 k2 m : Nat} (h : ¬ 10 * nI (mt1 W k1 k2 m).2.1 + nI (mt1 W k1 k2 m).2.2 - (10 * nI (mt1 W k1 k2 m).2.1 + nI (mt1 W k1 k2 m).2.2) / 10 * 10 = nI m) : 0 = imS W k1 k2 m 2 := by
  rw [o10r mt1_w mt1_h] at h
  rw [imS_2, if_neg (fun z => h (by rw [z]))]
end
section
set_option maxRecDepth 100000 in
set_option maxHeartbeats 1000000 in
theorem c_X4_agreementByMeanings {l : Launch} {E : xEnv} {B N : Nat} {σ : Sg} {b k1 k2 : Nat} {V : Vs} (hk1 : k1 < 8) (hk2 : k2 < 8) : xM l yX4_agreementByMeanings cX4_agreementByMeanings 5 (some .int) 3 67 0 0 E B [.ref (b + 2 + 2 * k1), .ref (b + 2 + 2 * k2)] N (vput E σ b V) N (vput E σ b V) (some (.int (nI (agN V k1 k2 6)))) := by
  refine xM_of [some (.ref _), some (.ref _), none, none, none] (by decide +kernel) (Nat.le_of_ble_eq_true rfl) rfl (fun k0 C Z => ?_)
  have hl : ∀ i, i ≤ 6 → xX k0 N 0 0 (vput E σ b V) 4 [some (.ref (b + 2 + 2 * k1)), some (.ref (b + 2 + 2 * k2)), some (.int (nI (agN V k1 k2 i))), some (.int (nI i)), none] [] := by
    refine x_for 6 ?_ ?_
    · refine x_iload_n C dX4_agreementByMeanings_4 rfl ?_
      refine x_bipush (v := 6) C dX4_agreementByMeanings_5 (by decide) ?_
      refine x_ic_ge C 43 dX4_agreementByMeanings_7 (by decide) (fun _ => ?_) (fun h => absurd (nI_le (a := 6) (Nat.le_refl _) (by omega)) h)
      refine x_iload_n C dX4_agreementByMeanings_43 rfl ?_
      exact x_zret C Z dX4_agreementByMeanings_44 rfl (Nat.le_of_ble_eq_true rfl) (Nat.le_of_ble_eq_true rfl) rfl rfl rfl
    · intro i hi ih
      refine x_iload_n C dX4_agreementByMeanings_4 rfl ?_
      refine x_bipush (v := 6) C dX4_agreementByMeanings_5 (by decide) ?_
      refine x_ic_ge C 43 dX4_agreementByMeanings_7 (by decide) (fun h => absurd h (nI_ge (b := 6) hi (by omega))) (fun _ => ?_)
      refine x_aload_n C dX4_agreementByMeanings_10 rfl ?_
      refine x_iload_n C dX4_agreementByMeanings_11 rfl ?_
      refine x_callV C (c_X2_wordFor hk1 hi) kv_X2_wordFor kl_X4_118 dX4_agreementByMeanings_12 (vput_s hk1) rfl rfl rfl rfl (Nat.le_of_ble_eq_true rfl) (Nat.le_of_ble_eq_true rfl) (Nat.le_of_ble_eq_true rfl) (Nat.le_of_ble_eq_true rfl) (Nat.le_of_ble_eq_true rfl) ?_
      refine x_istore C dX4_agreementByMeanings_15 (by decide) rfl ?_
      refine x_iload C dX4_agreementByMeanings_17 rfl ?_
      refine x_bipush (v := (-6)) C dX4_agreementByMeanings_19 (by decide) ?_
      refine x_ic_eq C 37 dX4_agreementByMeanings_21 (by decide) (fun h21 => ?_) (fun h21 => ?_)
      · refine x_iinc C dX4_agreementByMeanings_37 rfl (nI_inc _) (by decide) rfl ?_
        refine x_goto C 4 dX4_agreementByMeanings_40 (by decide) ?_
        refine xX.cl ih rfl (And.intro rfl (And.intro rfl (And.intro ?_ (And.intro rfl trivial)))) rfl
        rw [agN, if_neg (fun z => z.1 (wfS_6.mp h21))]; rfl
      · refine x_iload C dX4_agreementByMeanings_24 rfl ?_
        refine x_aload_n C dX4_agreementByMeanings_26 rfl ?_
        refine x_iload_n C dX4_agreementByMeanings_27 rfl ?_
        refine x_callV C (c_X2_wordFor hk2 hi) kv_X2_wordFor kl_X4_118 dX4_agreementByMeanings_28 (vput_s hk2) rfl rfl rfl rfl (Nat.le_of_ble_eq_true rfl) (Nat.le_of_ble_eq_true rfl) (Nat.le_of_ble_eq_true rfl) (Nat.le_of_ble_eq_true rfl) (Nat.le_of_ble_eq_true rfl) ?_
        refine x_ic_ne C 37 dX4_agreementByMeanings_31 (by decide) (fun h31 => ?_) (fun h31 => ?_)
        · refine x_iinc C dX4_agreementByMeanings_37 rfl (nI_inc _) (by decide) rfl ?_
          refine x_goto C 4 dX4_agreementByMeanings_40 (by decide) ?_
          refine xX.cl ih rfl (And.intro rfl (And.intro rfl (And.intro ?_ (And.intro rfl trivial)))) rfl
          rw [agN, if_neg (fun z => h31 (wfS_ij.mpr z.2))]; rfl
        · refine x_iinc C dX4_agreementByMeanings_34 rfl (nI_inc _) (by decide) rfl ?_
          refine x_iinc C dX4_agreementByMeanings_37 rfl (nI_inc _) (by decide) rfl ?_
          refine x_goto C 4 dX4_agreementByMeanings_40 (by decide) ?_
          refine xX.cl ih rfl (And.intro rfl (And.intro rfl (And.intro ?_ (And.intro rfl trivial)))) rfl
          rw [agN, if_pos ⟨fun z => h21 (wfS_6.mpr z), wfS_ij.mp h31⟩]; rfl
  refine x_iconst (v := 0) C dX4_agreementByMeanings_0 (by decide) ?_
  refine x_istore_n C dX4_agreementByMeanings_1 (by decide) rfl ?_
  refine x_iconst (v := 0) C dX4_agreementByMeanings_2 (by decide) ?_
  refine x_istore_n C dX4_agreementByMeanings_3 (by decide) rfl ?_
  refine xX.cl (hl 0 (by omega)) rfl (And.intro rfl (And.intro rfl (And.intro rfl (And.intro rfl trivial)))) rfl
set_option maxRecDepth 100000 in
set_option maxHeartbeats 1000000 in
theorem c_X4_agreementByWords {l : Launch} {E : xEnv} {B N : Nat} {σ : Sg} {b k1 k2 : Nat} {V : Vs} (hk1 : k1 < 8) (hk2 : k2 < 8) : xM l yX4_agreementByWords cX4_agreementByWords 5 (some .int) 3 67 0 0 E B [.ref (b + 2 + 2 * k1), .ref (b + 2 + 2 * k2)] N (vput E σ b V) N (vput E σ b V) (some (.int (nI (awN V k1 k2 14)))) := by
  refine xM_of [some (.ref _), some (.ref _), none, none, none] (by decide +kernel) (Nat.le_of_ble_eq_true rfl) rfl (fun k0 C Z => ?_)
  have hl : ∀ w, w ≤ 14 → xX k0 N 0 0 (vput E σ b V) 4 [some (.ref (b + 2 + 2 * k1)), some (.ref (b + 2 + 2 * k2)), some (.int (nI (awN V k1 k2 w))), some (.int (nI w)), none] [] := by
    refine x_for 14 ?_ ?_
    · refine x_iload_n C dX4_agreementByWords_4 rfl ?_
      refine x_bipush (v := 14) C dX4_agreementByWords_5 (by decide) ?_
      refine x_ic_ge C 55 dX4_agreementByWords_7 (by decide) (fun _ => ?_) (fun h => absurd (nI_le (a := 14) (Nat.le_refl _) (by omega)) h)
      refine x_iload_n C dX4_agreementByWords_55 rfl ?_
      exact x_zret C Z dX4_agreementByWords_56 rfl (Nat.le_of_ble_eq_true rfl) (Nat.le_of_ble_eq_true rfl) rfl rfl rfl
    · intro w hi ih
      have hl2 : ∀ i, i ≤ 6 → xX k0 N 0 0 (vput E σ b V) 13 [some (.ref (b + 2 + 2 * k1)), some (.ref (b + 2 + 2 * k2)), some (.int (nI (awN V k1 k2 w + awI V k1 k2 w i))), some (.int (nI w)), some (.int (nI i))] [] := by
        refine x_for 6 ?_ ?_
        · refine x_iload C dX4_agreementByWords_13 rfl ?_
          refine x_bipush (v := 6) C dX4_agreementByWords_15 (by decide) ?_
          refine x_ic_ge C 49 dX4_agreementByWords_17 (by decide) (fun _ => ?_) (fun h => absurd (nI_le (a := 6) (Nat.le_refl _) (by omega)) h)
          refine x_iinc C dX4_agreementByWords_49 rfl (nI_inc _) (by decide) rfl ?_
          refine x_goto C 4 dX4_agreementByWords_52 (by decide) ?_
          refine xX.cl ih rfl (And.intro rfl (And.intro rfl (And.intro rfl (And.intro rfl trivial)))) rfl
        · intro i hi2 ih2
          refine x_iload C dX4_agreementByWords_13 rfl ?_
          refine x_bipush (v := 6) C dX4_agreementByWords_15 (by decide) ?_
          refine x_ic_ge C 49 dX4_agreementByWords_17 (by decide) (fun h => absurd h (nI_ge (b := 6) hi2 (by omega))) (fun _ => ?_)
          refine x_aload_n C dX4_agreementByWords_20 rfl ?_
          refine x_iload C dX4_agreementByWords_21 rfl ?_
          refine x_callV C (c_X2_wordFor hk1 hi2) kv_X2_wordFor kl_X4_118 dX4_agreementByWords_23 (vput_s hk1) rfl rfl rfl rfl (Nat.le_of_ble_eq_true rfl) (Nat.le_of_ble_eq_true rfl) (Nat.le_of_ble_eq_true rfl) (Nat.le_of_ble_eq_true rfl) (Nat.le_of_ble_eq_true rfl) ?_
          refine x_iload_n C dX4_agreementByWords_26 rfl ?_
          refine x_ic_ne C 43 dX4_agreementByWords_27 (by decide) (fun h27 => ?_) (fun h27 => ?_)
          · refine x_iinc C dX4_agreementByWords_43 rfl (nI_inc _) (by decide) rfl ?_
            refine x_goto C 13 dX4_agreementByWords_46 (by decide) ?_
            refine xX.cl ih2 rfl (And.intro rfl (And.intro rfl (And.intro ?_ (And.intro rfl (And.intro rfl trivial))))) rfl
            rw [awI, if_neg (fun z => h27 ((wfS_is (by omega)).mpr z.1))]; rfl
          · refine x_aload_n C dX4_agreementByWords_30 rfl ?_
            refine x_iload C dX4_agreementByWords_31 rfl ?_
            refine x_callV C (c_X2_wordFor hk2 hi2) kv_X2_wordFor kl_X4_118 dX4_agreementByWords_33 (vput_s hk2) rfl rfl rfl rfl (Nat.le_of_ble_eq_true rfl) (Nat.le_of_ble_eq_true rfl) (Nat.le_of_ble_eq_true rfl) (Nat.le_of_ble_eq_true rfl) (Nat.le_of_ble_eq_true rfl) ?_
            refine x_iload_n C dX4_agreementByWords_36 rfl ?_
            refine x_ic_ne C 43 dX4_agreementByWords_37 (by decide) (fun h37 => ?_) (fun h37 => ?_)
            · refine x_iinc C dX4_agreementByWords_43 rfl (nI_inc _) (by decide) rfl ?_
              refine x_goto C 13 dX4_agreementByWords_46 (by decide) ?_
              refine xX.cl ih2 rfl (And.intro rfl (And.intro rfl (And.intro ?_ (And.intro rfl (And.intro rfl trivial))))) rfl
              rw [awI, if_neg (fun z => h37 ((wfS_is (by omega)).mpr z.2))]; rfl
            · refine x_iinc C dX4_agreementByWords_40 rfl (nI_inc _) (by decide) rfl ?_
              refine x_iinc C dX4_agreementByWords_43 rfl (nI_inc _) (by decide) rfl ?_
              refine x_goto C 13 dX4_agreementByWords_46 (by decide) ?_
              refine xX.cl ih2 rfl (And.intro rfl (And.intro rfl (And.intro ?_ (And.intro rfl (And.intro rfl trivial))))) rfl
              rw [awI, if_pos ⟨(wfS_is (by omega)).mp h27, (wfS_is (by omega)).mp h37⟩]; rfl
      refine x_iload_n C dX4_agreementByWords_4 rfl ?_
      refine x_bipush (v := 14) C dX4_agreementByWords_5 (by decide) ?_
      refine x_ic_ge C 55 dX4_agreementByWords_7 (by decide) (fun h => absurd h (nI_ge (b := 14) hi (by omega))) (fun _ => ?_)
      refine x_iconst (v := 0) C dX4_agreementByWords_10 (by decide) ?_
      refine x_istore C dX4_agreementByWords_11 (by decide) rfl ?_
      refine xX.cl (hl2 0 (by omega)) rfl (And.intro rfl (And.intro rfl (And.intro rfl (And.intro rfl (And.intro rfl trivial))))) rfl
  refine x_iconst (v := 0) C dX4_agreementByWords_0 (by decide) ?_
  refine x_istore_n C dX4_agreementByWords_1 (by decide) rfl ?_
  refine x_iconst (v := 0) C dX4_agreementByWords_2 (by decide) ?_
  refine x_istore_n C dX4_agreementByWords_3 (by decide) rfl ?_
  refine xX.cl (hl 0 (by omega)) rfl (And.intro rfl (And.intro rfl (And.intro rfl (And.intro rfl trivial)))) rfl
set_option maxRecDepth 100000 in
set_option maxHeartbeats 1000000 in
theorem c_X4_understandingOf {l : Launch} {E : xEnv} {B N : Nat} {σ : Sg} {b k1 k2 : Nat} {V : Vs} (hk1 : k1 < 8) (hk2 : k2 < 8) : xM l yX4_understandingOf cX4_understandingOf 5 (some .int) 3 67 0 0 E B [.ref (b + 2 + 2 * k1), .ref (b + 2 + 2 * k2)] N (vput E σ b V) N (vput E σ b V) (some (.int (nI (unN V k1 k2 6)))) := by
  refine xM_of [some (.ref _), some (.ref _), none, none, none] (by decide +kernel) (Nat.le_of_ble_eq_true rfl) rfl (fun k0 C Z => ?_)
  have hl : ∀ i, i ≤ 6 → xX k0 N 0 0 (vput E σ b V) 4 [some (.ref (b + 2 + 2 * k1)), some (.ref (b + 2 + 2 * k2)), some (.int (nI (unN V k1 k2 i))), some (.int (nI i)), none] [] := by
    refine x_for 6 ?_ ?_
    · refine x_iload_n C dX4_understandingOf_4 rfl ?_
      refine x_bipush (v := 6) C dX4_understandingOf_5 (by decide) ?_
      refine x_ic_ge C 43 dX4_understandingOf_7 (by decide) (fun _ => ?_) (fun h => absurd (nI_le (a := 6) (Nat.le_refl _) (by omega)) h)
      refine x_iload_n C dX4_understandingOf_43 rfl ?_
      exact x_zret C Z dX4_understandingOf_44 rfl (Nat.le_of_ble_eq_true rfl) (Nat.le_of_ble_eq_true rfl) rfl rfl rfl
    · intro i hi ih
      refine x_iload_n C dX4_understandingOf_4 rfl ?_
      refine x_bipush (v := 6) C dX4_understandingOf_5 (by decide) ?_
      refine x_ic_ge C 43 dX4_understandingOf_7 (by decide) (fun h => absurd h (nI_ge (b := 6) hi (by omega))) (fun _ => ?_)
      refine x_aload_n C dX4_understandingOf_10 rfl ?_
      refine x_iload_n C dX4_understandingOf_11 rfl ?_
      refine x_callV C (c_X2_wordFor hk1 hi) kv_X2_wordFor kl_X4_118 dX4_understandingOf_12 (vput_s hk1) rfl rfl rfl rfl (Nat.le_of_ble_eq_true rfl) (Nat.le_of_ble_eq_true rfl) (Nat.le_of_ble_eq_true rfl) (Nat.le_of_ble_eq_true rfl) (Nat.le_of_ble_eq_true rfl) ?_
      cases hq : wfS (V k1) i with
      | none =>
        refine x_istore C dX4_understandingOf_15 (by decide) rfl ?_
        refine x_iload C dX4_understandingOf_17 rfl ?_
        refine x_bipush (v := (-6)) C dX4_understandingOf_19 (by decide) ?_
        refine x_ic_eq C 37 dX4_understandingOf_21 (by decide) (fun _ => ?_) (fun h => absurd rfl h)
        refine x_iinc C dX4_understandingOf_37 rfl (nI_inc _) (by decide) rfl ?_
        refine x_goto C 4 dX4_understandingOf_40 (by decide) ?_
        refine xX.cl ih rfl (And.intro rfl (And.intro rfl (And.intro ?_ (And.intro rfl trivial)))) rfl
        rw [unN, unT_n hq]; rfl
      | some w =>
        refine x_istore C dX4_understandingOf_15 (by decide) rfl ?_
        refine x_iload C dX4_understandingOf_17 rfl ?_
        refine x_bipush (v := (-6)) C dX4_understandingOf_19 (by decide) ?_
        refine x_ic_eq C 37 dX4_understandingOf_21 (by decide) (fun h => absurd h (nI_ne6 (by have := wfS_in hq; omega))) (fun _ => ?_)
        refine x_aload_n C dX4_understandingOf_24 rfl ?_
        refine x_iload C dX4_understandingOf_25 rfl ?_
        refine x_callV C (c_X2_meaningOf hk2 (wfS_in hq)) kv_X2_meaningOf kl_X4_121 dX4_understandingOf_27 (vput_s hk2) rfl rfl rfl rfl (Nat.le_of_ble_eq_true rfl) (Nat.le_of_ble_eq_true rfl) (Nat.le_of_ble_eq_true rfl) (Nat.le_of_ble_eq_true rfl) (Nat.le_of_ble_eq_true rfl) ?_
        refine x_iload_n C dX4_understandingOf_30 rfl ?_
        refine x_ic_ne C 37 dX4_understandingOf_31 (by decide) (fun h31 => ?_) (fun h31 => ?_)
        · refine x_iinc C dX4_understandingOf_37 rfl (nI_inc _) (by decide) rfl ?_
          refine x_goto C 4 dX4_understandingOf_40 (by decide) ?_
          refine xX.cl ih rfl (And.intro rfl (And.intro rfl (And.intro ?_ (And.intro rfl trivial)))) rfl
          rw [unN, unT_f hq (fun z => h31 ((haS_is (by omega)).mpr z))]; rfl
        · refine x_iinc C dX4_understandingOf_34 rfl (nI_inc _) (by decide) rfl ?_
          refine x_iinc C dX4_understandingOf_37 rfl (nI_inc _) (by decide) rfl ?_
          refine x_goto C 4 dX4_understandingOf_40 (by decide) ?_
          refine xX.cl ih rfl (And.intro rfl (And.intro rfl (And.intro ?_ (And.intro rfl trivial)))) rfl
          rw [unN, unT_t hq ((haS_is (by omega)).mp h31)]; rfl
  refine x_iconst (v := 0) C dX4_understandingOf_0 (by decide) ?_
  refine x_istore_n C dX4_understandingOf_1 (by decide) rfl ?_
  refine x_iconst (v := 0) C dX4_understandingOf_2 (by decide) ?_
  refine x_istore_n C dX4_understandingOf_3 (by decide) rfl ?_
  refine xX.cl (hl 0 (by omega)) rfl (And.intro rfl (And.intro rfl (And.intro rfl (And.intro rfl trivial)))) rfl
set_option maxRecDepth 100000 in
set_option maxHeartbeats 1000000 in
theorem c_X4_leastOf {l : Launch} {E : xEnv} {B N : Nat} {σ : Sg} {j : Nat} (hj : j < 4) : xM l yX4_leastOf cX4_leastOf 1 (some .int) 0 0 0 0 E B [.int (nI j)] N σ N σ (some (.int (leS j))) := by
  rcases (show j = 0 ∨ j = 1 ∨ j = 2 ∨ j = 3 by omega) with rfl | rfl | rfl | rfl
  · refine xM_of [some (.int _)] (by decide +kernel) (Nat.le_of_ble_eq_true rfl) rfl (fun k0 C Z => ?_)
    refine x_iload_n C dX4_leastOf_0 rfl ?_
    refine x_lkp (off := 27) C 28 dX4_leastOf_1 (by decide) (by decide) (by decide) ?_
    refine x_iconst (v := 1) C dX4_leastOf_28 (by decide) ?_
    exact x_zret C Z dX4_leastOf_29 rfl (Nat.le_of_ble_eq_true rfl) (Nat.le_of_ble_eq_true rfl) rfl rfl rfl
  · refine xM_of [some (.int _)] (by decide +kernel) (Nat.le_of_ble_eq_true rfl) rfl (fun k0 C Z => ?_)
    refine x_iload_n C dX4_leastOf_0 rfl ?_
    refine x_lkp (off := 31) C 32 dX4_leastOf_1 (by decide) (by decide) (by decide) ?_
    refine x_iconst (v := 0) C dX4_leastOf_32 (by decide) ?_
    exact x_zret C Z dX4_leastOf_33 rfl (Nat.le_of_ble_eq_true rfl) (Nat.le_of_ble_eq_true rfl) rfl rfl rfl
  · refine xM_of [some (.int _)] (by decide +kernel) (Nat.le_of_ble_eq_true rfl) rfl (fun k0 C Z => ?_)
    refine x_iload_n C dX4_leastOf_0 rfl ?_
    refine x_lkp (off := 29) C 30 dX4_leastOf_1 (by decide) (by decide) (by decide) ?_
    refine x_iconst (v := 5) C dX4_leastOf_30 (by decide) ?_
    exact x_zret C Z dX4_leastOf_31 rfl (Nat.le_of_ble_eq_true rfl) (Nat.le_of_ble_eq_true rfl) rfl rfl rfl
  · refine xM_of [some (.int _)] (by decide +kernel) (Nat.le_of_ble_eq_true rfl) rfl (fun k0 C Z => ?_)
    refine x_iload_n C dX4_leastOf_0 rfl ?_
    refine x_lkp (off := 31) C 32 dX4_leastOf_1 (by decide) (by decide) (by decide) ?_
    refine x_iconst (v := 0) C dX4_leastOf_32 (by decide) ?_
    exact x_zret C Z dX4_leastOf_33 rfl (Nat.le_of_ble_eq_true rfl) (Nat.le_of_ble_eq_true rfl) rfl rfl rfl
set_option maxRecDepth 100000 in
set_option maxHeartbeats 1000000 in
theorem c_X4_mostOf {l : Launch} {E : xEnv} {B N : Nat} {σ : Sg} {j : Nat} (hj : j < 4) : xM l yX4_mostOf cX4_mostOf 1 (some .int) 0 0 0 0 E B [.int (nI j)] N σ N σ (some (.int (moS j))) := by
  rcases (show j = 0 ∨ j = 1 ∨ j = 2 ∨ j = 3 by omega) with rfl | rfl | rfl | rfl
  · refine xM_of [some (.int _)] (by decide +kernel) (Nat.le_of_ble_eq_true rfl) rfl (fun k0 C Z => ?_)
    refine x_iload_n C dX4_mostOf_0 rfl ?_
    refine x_lkp (off := 33) C 34 dX4_mostOf_1 (by decide) (by decide) (by decide) ?_
    refine x_bipush (v := 9) C dX4_mostOf_34 (by decide) ?_
    exact x_zret C Z dX4_mostOf_36 rfl (Nat.le_of_ble_eq_true rfl) (Nat.le_of_ble_eq_true rfl) rfl rfl rfl
  · refine xM_of [some (.int _)] (by decide +kernel) (Nat.le_of_ble_eq_true rfl) rfl (fun k0 C Z => ?_)
    refine x_iload_n C dX4_mostOf_0 rfl ?_
    refine x_lkp (off := 33) C 34 dX4_mostOf_1 (by decide) (by decide) (by decide) ?_
    refine x_bipush (v := 9) C dX4_mostOf_34 (by decide) ?_
    exact x_zret C Z dX4_mostOf_36 rfl (Nat.le_of_ble_eq_true rfl) (Nat.le_of_ble_eq_true rfl) rfl rfl rfl
  · refine xM_of [some (.int _)] (by decide +kernel) (Nat.le_of_ble_eq_true rfl) rfl (fun k0 C Z => ?_)
    refine x_iload_n C dX4_mostOf_0 rfl ?_
    refine x_lkp (off := 27) C 28 dX4_mostOf_1 (by decide) (by decide) (by decide) ?_
    refine x_bipush (v := 99) C dX4_mostOf_28 (by decide) ?_
    exact x_zret C Z dX4_mostOf_30 rfl (Nat.le_of_ble_eq_true rfl) (Nat.le_of_ble_eq_true rfl) rfl rfl rfl
  · refine xM_of [some (.int _)] (by decide +kernel) (Nat.le_of_ble_eq_true rfl) rfl (fun k0 C Z => ?_)
    refine x_iload_n C dX4_mostOf_0 rfl ?_
    refine x_lkp (off := 30) C 31 dX4_mostOf_1 (by decide) (by decide) (by decide) ?_
    refine x_bipush (v := 100) C dX4_mostOf_31 (by decide) ?_
    exact x_zret C Z dX4_mostOf_33 rfl (Nat.le_of_ble_eq_true rfl) (Nat.le_of_ble_eq_true rfl) rfl rfl rfl
end
section
set_option maxRecDepth 100000 in
set_option maxHeartbeats 1000000 in
theorem c_X4_come_ok {l : Launch} {E : xEnv} {B N : Nat} {σ : Sg} {VV : Cs} {p z n : Nat} {tx : Fn} (hp : p < 6) (hz : z ≤ 6) {q : Nat} (hq : q < 8) (hall : ∀ j, j < q → VV 0 10 j = 1) (hno : ¬ VV 0 10 q = 1) : xM l yX4_come cX4_come 2 (some .int) 5 110 0 0 E B [.ref B] N (cput E σ B VV (nI p) (nI z) (nI n) tx) N (cput E σ B (upV (kpV VV p) 0 (blS (up2 (VV 0) 10 q 1) q none 0)) (nI ((p + 1) % 6)) (nI (min 6 (z + 1))) (nI n) tx) (some (.int (nI q))) := by
  refine xM_of [some (.ref _), none] (by decide +kernel) (Nat.le_of_ble_eq_true rfl) rfl (fun k0 C Z => ?_)
  refine x_aload_n C dX4_come_0 rfl ?_
  refine x_get C kf_X4_10 cput_0 rfl dX4_come_1 ?_
  refine x_callV C (c_X3_lowestFree_some hq hall hno) kv_X3_lowestFree kl_X4_33 dX4_come_4 cput_h0 (cput_is0 rfl) (cput_is0 rfl).symm rfl rfl (Nat.le_of_ble_eq_true rfl) (Nat.le_of_ble_eq_true rfl) (Nat.le_of_ble_eq_true rfl) (Nat.le_of_ble_eq_true rfl) (Nat.le_of_ble_eq_true rfl) ?_
  refine x_istore_n C dX4_come_7 (by decide) rfl ?_
  refine x_iload_n C dX4_come_8 rfl ?_
  refine x_bipush (v := (-6)) C dX4_come_9 (by decide) ?_
  refine x_ic_ne C 17 dX4_come_11 (by decide) (fun _ => ?_) (fun h => absurd h (nI_ne6 (by omega)))
  refine x_aload_n C dX4_come_17 rfl ?_
  refine x_get C kf_X4_22 cput_0 rfl dX4_come_18 ?_
  refine x_aload_n C dX4_come_21 rfl ?_
  refine x_get C kf_X4_10 cput_0 rfl dX4_come_22 ?_
  refine x_callV C (c_X1_keep hp hz) kv_X1_keep kl_X4_37 dX4_come_25 cput_41 rfl rfl rfl rfl (Nat.le_of_ble_eq_true rfl) (Nat.le_of_ble_eq_true rfl) (Nat.le_of_ble_eq_true rfl) (Nat.le_of_ble_eq_true rfl) (Nat.le_of_ble_eq_true rfl) ?_
  refine x_aload_n C dX4_come_28 rfl ?_
  refine x_get C kf_X4_10 cput_0 rfl dX4_come_29 ?_
  refine x_iload_n C dX4_come_32 rfl ?_
  refine x_callV C (c_X3_welcome hq) kv_X3_welcome kl_X4_41 dX4_come_33 cput_h0 (cput_is0 kpV_0) cput_w0 rfl rfl (Nat.le_of_ble_eq_true rfl) (Nat.le_of_ble_eq_true rfl) (Nat.le_of_ble_eq_true rfl) (Nat.le_of_ble_eq_true rfl) (Nat.le_of_ble_eq_true rfl) ?_
  refine x_iload_n C dX4_come_36 rfl ?_
  exact x_zret C Z dX4_come_37 rfl (Nat.le_of_ble_eq_true rfl) (Nat.le_of_ble_eq_true rfl) rfl rfl rfl
set_option maxRecDepth 100000 in
set_option maxHeartbeats 1000000 in
theorem c_X4_come_full {l : Launch} {E : xEnv} {B N : Nat} {σ : Sg} {VV : Cs} {p z n : Nat} {tx : Fn} (hall : ∀ j, j < 8 → VV 0 10 j = 1) : xM l yX4_come cX4_come 2 (some .int) 5 110 0 0 E B [.ref B] N (cput E σ B VV (nI p) (nI z) (nI n) tx) N (cput E σ B VV (nI p) (nI z) (nI n) tx) (some (.int (-4))) := by
  refine xM_of [some (.ref _), none] (by decide +kernel) (Nat.le_of_ble_eq_true rfl) rfl (fun k0 C Z => ?_)
  refine x_aload_n C dX4_come_0 rfl ?_
  refine x_get C kf_X4_10 cput_0 rfl dX4_come_1 ?_
  refine x_callV C (c_X3_lowestFree_none hall) kv_X3_lowestFree kl_X4_33 dX4_come_4 cput_h0 (cput_is0 rfl) (cput_is0 rfl).symm rfl rfl (Nat.le_of_ble_eq_true rfl) (Nat.le_of_ble_eq_true rfl) (Nat.le_of_ble_eq_true rfl) (Nat.le_of_ble_eq_true rfl) (Nat.le_of_ble_eq_true rfl) ?_
  refine x_istore_n C dX4_come_7 (by decide) rfl ?_
  refine x_iload_n C dX4_come_8 rfl ?_
  refine x_bipush (v := (-6)) C dX4_come_9 (by decide) ?_
  refine x_ic_ne C 17 dX4_come_11 (by decide) (fun h => absurd rfl h) (fun _ => ?_)
  refine x_bipush (v := (-4)) C dX4_come_14 (by decide) ?_
  exact x_zret C Z dX4_come_16 rfl (Nat.le_of_ble_eq_true rfl) (Nat.le_of_ble_eq_true rfl) rfl rfl rfl
set_option maxRecDepth 100000 in
set_option maxHeartbeats 1000000 in
theorem c_X4_go_ok {l : Launch} {E : xEnv} {B N : Nat} {σ : Sg} {VV : Cs} {p z n : Nat} {tx : Fn} (hp : p < 6) (hz : z ≤ 6){k : Nat} (hk : k < 8) (hp1 : VV 0 10 k = 1) : xM l yX4_go cX4_go 3 (some .int) 4 96 0 0 E B [.ref B, .int (nI k)] N (cput E σ B VV (nI p) (nI z) (nI n) tx) N (cput E σ B (upV (kpV VV p) 0 (up2 (VV 0) 10 k 0)) (nI ((p + 1) % 6)) (nI (min 6 (z + 1))) (nI n) tx) (some (.int (nI (cnN (up2 (VV 0) 10 k 0 10) 8)))) := by
  refine xM_of [some (.ref _), some (.int _), none] (by decide +kernel) (Nat.le_of_ble_eq_true rfl) rfl (fun k0 C Z => ?_)
  refine x_aload_n C dX4_go_0 rfl ?_
  refine x_get C kf_X4_10 cput_0 rfl dX4_go_1 ?_
  refine x_iload_n C dX4_go_4 rfl ?_
  refine x_callV C (c_X3_find_some hk hp1) kv_X3_find kl_X4_45 dX4_go_5 cput_h0 (cput_is0 rfl) (cput_is0 rfl).symm rfl rfl (Nat.le_of_ble_eq_true rfl) (Nat.le_of_ble_eq_true rfl) (Nat.le_of_ble_eq_true rfl) (Nat.le_of_ble_eq_true rfl) (Nat.le_of_ble_eq_true rfl) ?_
  refine x_astore_n C dX4_go_8 (by decide) rfl ?_
  refine x_aload_n C dX4_go_9 rfl ?_
  refine x_ifnn C 15 dX4_go_10 (by decide) ?_
  refine x_aload_n C dX4_go_15 rfl ?_
  refine x_get C kf_X4_22 cput_0 rfl dX4_go_16 ?_
  refine x_aload_n C dX4_go_19 rfl ?_
  refine x_get C kf_X4_10 cput_0 rfl dX4_go_20 ?_
  refine x_callV C (c_X1_keep hp hz) kv_X1_keep kl_X4_37 dX4_go_23 cput_41 rfl rfl rfl rfl (Nat.le_of_ble_eq_true rfl) (Nat.le_of_ble_eq_true rfl) (Nat.le_of_ble_eq_true rfl) (Nat.le_of_ble_eq_true rfl) (Nat.le_of_ble_eq_true rfl) ?_
  refine x_aload_n C dX4_go_26 rfl ?_
  refine x_callV C (c_X2_leave hk) kv_X2_leave kl_X4_49 dX4_go_27 (cput_hs hk) (cput_is0 kpV_0) cput_w0 rfl rfl (Nat.le_of_ble_eq_true rfl) (Nat.le_of_ble_eq_true rfl) (Nat.le_of_ble_eq_true rfl) (Nat.le_of_ble_eq_true rfl) (Nat.le_of_ble_eq_true rfl) ?_
  refine x_aload_n C dX4_go_30 rfl ?_
  refine x_get C kf_X4_10 cput_0 rfl dX4_go_31 ?_
  refine x_callV C c_X3_countSpeakers kv_X3_countSpeakers kl_X4_54 dX4_go_34 cput_h0 (cput_is0 upV_s) (cput_is0 upV_s).symm rfl rfl (Nat.le_of_ble_eq_true rfl) (Nat.le_of_ble_eq_true rfl) (Nat.le_of_ble_eq_true rfl) (Nat.le_of_ble_eq_true rfl) (Nat.le_of_ble_eq_true rfl) ?_
  exact x_zret C Z dX4_go_37 rfl (Nat.le_of_ble_eq_true rfl) (Nat.le_of_ble_eq_true rfl) rfl rfl rfl
set_option maxRecDepth 100000 in
set_option maxHeartbeats 1000000 in
theorem c_X4_go_no {l : Launch} {E : xEnv} {B N : Nat} {σ : Sg} {VV : Cs} {p z n : Nat} {tx : Fn}{x : Int32} (hno : ¬ ∃ k, k < 8 ∧ x = nI k ∧ VV 0 10 k = 1) : xM l yX4_go cX4_go 3 (some .int) 4 96 0 0 E B [.ref B, .int x] N (cput E σ B VV (nI p) (nI z) (nI n) tx) N (cput E σ B VV (nI p) (nI z) (nI n) tx) (some (.int (-1))) := by
  refine xM_of [some (.ref _), some (.int _), none] (by decide +kernel) (Nat.le_of_ble_eq_true rfl) rfl (fun k0 C Z => ?_)
  refine x_aload_n C dX4_go_0 rfl ?_
  refine x_get C kf_X4_10 cput_0 rfl dX4_go_1 ?_
  refine x_iload_n C dX4_go_4 rfl ?_
  refine x_callV C (c_X3_find_none hno) kv_X3_find kl_X4_45 dX4_go_5 cput_h0 (cput_is0 rfl) (cput_is0 rfl).symm rfl rfl (Nat.le_of_ble_eq_true rfl) (Nat.le_of_ble_eq_true rfl) (Nat.le_of_ble_eq_true rfl) (Nat.le_of_ble_eq_true rfl) (Nat.le_of_ble_eq_true rfl) ?_
  refine x_astore_nN C dX4_go_8 (by decide) rfl ?_
  refine x_aload_nN C dX4_go_9 rfl ?_
  refine x_ifnnN C dX4_go_10 ?_
  refine x_iconst (v := (-1)) C dX4_go_13 (by decide) ?_
  exact x_zret C Z dX4_go_14 rfl (Nat.le_of_ble_eq_true rfl) (Nat.le_of_ble_eq_true rfl) rfl rfl rfl
set_option maxRecDepth 100000 in
set_option maxHeartbeats 1000000 in
theorem c_X4_set_ok {l : Launch} {E : xEnv} {B N : Nat} {σ : Sg} {VV : Cs} {p z n : Nat} {tx : Fn} (hp : p < 6) (hz : z ≤ 6) {j : Nat} {v : Int32} (hj : j < 4) (h1 : ¬ v < leS j) (h2 : ¬ moS j < v) : xM l yX4_set cX4_set 4 (some .int) 4 96 0 0 E B [.ref B, .int (nI j), .int v] N (cput E σ B VV (nI p) (nI z) (nI n) tx) N (cput E σ B (upV (kpV VV p) 0 (up2 (VV 0) 8 j v)) (nI ((p + 1) % 6)) (nI (min 6 (z + 1))) (nI n) tx) (some (.int (VV 0 8 j))) := by
  refine xM_of [some (.ref _), some (.int _), some (.int _), none] (by decide +kernel) (Nat.le_of_ble_eq_true rfl) rfl (fun k0 C Z => ?_)
  refine x_iload_n C dX4_set_0 rfl ?_
  refine x_iconst (v := 4) C dX4_set_1 (by decide) ?_
  refine x_callS C (c_X4_isBelow _ _) ks_X4_isBelow kl_X4_57 dX4_set_2 rfl rfl rfl rfl (Nat.le_of_ble_eq_true rfl) (Nat.le_of_ble_eq_true rfl) (Nat.le_of_ble_eq_true rfl) (Nat.le_of_ble_eq_true rfl) (Nat.le_of_ble_eq_true rfl) ?_
  refine x_bne C 10 dX4_set_5 (by decide) (fun _ => ?_) (fun h => absurd (bd_in (c := 4) hj (by decide)) h)
  refine x_iload_n C dX4_set_10 rfl ?_
  refine x_iload_n C dX4_set_11 rfl ?_
  refine x_callS C (c_X4_leastOf hj) ks_X4_leastOf kl_X4_61 dX4_set_12 rfl rfl rfl rfl (Nat.le_of_ble_eq_true rfl) (Nat.le_of_ble_eq_true rfl) (Nat.le_of_ble_eq_true rfl) (Nat.le_of_ble_eq_true rfl) (Nat.le_of_ble_eq_true rfl) ?_
  refine x_ic_lt C 26 dX4_set_15 (by decide) (fun h => absurd h h1) (fun _ => ?_)
  refine x_iload_n C dX4_set_18 rfl ?_
  refine x_iload_n C dX4_set_19 rfl ?_
  refine x_callS C (c_X4_mostOf hj) ks_X4_mostOf kl_X4_65 dX4_set_20 rfl rfl rfl rfl (Nat.le_of_ble_eq_true rfl) (Nat.le_of_ble_eq_true rfl) (Nat.le_of_ble_eq_true rfl) (Nat.le_of_ble_eq_true rfl) (Nat.le_of_ble_eq_true rfl) ?_
  refine x_ic_le C 29 dX4_set_23 (by decide) (fun _ => ?_) (fun h => absurd (Int32.not_lt.mp h2) h)
  refine x_aload_n C dX4_set_29 rfl ?_
  refine x_get C kf_X4_10 cput_0 rfl dX4_set_30 ?_
  refine x_iload_n C dX4_set_33 rfl ?_
  refine x_callV C (c_X3_settingAt hj) kv_X3_settingAt kl_X4_68 dX4_set_34 cput_h0 (cput_is0 rfl) (cput_is0 rfl).symm rfl rfl (Nat.le_of_ble_eq_true rfl) (Nat.le_of_ble_eq_true rfl) (Nat.le_of_ble_eq_true rfl) (Nat.le_of_ble_eq_true rfl) (Nat.le_of_ble_eq_true rfl) ?_
  refine x_istore_n C dX4_set_37 (by decide) rfl ?_
  refine x_aload_n C dX4_set_38 rfl ?_
  refine x_get C kf_X4_22 cput_0 rfl dX4_set_39 ?_
  refine x_aload_n C dX4_set_42 rfl ?_
  refine x_get C kf_X4_10 cput_0 rfl dX4_set_43 ?_
  refine x_callV C (c_X1_keep hp hz) kv_X1_keep kl_X4_37 dX4_set_46 cput_41 rfl rfl rfl rfl (Nat.le_of_ble_eq_true rfl) (Nat.le_of_ble_eq_true rfl) (Nat.le_of_ble_eq_true rfl) (Nat.le_of_ble_eq_true rfl) (Nat.le_of_ble_eq_true rfl) ?_
  refine x_aload_n C dX4_set_49 rfl ?_
  refine x_get C kf_X4_10 cput_0 rfl dX4_set_50 ?_
  refine x_iload_n C dX4_set_53 rfl ?_
  refine x_iload_n C dX4_set_54 rfl ?_
  refine x_callV C (c_X3_putSetting hj _) kv_X3_putSetting kl_X4_71 dX4_set_55 cput_h0 (cput_is0 kpV_0) cput_w0 rfl rfl (Nat.le_of_ble_eq_true rfl) (Nat.le_of_ble_eq_true rfl) (Nat.le_of_ble_eq_true rfl) (Nat.le_of_ble_eq_true rfl) (Nat.le_of_ble_eq_true rfl) ?_
  refine x_iload_n C dX4_set_58 rfl ?_
  exact x_zret C Z dX4_set_59 rfl (Nat.le_of_ble_eq_true rfl) (Nat.le_of_ble_eq_true rfl) rfl rfl rfl
set_option maxRecDepth 100000 in
set_option maxHeartbeats 1000000 in
theorem c_X4_set_lo {l : Launch} {E : xEnv} {B N : Nat} {σ : Sg} {VV : Cs} {p z n : Nat} {tx : Fn} {j : Nat} {v : Int32} (hj : j < 4) (h1 : v < leS j) : xM l yX4_set cX4_set 4 (some .int) 4 96 0 0 E B [.ref B, .int (nI j), .int v] N (cput E σ B VV (nI p) (nI z) (nI n) tx) N (cput E σ B VV (nI p) (nI z) (nI n) tx) (some (.int (-2))) := by
  refine xM_of [some (.ref _), some (.int _), some (.int _), none] (by decide +kernel) (Nat.le_of_ble_eq_true rfl) rfl (fun k0 C Z => ?_)
  refine x_iload_n C dX4_set_0 rfl ?_
  refine x_iconst (v := 4) C dX4_set_1 (by decide) ?_
  refine x_callS C (c_X4_isBelow _ _) ks_X4_isBelow kl_X4_57 dX4_set_2 rfl rfl rfl rfl (Nat.le_of_ble_eq_true rfl) (Nat.le_of_ble_eq_true rfl) (Nat.le_of_ble_eq_true rfl) (Nat.le_of_ble_eq_true rfl) (Nat.le_of_ble_eq_true rfl) ?_
  refine x_bne C 10 dX4_set_5 (by decide) (fun _ => ?_) (fun h => absurd (bd_in (c := 4) hj (by decide)) h)
  refine x_iload_n C dX4_set_10 rfl ?_
  refine x_iload_n C dX4_set_11 rfl ?_
  refine x_callS C (c_X4_leastOf hj) ks_X4_leastOf kl_X4_61 dX4_set_12 rfl rfl rfl rfl (Nat.le_of_ble_eq_true rfl) (Nat.le_of_ble_eq_true rfl) (Nat.le_of_ble_eq_true rfl) (Nat.le_of_ble_eq_true rfl) (Nat.le_of_ble_eq_true rfl) ?_
  refine x_ic_lt C 26 dX4_set_15 (by decide) (fun _ => ?_) (fun h => absurd h1 h)
  refine x_bipush (v := (-2)) C dX4_set_26 (by decide) ?_
  exact x_zret C Z dX4_set_28 rfl (Nat.le_of_ble_eq_true rfl) (Nat.le_of_ble_eq_true rfl) rfl rfl rfl
set_option maxRecDepth 100000 in
set_option maxHeartbeats 1000000 in
theorem c_X4_set_hi {l : Launch} {E : xEnv} {B N : Nat} {σ : Sg} {VV : Cs} {p z n : Nat} {tx : Fn} {j : Nat} {v : Int32} (hj : j < 4) (h1 : ¬ v < leS j) (h2 : moS j < v) : xM l yX4_set cX4_set 4 (some .int) 4 96 0 0 E B [.ref B, .int (nI j), .int v] N (cput E σ B VV (nI p) (nI z) (nI n) tx) N (cput E σ B VV (nI p) (nI z) (nI n) tx) (some (.int (-2))) := by
  refine xM_of [some (.ref _), some (.int _), some (.int _), none] (by decide +kernel) (Nat.le_of_ble_eq_true rfl) rfl (fun k0 C Z => ?_)
  refine x_iload_n C dX4_set_0 rfl ?_
  refine x_iconst (v := 4) C dX4_set_1 (by decide) ?_
  refine x_callS C (c_X4_isBelow _ _) ks_X4_isBelow kl_X4_57 dX4_set_2 rfl rfl rfl rfl (Nat.le_of_ble_eq_true rfl) (Nat.le_of_ble_eq_true rfl) (Nat.le_of_ble_eq_true rfl) (Nat.le_of_ble_eq_true rfl) (Nat.le_of_ble_eq_true rfl) ?_
  refine x_bne C 10 dX4_set_5 (by decide) (fun _ => ?_) (fun h => absurd (bd_in (c := 4) hj (by decide)) h)
  refine x_iload_n C dX4_set_10 rfl ?_
  refine x_iload_n C dX4_set_11 rfl ?_
  refine x_callS C (c_X4_leastOf hj) ks_X4_leastOf kl_X4_61 dX4_set_12 rfl rfl rfl rfl (Nat.le_of_ble_eq_true rfl) (Nat.le_of_ble_eq_true rfl) (Nat.le_of_ble_eq_true rfl) (Nat.le_of_ble_eq_true rfl) (Nat.le_of_ble_eq_true rfl) ?_
  refine x_ic_lt C 26 dX4_set_15 (by decide) (fun h => absurd h h1) (fun _ => ?_)
  refine x_iload_n C dX4_set_18 rfl ?_
  refine x_iload_n C dX4_set_19 rfl ?_
  refine x_callS C (c_X4_mostOf hj) ks_X4_mostOf kl_X4_65 dX4_set_20 rfl rfl rfl rfl (Nat.le_of_ble_eq_true rfl) (Nat.le_of_ble_eq_true rfl) (Nat.le_of_ble_eq_true rfl) (Nat.le_of_ble_eq_true rfl) (Nat.le_of_ble_eq_true rfl) ?_
  refine x_ic_le C 29 dX4_set_23 (by decide) (fun h => absurd h (Int32.not_le.mpr h2)) (fun _ => ?_)
  refine x_bipush (v := (-2)) C dX4_set_26 (by decide) ?_
  exact x_zret C Z dX4_set_28 rfl (Nat.le_of_ble_eq_true rfl) (Nat.le_of_ble_eq_true rfl) rfl rfl rfl
set_option maxRecDepth 100000 in
set_option maxHeartbeats 1000000 in
theorem c_X4_set_no {l : Launch} {E : xEnv} {B N : Nat} {σ : Sg} {VV : Cs} {p z n : Nat} {tx : Fn} {x v : Int32} (hb : ¬ (0 ≤ x ∧ x < 4)) : xM l yX4_set cX4_set 4 (some .int) 4 96 0 0 E B [.ref B, .int x, .int v] N (cput E σ B VV (nI p) (nI z) (nI n) tx) N (cput E σ B VV (nI p) (nI z) (nI n) tx) (some (.int (-1))) := by
  refine xM_of [some (.ref _), some (.int _), some (.int _), none] (by decide +kernel) (Nat.le_of_ble_eq_true rfl) rfl (fun k0 C Z => ?_)
  refine x_iload_n C dX4_set_0 rfl ?_
  refine x_iconst (v := 4) C dX4_set_1 (by decide) ?_
  refine x_callS C (c_X4_isBelow _ _) ks_X4_isBelow kl_X4_57 dX4_set_2 rfl rfl rfl rfl (Nat.le_of_ble_eq_true rfl) (Nat.le_of_ble_eq_true rfl) (Nat.le_of_ble_eq_true rfl) (Nat.le_of_ble_eq_true rfl) (Nat.le_of_ble_eq_true rfl) ?_
  refine x_bne C 10 dX4_set_5 (by decide) (fun h => absurd h hb) (fun _ => ?_)
  refine x_iconst (v := (-1)) C dX4_set_8 (by decide) ?_
  exact x_zret C Z dX4_set_9 rfl (Nat.le_of_ble_eq_true rfl) (Nat.le_of_ble_eq_true rfl) rfl rfl rfl
set_option maxRecDepth 100000 in
set_option maxHeartbeats 1000000 in
theorem c_X4_setSeed_ok {l : Launch} {E : xEnv} {B N : Nat} {σ : Sg} {VV : Cs} {p z n : Nat} {tx : Fn} (hp : p < 6) (hz : z ≤ 6) {q : Nat} (hq : q < 65536) : xM l yX4_setSeed cX4_setSeed 3 (some .int) 4 96 0 0 E B [.ref B, .int (nI q)] N (cput E σ B VV (nI p) (nI z) (nI n) tx) N (cput E σ B (upV (kpV VV p) 0 (up2 (VV 0) 9 0 (nI q))) (nI ((p + 1) % 6)) (nI (min 6 (z + 1))) (nI n) tx) (some (.int (VV 0 9 0))) := by
  refine xM_of [some (.ref _), some (.int _), none] (by decide +kernel) (Nat.le_of_ble_eq_true rfl) rfl (fun k0 C Z => ?_)
  refine x_iload_n C dX4_setSeed_0 rfl ?_
  refine x_if_lt C 10 dX4_setSeed_1 (by decide) (fun h => absurd h (nI_pos (by omega))) (fun _ => ?_)
  refine x_iload_n C dX4_setSeed_4 rfl ?_
  refine x_ldc C kk_X4_75 dX4_setSeed_5 ?_
  refine x_ic_le C 13 dX4_setSeed_7 (by decide) (fun _ => ?_) (fun h => absurd (nI_le (b := 65535) (by omega) (by omega)) h)
  refine x_aload_n C dX4_setSeed_13 rfl ?_
  refine x_get C kf_X4_10 cput_0 rfl dX4_setSeed_14 ?_
  refine x_get C kf_X4_76 cput_h0 rfl dX4_setSeed_17 ?_
  refine x_istore_n C dX4_setSeed_20 (by decide) rfl ?_
  refine x_aload_n C dX4_setSeed_21 rfl ?_
  refine x_get C kf_X4_22 cput_0 rfl dX4_setSeed_22 ?_
  refine x_aload_n C dX4_setSeed_25 rfl ?_
  refine x_get C kf_X4_10 cput_0 rfl dX4_setSeed_26 ?_
  refine x_callV C (c_X1_keep hp hz) kv_X1_keep kl_X4_37 dX4_setSeed_29 cput_41 rfl rfl rfl rfl (Nat.le_of_ble_eq_true rfl) (Nat.le_of_ble_eq_true rfl) (Nat.le_of_ble_eq_true rfl) (Nat.le_of_ble_eq_true rfl) (Nat.le_of_ble_eq_true rfl) ?_
  refine x_aload_n C dX4_setSeed_32 rfl ?_
  refine x_get C kf_X4_10 cput_0 rfl dX4_setSeed_33 ?_
  refine x_iload_n C dX4_setSeed_36 rfl ?_
  refine x_put (ty := .int) C kf_X4_76 cput_h0 rfl (by decide +kernel) rfl rfl (Nat.le_of_ble_eq_true rfl) cput_p0 dX4_setSeed_37 ?_
  refine x_iload_n C dX4_setSeed_40 rfl ?_
  exact x_zret C Z dX4_setSeed_41 rfl (Nat.le_of_ble_eq_true rfl) (Nat.le_of_ble_eq_true rfl) rfl (by rw [kpV_0]) rfl
set_option maxRecDepth 100000 in
set_option maxHeartbeats 1000000 in
theorem c_X4_setSeed_lo {l : Launch} {E : xEnv} {B N : Nat} {σ : Sg} {VV : Cs} {p z n : Nat} {tx : Fn} {x : Int32} (h1 : x < 0) : xM l yX4_setSeed cX4_setSeed 3 (some .int) 4 96 0 0 E B [.ref B, .int x] N (cput E σ B VV (nI p) (nI z) (nI n) tx) N (cput E σ B VV (nI p) (nI z) (nI n) tx) (some (.int (-2))) := by
  refine xM_of [some (.ref _), some (.int _), none] (by decide +kernel) (Nat.le_of_ble_eq_true rfl) rfl (fun k0 C Z => ?_)
  refine x_iload_n C dX4_setSeed_0 rfl ?_
  refine x_if_lt C 10 dX4_setSeed_1 (by decide) (fun _ => ?_) (fun h => absurd h1 h)
  refine x_bipush (v := (-2)) C dX4_setSeed_10 (by decide) ?_
  exact x_zret C Z dX4_setSeed_12 rfl (Nat.le_of_ble_eq_true rfl) (Nat.le_of_ble_eq_true rfl) rfl rfl rfl
set_option maxRecDepth 100000 in
set_option maxHeartbeats 1000000 in
theorem c_X4_setSeed_hi {l : Launch} {E : xEnv} {B N : Nat} {σ : Sg} {VV : Cs} {p z n : Nat} {tx : Fn} {x : Int32} (h1 : ¬ x < 0) (h2 : 65535 < x) : xM l yX4_setSeed cX4_setSeed 3 (some .int) 4 96 0 0 E B [.ref B, .int x] N (cput E σ B VV (nI p) (nI z) (nI n) tx) N (cput E σ B VV (nI p) (nI z) (nI n) tx) (some (.int (-2))) := by
  refine xM_of [some (.ref _), some (.int _), none] (by decide +kernel) (Nat.le_of_ble_eq_true rfl) rfl (fun k0 C Z => ?_)
  refine x_iload_n C dX4_setSeed_0 rfl ?_
  refine x_if_lt C 10 dX4_setSeed_1 (by decide) (fun h => absurd h h1) (fun _ => ?_)
  refine x_iload_n C dX4_setSeed_4 rfl ?_
  refine x_ldc C kk_X4_75 dX4_setSeed_5 ?_
  refine x_ic_le C 13 dX4_setSeed_7 (by decide) (fun h => absurd h (Int32.not_le.mpr h2)) (fun _ => ?_)
  refine x_bipush (v := (-2)) C dX4_setSeed_10 (by decide) ?_
  exact x_zret C Z dX4_setSeed_12 rfl (Nat.le_of_ble_eq_true rfl) (Nat.le_of_ble_eq_true rfl) rfl rfl rfl
set_option maxRecDepth 100000 in
set_option maxHeartbeats 1000000 in
theorem c_X4_teach_ok {l : Launch} {E : xEnv} {B N : Nat} {σ : Sg} {VV : Cs} {p z n : Nat} {tx : Fn} (hp : p < 6) (hz : z ≤ 6){k : Nat} (hk : k < 8) (hp1 : VV 0 10 k = 1) {mm ww : Nat} (hm : mm < 6) (hw : ww < 14) {x : Int32} (h1 : ¬ x < 0) (h2 : ¬ 99 < x) : xM l yX4_teach cX4_teach 7 (some .int) 4 96 0 0 E B [.ref B, .int (nI k), .int (nI mm), .int (nI ww), .int x] N (cput E σ B VV (nI p) (nI z) (nI n) tx) N (cput E σ B (upV (kpV VV p) 0 (up2 (VV 0) k (14 * mm + ww) (clS x))) (nI ((p + 1) % 6)) (nI (min 6 (z + 1))) (nI n) tx) (some (.int (VV 0 k (14 * mm + ww)))) := by
  refine xM_of [some (.ref _), some (.int _), some (.int _), some (.int _), some (.int _), none, none] (by decide +kernel) (Nat.le_of_ble_eq_true rfl) rfl (fun k0 C Z => ?_)
  refine x_aload_n C dX4_teach_0 rfl ?_
  refine x_get C kf_X4_10 cput_0 rfl dX4_teach_1 ?_
  refine x_iload_n C dX4_teach_4 rfl ?_
  refine x_callV C (c_X3_find_some hk hp1) kv_X3_find kl_X4_45 dX4_teach_5 cput_h0 (cput_is0 rfl) (cput_is0 rfl).symm rfl rfl (Nat.le_of_ble_eq_true rfl) (Nat.le_of_ble_eq_true rfl) (Nat.le_of_ble_eq_true rfl) (Nat.le_of_ble_eq_true rfl) (Nat.le_of_ble_eq_true rfl) ?_
  refine x_astore C dX4_teach_8 (by decide) rfl ?_
  refine x_aload C dX4_teach_10 rfl ?_
  refine x_ifnull C dX4_teach_12 ?_
  refine x_iload_n C dX4_teach_15 rfl ?_
  refine x_callS C (c_X4_isMeaning _) ks_X4_isMeaning kl_X4_80 dX4_teach_16 rfl rfl rfl rfl (Nat.le_of_ble_eq_true rfl) (Nat.le_of_ble_eq_true rfl) (Nat.le_of_ble_eq_true rfl) (Nat.le_of_ble_eq_true rfl) (Nat.le_of_ble_eq_true rfl) ?_
  refine x_beq C 29 dX4_teach_19 (by decide) (fun h => absurd (bd_in (c := 6) hm (by decide)) h) (fun _ => ?_)
  refine x_iload_n C dX4_teach_22 rfl ?_
  refine x_callS C (c_X4_isWord _) ks_X4_isWord kl_X4_84 dX4_teach_23 rfl rfl rfl rfl (Nat.le_of_ble_eq_true rfl) (Nat.le_of_ble_eq_true rfl) (Nat.le_of_ble_eq_true rfl) (Nat.le_of_ble_eq_true rfl) (Nat.le_of_ble_eq_true rfl) ?_
  refine x_bne C 31 dX4_teach_26 (by decide) (fun _ => ?_) (fun h => absurd (bd_in (c := 14) hw (by decide)) h)
  refine x_iload C dX4_teach_31 rfl ?_
  refine x_if_lt C 43 dX4_teach_33 (by decide) (fun h => absurd h h1) (fun _ => ?_)
  refine x_iload C dX4_teach_36 rfl ?_
  refine x_bipush (v := 99) C dX4_teach_38 (by decide) ?_
  refine x_ic_le C 46 dX4_teach_40 (by decide) (fun _ => ?_) (fun h => absurd (Int32.not_lt.mp h2) h)
  refine x_aload C dX4_teach_46 rfl ?_
  refine x_iload_n C dX4_teach_48 rfl ?_
  refine x_iload_n C dX4_teach_49 rfl ?_
  refine x_callV C (c_X2_weightOf hk hm hw) kv_X2_weightOf kl_X4_87 dX4_teach_50 (cput_hs hk) (cput_is0 rfl) (cput_is0 rfl).symm rfl rfl (Nat.le_of_ble_eq_true rfl) (Nat.le_of_ble_eq_true rfl) (Nat.le_of_ble_eq_true rfl) (Nat.le_of_ble_eq_true rfl) (Nat.le_of_ble_eq_true rfl) ?_
  refine x_istore C dX4_teach_53 (by decide) rfl ?_
  refine x_aload_n C dX4_teach_55 rfl ?_
  refine x_get C kf_X4_22 cput_0 rfl dX4_teach_56 ?_
  refine x_aload_n C dX4_teach_59 rfl ?_
  refine x_get C kf_X4_10 cput_0 rfl dX4_teach_60 ?_
  refine x_callV C (c_X1_keep hp hz) kv_X1_keep kl_X4_37 dX4_teach_63 cput_41 rfl rfl rfl rfl (Nat.le_of_ble_eq_true rfl) (Nat.le_of_ble_eq_true rfl) (Nat.le_of_ble_eq_true rfl) (Nat.le_of_ble_eq_true rfl) (Nat.le_of_ble_eq_true rfl) ?_
  refine x_aload C dX4_teach_66 rfl ?_
  refine x_iload_n C dX4_teach_68 rfl ?_
  refine x_iload_n C dX4_teach_69 rfl ?_
  refine x_iload C dX4_teach_70 rfl ?_
  refine x_callV C (c_X2_putWeight hk hm hw _) kv_X2_putWeight kl_X4_91 dX4_teach_72 (cput_hs hk) (cput_is0 kpV_0) cput_w0 rfl rfl (Nat.le_of_ble_eq_true rfl) (Nat.le_of_ble_eq_true rfl) (Nat.le_of_ble_eq_true rfl) (Nat.le_of_ble_eq_true rfl) (Nat.le_of_ble_eq_true rfl) ?_
  refine x_iload C dX4_teach_75 rfl ?_
  exact x_zret C Z dX4_teach_77 rfl (Nat.le_of_ble_eq_true rfl) (Nat.le_of_ble_eq_true rfl) rfl rfl rfl
set_option maxRecDepth 100000 in
set_option maxHeartbeats 1000000 in
theorem c_X4_teach_lo {l : Launch} {E : xEnv} {B N : Nat} {σ : Sg} {VV : Cs} {p z n : Nat} {tx : Fn}{k : Nat} (hk : k < 8) (hp1 : VV 0 10 k = 1) {mm ww : Nat} (hm : mm < 6) (hw : ww < 14) {x : Int32} (h1 : x < 0) : xM l yX4_teach cX4_teach 7 (some .int) 4 96 0 0 E B [.ref B, .int (nI k), .int (nI mm), .int (nI ww), .int x] N (cput E σ B VV (nI p) (nI z) (nI n) tx) N (cput E σ B VV (nI p) (nI z) (nI n) tx) (some (.int (-2))) := by
  refine xM_of [some (.ref _), some (.int _), some (.int _), some (.int _), some (.int _), none, none] (by decide +kernel) (Nat.le_of_ble_eq_true rfl) rfl (fun k0 C Z => ?_)
  refine x_aload_n C dX4_teach_0 rfl ?_
  refine x_get C kf_X4_10 cput_0 rfl dX4_teach_1 ?_
  refine x_iload_n C dX4_teach_4 rfl ?_
  refine x_callV C (c_X3_find_some hk hp1) kv_X3_find kl_X4_45 dX4_teach_5 cput_h0 (cput_is0 rfl) (cput_is0 rfl).symm rfl rfl (Nat.le_of_ble_eq_true rfl) (Nat.le_of_ble_eq_true rfl) (Nat.le_of_ble_eq_true rfl) (Nat.le_of_ble_eq_true rfl) (Nat.le_of_ble_eq_true rfl) ?_
  refine x_astore C dX4_teach_8 (by decide) rfl ?_
  refine x_aload C dX4_teach_10 rfl ?_
  refine x_ifnull C dX4_teach_12 ?_
  refine x_iload_n C dX4_teach_15 rfl ?_
  refine x_callS C (c_X4_isMeaning _) ks_X4_isMeaning kl_X4_80 dX4_teach_16 rfl rfl rfl rfl (Nat.le_of_ble_eq_true rfl) (Nat.le_of_ble_eq_true rfl) (Nat.le_of_ble_eq_true rfl) (Nat.le_of_ble_eq_true rfl) (Nat.le_of_ble_eq_true rfl) ?_
  refine x_beq C 29 dX4_teach_19 (by decide) (fun h => absurd (bd_in (c := 6) hm (by decide)) h) (fun _ => ?_)
  refine x_iload_n C dX4_teach_22 rfl ?_
  refine x_callS C (c_X4_isWord _) ks_X4_isWord kl_X4_84 dX4_teach_23 rfl rfl rfl rfl (Nat.le_of_ble_eq_true rfl) (Nat.le_of_ble_eq_true rfl) (Nat.le_of_ble_eq_true rfl) (Nat.le_of_ble_eq_true rfl) (Nat.le_of_ble_eq_true rfl) ?_
  refine x_bne C 31 dX4_teach_26 (by decide) (fun _ => ?_) (fun h => absurd (bd_in (c := 14) hw (by decide)) h)
  refine x_iload C dX4_teach_31 rfl ?_
  refine x_if_lt C 43 dX4_teach_33 (by decide) (fun _ => ?_) (fun h => absurd h1 h)
  refine x_bipush (v := (-2)) C dX4_teach_43 (by decide) ?_
  exact x_zret C Z dX4_teach_45 rfl (Nat.le_of_ble_eq_true rfl) (Nat.le_of_ble_eq_true rfl) rfl rfl rfl
set_option maxRecDepth 100000 in
set_option maxHeartbeats 1000000 in
theorem c_X4_teach_hi {l : Launch} {E : xEnv} {B N : Nat} {σ : Sg} {VV : Cs} {p z n : Nat} {tx : Fn}{k : Nat} (hk : k < 8) (hp1 : VV 0 10 k = 1) {mm ww : Nat} (hm : mm < 6) (hw : ww < 14) {x : Int32} (h1 : ¬ x < 0) (h2 : 99 < x) : xM l yX4_teach cX4_teach 7 (some .int) 4 96 0 0 E B [.ref B, .int (nI k), .int (nI mm), .int (nI ww), .int x] N (cput E σ B VV (nI p) (nI z) (nI n) tx) N (cput E σ B VV (nI p) (nI z) (nI n) tx) (some (.int (-2))) := by
  refine xM_of [some (.ref _), some (.int _), some (.int _), some (.int _), some (.int _), none, none] (by decide +kernel) (Nat.le_of_ble_eq_true rfl) rfl (fun k0 C Z => ?_)
  refine x_aload_n C dX4_teach_0 rfl ?_
  refine x_get C kf_X4_10 cput_0 rfl dX4_teach_1 ?_
  refine x_iload_n C dX4_teach_4 rfl ?_
  refine x_callV C (c_X3_find_some hk hp1) kv_X3_find kl_X4_45 dX4_teach_5 cput_h0 (cput_is0 rfl) (cput_is0 rfl).symm rfl rfl (Nat.le_of_ble_eq_true rfl) (Nat.le_of_ble_eq_true rfl) (Nat.le_of_ble_eq_true rfl) (Nat.le_of_ble_eq_true rfl) (Nat.le_of_ble_eq_true rfl) ?_
  refine x_astore C dX4_teach_8 (by decide) rfl ?_
  refine x_aload C dX4_teach_10 rfl ?_
  refine x_ifnull C dX4_teach_12 ?_
  refine x_iload_n C dX4_teach_15 rfl ?_
  refine x_callS C (c_X4_isMeaning _) ks_X4_isMeaning kl_X4_80 dX4_teach_16 rfl rfl rfl rfl (Nat.le_of_ble_eq_true rfl) (Nat.le_of_ble_eq_true rfl) (Nat.le_of_ble_eq_true rfl) (Nat.le_of_ble_eq_true rfl) (Nat.le_of_ble_eq_true rfl) ?_
  refine x_beq C 29 dX4_teach_19 (by decide) (fun h => absurd (bd_in (c := 6) hm (by decide)) h) (fun _ => ?_)
  refine x_iload_n C dX4_teach_22 rfl ?_
  refine x_callS C (c_X4_isWord _) ks_X4_isWord kl_X4_84 dX4_teach_23 rfl rfl rfl rfl (Nat.le_of_ble_eq_true rfl) (Nat.le_of_ble_eq_true rfl) (Nat.le_of_ble_eq_true rfl) (Nat.le_of_ble_eq_true rfl) (Nat.le_of_ble_eq_true rfl) ?_
  refine x_bne C 31 dX4_teach_26 (by decide) (fun _ => ?_) (fun h => absurd (bd_in (c := 14) hw (by decide)) h)
  refine x_iload C dX4_teach_31 rfl ?_
  refine x_if_lt C 43 dX4_teach_33 (by decide) (fun h => absurd h h1) (fun _ => ?_)
  refine x_iload C dX4_teach_36 rfl ?_
  refine x_bipush (v := 99) C dX4_teach_38 (by decide) ?_
  refine x_ic_le C 46 dX4_teach_40 (by decide) (fun h => absurd h (Int32.not_le.mpr h2)) (fun _ => ?_)
  refine x_bipush (v := (-2)) C dX4_teach_43 (by decide) ?_
  exact x_zret C Z dX4_teach_45 rfl (Nat.le_of_ble_eq_true rfl) (Nat.le_of_ble_eq_true rfl) rfl rfl rfl
set_option maxRecDepth 100000 in
set_option maxHeartbeats 1000000 in
theorem c_X4_teach_n1 {l : Launch} {E : xEnv} {B N : Nat} {σ : Sg} {VV : Cs} {p z n : Nat} {tx : Fn}{x : Int32} (hno : ¬ ∃ k, k < 8 ∧ x = nI k ∧ VV 0 10 k = 1) {m w v : Int32} : xM l yX4_teach cX4_teach 7 (some .int) 4 96 0 0 E B [.ref B, .int x, .int m, .int w, .int v] N (cput E σ B VV (nI p) (nI z) (nI n) tx) N (cput E σ B VV (nI p) (nI z) (nI n) tx) (some (.int (-1))) := by
  refine xM_of [some (.ref _), some (.int _), some (.int _), some (.int _), some (.int _), none, none] (by decide +kernel) (Nat.le_of_ble_eq_true rfl) rfl (fun k0 C Z => ?_)
  refine x_aload_n C dX4_teach_0 rfl ?_
  refine x_get C kf_X4_10 cput_0 rfl dX4_teach_1 ?_
  refine x_iload_n C dX4_teach_4 rfl ?_
  refine x_callV C (c_X3_find_none hno) kv_X3_find kl_X4_45 dX4_teach_5 cput_h0 (cput_is0 rfl) (cput_is0 rfl).symm rfl rfl (Nat.le_of_ble_eq_true rfl) (Nat.le_of_ble_eq_true rfl) (Nat.le_of_ble_eq_true rfl) (Nat.le_of_ble_eq_true rfl) (Nat.le_of_ble_eq_true rfl) ?_
  refine x_astoreN C dX4_teach_8 (by decide) rfl ?_
  refine x_aloadN C dX4_teach_10 rfl ?_
  refine x_ifnullN C 29 dX4_teach_12 (by decide) ?_
  refine x_iconst (v := (-1)) C dX4_teach_29 (by decide) ?_
  exact x_zret C Z dX4_teach_30 rfl (Nat.le_of_ble_eq_true rfl) (Nat.le_of_ble_eq_true rfl) rfl rfl rfl
set_option maxRecDepth 100000 in
set_option maxHeartbeats 1000000 in
theorem c_X4_teach_n2 {l : Launch} {E : xEnv} {B N : Nat} {σ : Sg} {VV : Cs} {p z n : Nat} {tx : Fn}{k : Nat} (hk : k < 8) (hp1 : VV 0 10 k = 1) {m w v : Int32} (hb : ¬ (0 ≤ m ∧ m < 6)) : xM l yX4_teach cX4_teach 7 (some .int) 4 96 0 0 E B [.ref B, .int (nI k), .int m, .int w, .int v] N (cput E σ B VV (nI p) (nI z) (nI n) tx) N (cput E σ B VV (nI p) (nI z) (nI n) tx) (some (.int (-1))) := by
  refine xM_of [some (.ref _), some (.int _), some (.int _), some (.int _), some (.int _), none, none] (by decide +kernel) (Nat.le_of_ble_eq_true rfl) rfl (fun k0 C Z => ?_)
  refine x_aload_n C dX4_teach_0 rfl ?_
  refine x_get C kf_X4_10 cput_0 rfl dX4_teach_1 ?_
  refine x_iload_n C dX4_teach_4 rfl ?_
  refine x_callV C (c_X3_find_some hk hp1) kv_X3_find kl_X4_45 dX4_teach_5 cput_h0 (cput_is0 rfl) (cput_is0 rfl).symm rfl rfl (Nat.le_of_ble_eq_true rfl) (Nat.le_of_ble_eq_true rfl) (Nat.le_of_ble_eq_true rfl) (Nat.le_of_ble_eq_true rfl) (Nat.le_of_ble_eq_true rfl) ?_
  refine x_astore C dX4_teach_8 (by decide) rfl ?_
  refine x_aload C dX4_teach_10 rfl ?_
  refine x_ifnull C dX4_teach_12 ?_
  refine x_iload_n C dX4_teach_15 rfl ?_
  refine x_callS C (c_X4_isMeaning _) ks_X4_isMeaning kl_X4_80 dX4_teach_16 rfl rfl rfl rfl (Nat.le_of_ble_eq_true rfl) (Nat.le_of_ble_eq_true rfl) (Nat.le_of_ble_eq_true rfl) (Nat.le_of_ble_eq_true rfl) (Nat.le_of_ble_eq_true rfl) ?_
  refine x_beq C 29 dX4_teach_19 (by decide) (fun _ => ?_) (fun h => absurd h hb)
  refine x_iconst (v := (-1)) C dX4_teach_29 (by decide) ?_
  exact x_zret C Z dX4_teach_30 rfl (Nat.le_of_ble_eq_true rfl) (Nat.le_of_ble_eq_true rfl) rfl rfl rfl
set_option maxRecDepth 100000 in
set_option maxHeartbeats 1000000 in
theorem c_X4_teach_n3 {l : Launch} {E : xEnv} {B N : Nat} {σ : Sg} {VV : Cs} {p z n : Nat} {tx : Fn}{k : Nat} (hk : k < 8) (hp1 : VV 0 10 k = 1) {mm : Nat} {w v : Int32} (hm : mm < 6) (hb : ¬ (0 ≤ w ∧ w < 14)) : xM l yX4_teach cX4_teach 7 (some .int) 4 96 0 0 E B [.ref B, .int (nI k), .int (nI mm), .int w, .int v] N (cput E σ B VV (nI p) (nI z) (nI n) tx) N (cput E σ B VV (nI p) (nI z) (nI n) tx) (some (.int (-1))) := by
  refine xM_of [some (.ref _), some (.int _), some (.int _), some (.int _), some (.int _), none, none] (by decide +kernel) (Nat.le_of_ble_eq_true rfl) rfl (fun k0 C Z => ?_)
  refine x_aload_n C dX4_teach_0 rfl ?_
  refine x_get C kf_X4_10 cput_0 rfl dX4_teach_1 ?_
  refine x_iload_n C dX4_teach_4 rfl ?_
  refine x_callV C (c_X3_find_some hk hp1) kv_X3_find kl_X4_45 dX4_teach_5 cput_h0 (cput_is0 rfl) (cput_is0 rfl).symm rfl rfl (Nat.le_of_ble_eq_true rfl) (Nat.le_of_ble_eq_true rfl) (Nat.le_of_ble_eq_true rfl) (Nat.le_of_ble_eq_true rfl) (Nat.le_of_ble_eq_true rfl) ?_
  refine x_astore C dX4_teach_8 (by decide) rfl ?_
  refine x_aload C dX4_teach_10 rfl ?_
  refine x_ifnull C dX4_teach_12 ?_
  refine x_iload_n C dX4_teach_15 rfl ?_
  refine x_callS C (c_X4_isMeaning _) ks_X4_isMeaning kl_X4_80 dX4_teach_16 rfl rfl rfl rfl (Nat.le_of_ble_eq_true rfl) (Nat.le_of_ble_eq_true rfl) (Nat.le_of_ble_eq_true rfl) (Nat.le_of_ble_eq_true rfl) (Nat.le_of_ble_eq_true rfl) ?_
  refine x_beq C 29 dX4_teach_19 (by decide) (fun h => absurd (bd_in (c := 6) hm (by decide)) h) (fun _ => ?_)
  refine x_iload_n C dX4_teach_22 rfl ?_
  refine x_callS C (c_X4_isWord _) ks_X4_isWord kl_X4_84 dX4_teach_23 rfl rfl rfl rfl (Nat.le_of_ble_eq_true rfl) (Nat.le_of_ble_eq_true rfl) (Nat.le_of_ble_eq_true rfl) (Nat.le_of_ble_eq_true rfl) (Nat.le_of_ble_eq_true rfl) ?_
  refine x_bne C 31 dX4_teach_26 (by decide) (fun h => absurd h hb) (fun _ => ?_)
  refine x_iconst (v := (-1)) C dX4_teach_29 (by decide) ?_
  exact x_zret C Z dX4_teach_30 rfl (Nat.le_of_ble_eq_true rfl) (Nat.le_of_ble_eq_true rfl) rfl rfl rfl
set_option maxRecDepth 100000 in
set_option maxHeartbeats 1000000 in
theorem c_X4_setAge_ok {l : Launch} {E : xEnv} {B N : Nat} {σ : Sg} {VV : Cs} {p z n : Nat} {tx : Fn} (hp : p < 6) (hz : z ≤ 6){k : Nat} (hk : k < 8) (hp1 : VV 0 10 k = 1) {x : Int32} (h1 : ¬ x < 0) (h2 : ¬ 99 < x) : xM l yX4_setAge cX4_setAge 5 (some .int) 4 96 0 0 E B [.ref B, .int (nI k), .int x] N (cput E σ B VV (nI p) (nI z) (nI n) tx) N (cput E σ B (upV (kpV VV p) 0 (up2 (VV 0) 11 k x)) (nI ((p + 1) % 6)) (nI (min 6 (z + 1))) (nI n) tx) (some (.int (VV 0 11 k))) := by
  refine xM_of [some (.ref _), some (.int _), some (.int _), none, none] (by decide +kernel) (Nat.le_of_ble_eq_true rfl) rfl (fun k0 C Z => ?_)
  refine x_aload_n C dX4_setAge_0 rfl ?_
  refine x_get C kf_X4_10 cput_0 rfl dX4_setAge_1 ?_
  refine x_iload_n C dX4_setAge_4 rfl ?_
  refine x_callV C (c_X3_find_some hk hp1) kv_X3_find kl_X4_45 dX4_setAge_5 cput_h0 (cput_is0 rfl) (cput_is0 rfl).symm rfl rfl (Nat.le_of_ble_eq_true rfl) (Nat.le_of_ble_eq_true rfl) (Nat.le_of_ble_eq_true rfl) (Nat.le_of_ble_eq_true rfl) (Nat.le_of_ble_eq_true rfl) ?_
  refine x_astore_n C dX4_setAge_8 (by decide) rfl ?_
  refine x_aload_n C dX4_setAge_9 rfl ?_
  refine x_ifnn C 15 dX4_setAge_10 (by decide) ?_
  refine x_iload_n C dX4_setAge_15 rfl ?_
  refine x_if_lt C 25 dX4_setAge_16 (by decide) (fun h => absurd h h1) (fun _ => ?_)
  refine x_iload_n C dX4_setAge_19 rfl ?_
  refine x_bipush (v := 99) C dX4_setAge_20 (by decide) ?_
  refine x_ic_le C 28 dX4_setAge_22 (by decide) (fun _ => ?_) (fun h => absurd (Int32.not_lt.mp h2) h)
  refine x_aload_n C dX4_setAge_28 rfl ?_
  refine x_get C kf_X4_95 (cput_hs hk) rfl dX4_setAge_29 ?_
  refine x_istore C dX4_setAge_32 (by decide) rfl ?_
  refine x_aload_n C dX4_setAge_34 rfl ?_
  refine x_get C kf_X4_22 cput_0 rfl dX4_setAge_35 ?_
  refine x_aload_n C dX4_setAge_38 rfl ?_
  refine x_get C kf_X4_10 cput_0 rfl dX4_setAge_39 ?_
  refine x_callV C (c_X1_keep hp hz) kv_X1_keep kl_X4_37 dX4_setAge_42 cput_41 rfl rfl rfl rfl (Nat.le_of_ble_eq_true rfl) (Nat.le_of_ble_eq_true rfl) (Nat.le_of_ble_eq_true rfl) (Nat.le_of_ble_eq_true rfl) (Nat.le_of_ble_eq_true rfl) ?_
  refine x_aload_n C dX4_setAge_45 rfl ?_
  refine x_iload_n C dX4_setAge_46 rfl ?_
  refine x_put (ty := .int) C kf_X4_95 (cput_hs hk) rfl (by decide +kernel) rfl rfl (Nat.le_of_ble_eq_true rfl) (cput_pa hk) dX4_setAge_47 ?_
  refine x_iload C dX4_setAge_50 rfl ?_
  exact x_zret C Z dX4_setAge_52 rfl (Nat.le_of_ble_eq_true rfl) (Nat.le_of_ble_eq_true rfl) rfl (by rw [kpV_0]) rfl
set_option maxRecDepth 100000 in
set_option maxHeartbeats 1000000 in
theorem c_X4_setAge_lo {l : Launch} {E : xEnv} {B N : Nat} {σ : Sg} {VV : Cs} {p z n : Nat} {tx : Fn}{k : Nat} (hk : k < 8) (hp1 : VV 0 10 k = 1) {x : Int32} (h1 : x < 0) : xM l yX4_setAge cX4_setAge 5 (some .int) 4 96 0 0 E B [.ref B, .int (nI k), .int x] N (cput E σ B VV (nI p) (nI z) (nI n) tx) N (cput E σ B VV (nI p) (nI z) (nI n) tx) (some (.int (-2))) := by
  refine xM_of [some (.ref _), some (.int _), some (.int _), none, none] (by decide +kernel) (Nat.le_of_ble_eq_true rfl) rfl (fun k0 C Z => ?_)
  refine x_aload_n C dX4_setAge_0 rfl ?_
  refine x_get C kf_X4_10 cput_0 rfl dX4_setAge_1 ?_
  refine x_iload_n C dX4_setAge_4 rfl ?_
  refine x_callV C (c_X3_find_some hk hp1) kv_X3_find kl_X4_45 dX4_setAge_5 cput_h0 (cput_is0 rfl) (cput_is0 rfl).symm rfl rfl (Nat.le_of_ble_eq_true rfl) (Nat.le_of_ble_eq_true rfl) (Nat.le_of_ble_eq_true rfl) (Nat.le_of_ble_eq_true rfl) (Nat.le_of_ble_eq_true rfl) ?_
  refine x_astore_n C dX4_setAge_8 (by decide) rfl ?_
  refine x_aload_n C dX4_setAge_9 rfl ?_
  refine x_ifnn C 15 dX4_setAge_10 (by decide) ?_
  refine x_iload_n C dX4_setAge_15 rfl ?_
  refine x_if_lt C 25 dX4_setAge_16 (by decide) (fun _ => ?_) (fun h => absurd h1 h)
  refine x_bipush (v := (-2)) C dX4_setAge_25 (by decide) ?_
  exact x_zret C Z dX4_setAge_27 rfl (Nat.le_of_ble_eq_true rfl) (Nat.le_of_ble_eq_true rfl) rfl rfl rfl
set_option maxRecDepth 100000 in
set_option maxHeartbeats 1000000 in
theorem c_X4_setAge_hi {l : Launch} {E : xEnv} {B N : Nat} {σ : Sg} {VV : Cs} {p z n : Nat} {tx : Fn}{k : Nat} (hk : k < 8) (hp1 : VV 0 10 k = 1) {x : Int32} (h1 : ¬ x < 0) (h2 : 99 < x) : xM l yX4_setAge cX4_setAge 5 (some .int) 4 96 0 0 E B [.ref B, .int (nI k), .int x] N (cput E σ B VV (nI p) (nI z) (nI n) tx) N (cput E σ B VV (nI p) (nI z) (nI n) tx) (some (.int (-2))) := by
  refine xM_of [some (.ref _), some (.int _), some (.int _), none, none] (by decide +kernel) (Nat.le_of_ble_eq_true rfl) rfl (fun k0 C Z => ?_)
  refine x_aload_n C dX4_setAge_0 rfl ?_
  refine x_get C kf_X4_10 cput_0 rfl dX4_setAge_1 ?_
  refine x_iload_n C dX4_setAge_4 rfl ?_
  refine x_callV C (c_X3_find_some hk hp1) kv_X3_find kl_X4_45 dX4_setAge_5 cput_h0 (cput_is0 rfl) (cput_is0 rfl).symm rfl rfl (Nat.le_of_ble_eq_true rfl) (Nat.le_of_ble_eq_true rfl) (Nat.le_of_ble_eq_true rfl) (Nat.le_of_ble_eq_true rfl) (Nat.le_of_ble_eq_true rfl) ?_
  refine x_astore_n C dX4_setAge_8 (by decide) rfl ?_
  refine x_aload_n C dX4_setAge_9 rfl ?_
  refine x_ifnn C 15 dX4_setAge_10 (by decide) ?_
  refine x_iload_n C dX4_setAge_15 rfl ?_
  refine x_if_lt C 25 dX4_setAge_16 (by decide) (fun h => absurd h h1) (fun _ => ?_)
  refine x_iload_n C dX4_setAge_19 rfl ?_
  refine x_bipush (v := 99) C dX4_setAge_20 (by decide) ?_
  refine x_ic_le C 28 dX4_setAge_22 (by decide) (fun h => absurd h (Int32.not_le.mpr h2)) (fun _ => ?_)
  refine x_bipush (v := (-2)) C dX4_setAge_25 (by decide) ?_
  exact x_zret C Z dX4_setAge_27 rfl (Nat.le_of_ble_eq_true rfl) (Nat.le_of_ble_eq_true rfl) rfl rfl rfl
set_option maxRecDepth 100000 in
set_option maxHeartbeats 1000000 in
theorem c_X4_setAge_no {l : Launch} {E : xEnv} {B N : Nat} {σ : Sg} {VV : Cs} {p z n : Nat} {tx : Fn}{x : Int32} (hno : ¬ ∃ k, k < 8 ∧ x = nI k ∧ VV 0 10 k = 1) {v : Int32} : xM l yX4_setAge cX4_setAge 5 (some .int) 4 96 0 0 E B [.ref B, .int x, .int v] N (cput E σ B VV (nI p) (nI z) (nI n) tx) N (cput E σ B VV (nI p) (nI z) (nI n) tx) (some (.int (-1))) := by
  refine xM_of [some (.ref _), some (.int _), some (.int _), none, none] (by decide +kernel) (Nat.le_of_ble_eq_true rfl) rfl (fun k0 C Z => ?_)
  refine x_aload_n C dX4_setAge_0 rfl ?_
  refine x_get C kf_X4_10 cput_0 rfl dX4_setAge_1 ?_
  refine x_iload_n C dX4_setAge_4 rfl ?_
  refine x_callV C (c_X3_find_none hno) kv_X3_find kl_X4_45 dX4_setAge_5 cput_h0 (cput_is0 rfl) (cput_is0 rfl).symm rfl rfl (Nat.le_of_ble_eq_true rfl) (Nat.le_of_ble_eq_true rfl) (Nat.le_of_ble_eq_true rfl) (Nat.le_of_ble_eq_true rfl) (Nat.le_of_ble_eq_true rfl) ?_
  refine x_astore_nN C dX4_setAge_8 (by decide) rfl ?_
  refine x_aload_nN C dX4_setAge_9 rfl ?_
  refine x_ifnnN C dX4_setAge_10 ?_
  refine x_iconst (v := (-1)) C dX4_setAge_13 (by decide) ?_
  exact x_zret C Z dX4_setAge_14 rfl (Nat.le_of_ble_eq_true rfl) (Nat.le_of_ble_eq_true rfl) rfl rfl rfl
set_option maxRecDepth 100000 in
set_option maxHeartbeats 1000000 in
theorem c_X4_meet_ok {l : Launch} {E : xEnv} {B N : Nat} {σ : Sg} {VV : Cs} {p z n : Nat} {tx : Fn} (hp : p < 6) (hz : z ≤ 6){k1 : Nat} (hk1 : k1 < 8) (hp1 : VV 0 10 k1 = 1){k2 : Nat} (hk2 : k2 < 8) (hp2 : VV 0 10 k2 = 1) {m : Nat} (hm : m < 6) (hne : k1 ≠ k2) (hs : sok (VV 0)) : xM l yX4_meet cX4_meet 6 (some .int) 5 118 0 0 E B [.ref B, .int (nI k1), .int (nI k2), .int (nI m)] N (cput E σ B VV (nI p) (nI z) (nI n) tx) N (cput E σ B (upV (kpV VV p) 0 (mtV (VV 0) k1 k2 m)) (nI ((p + 1) % 6)) (nI (min 6 (z + 1))) (nI n) tx) (some (.int (10 * nI (mt1 (VV 0) k1 k2 m).2.1 + nI (mt1 (VV 0) k1 k2 m).2.2))) := by
  refine xM_of [some (.ref _), some (.int _), some (.int _), some (.int _), none, none] (by decide +kernel) (Nat.le_of_ble_eq_true rfl) rfl (fun k0 C Z => ?_)
  refine x_aload_n C dX4_meet_0 rfl ?_
  refine x_get C kf_X4_10 cput_0 rfl dX4_meet_1 ?_
  refine x_iload_n C dX4_meet_4 rfl ?_
  refine x_callV C (c_X3_find_some hk1 hp1) kv_X3_find kl_X4_45 dX4_meet_5 cput_h0 (cput_is0 rfl) (cput_is0 rfl).symm rfl rfl (Nat.le_of_ble_eq_true rfl) (Nat.le_of_ble_eq_true rfl) (Nat.le_of_ble_eq_true rfl) (Nat.le_of_ble_eq_true rfl) (Nat.le_of_ble_eq_true rfl) ?_
  refine x_astore C dX4_meet_8 (by decide) rfl ?_
  refine x_aload_n C dX4_meet_10 rfl ?_
  refine x_get C kf_X4_10 cput_0 rfl dX4_meet_11 ?_
  refine x_iload_n C dX4_meet_14 rfl ?_
  refine x_callV C (c_X3_find_some hk2 hp2) kv_X3_find kl_X4_45 dX4_meet_15 cput_h0 (cput_is0 rfl) (cput_is0 rfl).symm rfl rfl (Nat.le_of_ble_eq_true rfl) (Nat.le_of_ble_eq_true rfl) (Nat.le_of_ble_eq_true rfl) (Nat.le_of_ble_eq_true rfl) (Nat.le_of_ble_eq_true rfl) ?_
  refine x_astore C dX4_meet_18 (by decide) rfl ?_
  refine x_aload C dX4_meet_20 rfl ?_
  refine x_ifnull C dX4_meet_22 ?_
  refine x_aload C dX4_meet_25 rfl ?_
  refine x_ifnull C dX4_meet_27 ?_
  refine x_iload_n C dX4_meet_30 rfl ?_
  refine x_callS C (c_X4_isMeaning _) ks_X4_isMeaning kl_X4_80 dX4_meet_31 rfl rfl rfl rfl (Nat.le_of_ble_eq_true rfl) (Nat.le_of_ble_eq_true rfl) (Nat.le_of_ble_eq_true rfl) (Nat.le_of_ble_eq_true rfl) (Nat.le_of_ble_eq_true rfl) ?_
  refine x_bne C 39 dX4_meet_34 (by decide) (fun _ => ?_) (fun h => absurd (bd_in (c := 6) hm (by decide)) h)
  refine x_iload_n C dX4_meet_39 rfl ?_
  refine x_iload_n C dX4_meet_40 rfl ?_
  refine x_ic_ne C 47 dX4_meet_41 (by decide) (fun _ => ?_) (fun h => absurd h (nI_neL (by omega) (by omega) hne))
  refine x_aload_n C dX4_meet_47 rfl ?_
  refine x_get C kf_X4_22 cput_0 rfl dX4_meet_48 ?_
  refine x_aload_n C dX4_meet_51 rfl ?_
  refine x_get C kf_X4_10 cput_0 rfl dX4_meet_52 ?_
  refine x_callV C (c_X1_keep hp hz) kv_X1_keep kl_X4_37 dX4_meet_55 cput_41 rfl rfl rfl rfl (Nat.le_of_ble_eq_true rfl) (Nat.le_of_ble_eq_true rfl) (Nat.le_of_ble_eq_true rfl) (Nat.le_of_ble_eq_true rfl) (Nat.le_of_ble_eq_true rfl) ?_
  refine x_aload_n C dX4_meet_58 rfl ?_
  refine x_get C kf_X4_10 cput_0 rfl dX4_meet_59 ?_
  refine x_aload C dX4_meet_62 rfl ?_
  refine x_aload C dX4_meet_64 rfl ?_
  refine x_iload_n C dX4_meet_66 rfl ?_
  refine x_callV C (c_X3_holdMeeting hk1 hk2 hm hs) kv_X3_holdMeeting kl_X4_98 dX4_meet_67 cput_h0 (cput_is0 kpV_0) cput_w0 rfl rfl (Nat.le_of_ble_eq_true rfl) (Nat.le_of_ble_eq_true rfl) (Nat.le_of_ble_eq_true rfl) (Nat.le_of_ble_eq_true rfl) (Nat.le_of_ble_eq_true rfl) ?_
  exact x_zret C Z dX4_meet_70 rfl (Nat.le_of_ble_eq_true rfl) (Nat.le_of_ble_eq_true rfl) rfl rfl rfl
set_option maxRecDepth 100000 in
set_option maxHeartbeats 1000000 in
theorem c_X4_meet_same {l : Launch} {E : xEnv} {B N : Nat} {σ : Sg} {VV : Cs} {p z n : Nat} {tx : Fn}{k1 : Nat} (hk1 : k1 < 8) (hp1 : VV 0 10 k1 = 1) {m : Nat} (hm : m < 6) : xM l yX4_meet cX4_meet 6 (some .int) 5 118 0 0 E B [.ref B, .int (nI k1), .int (nI k1), .int (nI m)] N (cput E σ B VV (nI p) (nI z) (nI n) tx) N (cput E σ B VV (nI p) (nI z) (nI n) tx) (some (.int (-3))) := by
  refine xM_of [some (.ref _), some (.int _), some (.int _), some (.int _), none, none] (by decide +kernel) (Nat.le_of_ble_eq_true rfl) rfl (fun k0 C Z => ?_)
  refine x_aload_n C dX4_meet_0 rfl ?_
  refine x_get C kf_X4_10 cput_0 rfl dX4_meet_1 ?_
  refine x_iload_n C dX4_meet_4 rfl ?_
  refine x_callV C (c_X3_find_some hk1 hp1) kv_X3_find kl_X4_45 dX4_meet_5 cput_h0 (cput_is0 rfl) (cput_is0 rfl).symm rfl rfl (Nat.le_of_ble_eq_true rfl) (Nat.le_of_ble_eq_true rfl) (Nat.le_of_ble_eq_true rfl) (Nat.le_of_ble_eq_true rfl) (Nat.le_of_ble_eq_true rfl) ?_
  refine x_astore C dX4_meet_8 (by decide) rfl ?_
  refine x_aload_n C dX4_meet_10 rfl ?_
  refine x_get C kf_X4_10 cput_0 rfl dX4_meet_11 ?_
  refine x_iload_n C dX4_meet_14 rfl ?_
  refine x_callV C (c_X3_find_some hk1 hp1) kv_X3_find kl_X4_45 dX4_meet_15 cput_h0 (cput_is0 rfl) (cput_is0 rfl).symm rfl rfl (Nat.le_of_ble_eq_true rfl) (Nat.le_of_ble_eq_true rfl) (Nat.le_of_ble_eq_true rfl) (Nat.le_of_ble_eq_true rfl) (Nat.le_of_ble_eq_true rfl) ?_
  refine x_astore C dX4_meet_18 (by decide) rfl ?_
  refine x_aload C dX4_meet_20 rfl ?_
  refine x_ifnull C dX4_meet_22 ?_
  refine x_aload C dX4_meet_25 rfl ?_
  refine x_ifnull C dX4_meet_27 ?_
  refine x_iload_n C dX4_meet_30 rfl ?_
  refine x_callS C (c_X4_isMeaning _) ks_X4_isMeaning kl_X4_80 dX4_meet_31 rfl rfl rfl rfl (Nat.le_of_ble_eq_true rfl) (Nat.le_of_ble_eq_true rfl) (Nat.le_of_ble_eq_true rfl) (Nat.le_of_ble_eq_true rfl) (Nat.le_of_ble_eq_true rfl) ?_
  refine x_bne C 39 dX4_meet_34 (by decide) (fun _ => ?_) (fun h => absurd (bd_in (c := 6) hm (by decide)) h)
  refine x_iload_n C dX4_meet_39 rfl ?_
  refine x_iload_n C dX4_meet_40 rfl ?_
  refine x_ic_ne C 47 dX4_meet_41 (by decide) (fun h => absurd rfl h) (fun _ => ?_)
  refine x_bipush (v := (-3)) C dX4_meet_44 (by decide) ?_
  exact x_zret C Z dX4_meet_46 rfl (Nat.le_of_ble_eq_true rfl) (Nat.le_of_ble_eq_true rfl) rfl rfl rfl
set_option maxRecDepth 100000 in
set_option maxHeartbeats 1000000 in
theorem c_X4_meet_n1s {l : Launch} {E : xEnv} {B N : Nat} {σ : Sg} {VV : Cs} {p z n : Nat} {tx : Fn}{x : Int32} (hno : ¬ ∃ k, k < 8 ∧ x = nI k ∧ VV 0 10 k = 1){k2 : Nat} (hk2 : k2 < 8) (hp2 : VV 0 10 k2 = 1) {m : Int32} : xM l yX4_meet cX4_meet 6 (some .int) 5 118 0 0 E B [.ref B, .int x, .int (nI k2), .int m] N (cput E σ B VV (nI p) (nI z) (nI n) tx) N (cput E σ B VV (nI p) (nI z) (nI n) tx) (some (.int (-1))) := by
  refine xM_of [some (.ref _), some (.int _), some (.int _), some (.int _), none, none] (by decide +kernel) (Nat.le_of_ble_eq_true rfl) rfl (fun k0 C Z => ?_)
  refine x_aload_n C dX4_meet_0 rfl ?_
  refine x_get C kf_X4_10 cput_0 rfl dX4_meet_1 ?_
  refine x_iload_n C dX4_meet_4 rfl ?_
  refine x_callV C (c_X3_find_none hno) kv_X3_find kl_X4_45 dX4_meet_5 cput_h0 (cput_is0 rfl) (cput_is0 rfl).symm rfl rfl (Nat.le_of_ble_eq_true rfl) (Nat.le_of_ble_eq_true rfl) (Nat.le_of_ble_eq_true rfl) (Nat.le_of_ble_eq_true rfl) (Nat.le_of_ble_eq_true rfl) ?_
  refine x_astoreN C dX4_meet_8 (by decide) rfl ?_
  refine x_aload_n C dX4_meet_10 rfl ?_
  refine x_get C kf_X4_10 cput_0 rfl dX4_meet_11 ?_
  refine x_iload_n C dX4_meet_14 rfl ?_
  refine x_callV C (c_X3_find_some hk2 hp2) kv_X3_find kl_X4_45 dX4_meet_15 cput_h0 (cput_is0 rfl) (cput_is0 rfl).symm rfl rfl (Nat.le_of_ble_eq_true rfl) (Nat.le_of_ble_eq_true rfl) (Nat.le_of_ble_eq_true rfl) (Nat.le_of_ble_eq_true rfl) (Nat.le_of_ble_eq_true rfl) ?_
  refine x_astore C dX4_meet_18 (by decide) rfl ?_
  refine x_aloadN C dX4_meet_20 rfl ?_
  refine x_ifnullN C 37 dX4_meet_22 (by decide) ?_
  refine x_iconst (v := (-1)) C dX4_meet_37 (by decide) ?_
  exact x_zret C Z dX4_meet_38 rfl (Nat.le_of_ble_eq_true rfl) (Nat.le_of_ble_eq_true rfl) rfl rfl rfl
set_option maxRecDepth 100000 in
set_option maxHeartbeats 1000000 in
theorem c_X4_meet_n1n {l : Launch} {E : xEnv} {B N : Nat} {σ : Sg} {VV : Cs} {p z n : Nat} {tx : Fn}{x : Int32} (hno : ¬ ∃ k, k < 8 ∧ x = nI k ∧ VV 0 10 k = 1){y : Int32} (hny : ¬ ∃ k, k < 8 ∧ y = nI k ∧ VV 0 10 k = 1) {m : Int32} : xM l yX4_meet cX4_meet 6 (some .int) 5 118 0 0 E B [.ref B, .int x, .int y, .int m] N (cput E σ B VV (nI p) (nI z) (nI n) tx) N (cput E σ B VV (nI p) (nI z) (nI n) tx) (some (.int (-1))) := by
  refine xM_of [some (.ref _), some (.int _), some (.int _), some (.int _), none, none] (by decide +kernel) (Nat.le_of_ble_eq_true rfl) rfl (fun k0 C Z => ?_)
  refine x_aload_n C dX4_meet_0 rfl ?_
  refine x_get C kf_X4_10 cput_0 rfl dX4_meet_1 ?_
  refine x_iload_n C dX4_meet_4 rfl ?_
  refine x_callV C (c_X3_find_none hno) kv_X3_find kl_X4_45 dX4_meet_5 cput_h0 (cput_is0 rfl) (cput_is0 rfl).symm rfl rfl (Nat.le_of_ble_eq_true rfl) (Nat.le_of_ble_eq_true rfl) (Nat.le_of_ble_eq_true rfl) (Nat.le_of_ble_eq_true rfl) (Nat.le_of_ble_eq_true rfl) ?_
  refine x_astoreN C dX4_meet_8 (by decide) rfl ?_
  refine x_aload_n C dX4_meet_10 rfl ?_
  refine x_get C kf_X4_10 cput_0 rfl dX4_meet_11 ?_
  refine x_iload_n C dX4_meet_14 rfl ?_
  refine x_callV C (c_X3_find_none hny) kv_X3_find kl_X4_45 dX4_meet_15 cput_h0 (cput_is0 rfl) (cput_is0 rfl).symm rfl rfl (Nat.le_of_ble_eq_true rfl) (Nat.le_of_ble_eq_true rfl) (Nat.le_of_ble_eq_true rfl) (Nat.le_of_ble_eq_true rfl) (Nat.le_of_ble_eq_true rfl) ?_
  refine x_astoreN C dX4_meet_18 (by decide) rfl ?_
  refine x_aloadN C dX4_meet_20 rfl ?_
  refine x_ifnullN C 37 dX4_meet_22 (by decide) ?_
  refine x_iconst (v := (-1)) C dX4_meet_37 (by decide) ?_
  exact x_zret C Z dX4_meet_38 rfl (Nat.le_of_ble_eq_true rfl) (Nat.le_of_ble_eq_true rfl) rfl rfl rfl
set_option maxRecDepth 100000 in
set_option maxHeartbeats 1000000 in
theorem c_X4_meet_n2 {l : Launch} {E : xEnv} {B N : Nat} {σ : Sg} {VV : Cs} {p z n : Nat} {tx : Fn}{k1 : Nat} (hk1 : k1 < 8) (hp1 : VV 0 10 k1 = 1){y : Int32} (hny : ¬ ∃ k, k < 8 ∧ y = nI k ∧ VV 0 10 k = 1) {m : Int32} : xM l yX4_meet cX4_meet 6 (some .int) 5 118 0 0 E B [.ref B, .int (nI k1), .int y, .int m] N (cput E σ B VV (nI p) (nI z) (nI n) tx) N (cput E σ B VV (nI p) (nI z) (nI n) tx) (some (.int (-1))) := by
  refine xM_of [some (.ref _), some (.int _), some (.int _), some (.int _), none, none] (by decide +kernel) (Nat.le_of_ble_eq_true rfl) rfl (fun k0 C Z => ?_)
  refine x_aload_n C dX4_meet_0 rfl ?_
  refine x_get C kf_X4_10 cput_0 rfl dX4_meet_1 ?_
  refine x_iload_n C dX4_meet_4 rfl ?_
  refine x_callV C (c_X3_find_some hk1 hp1) kv_X3_find kl_X4_45 dX4_meet_5 cput_h0 (cput_is0 rfl) (cput_is0 rfl).symm rfl rfl (Nat.le_of_ble_eq_true rfl) (Nat.le_of_ble_eq_true rfl) (Nat.le_of_ble_eq_true rfl) (Nat.le_of_ble_eq_true rfl) (Nat.le_of_ble_eq_true rfl) ?_
  refine x_astore C dX4_meet_8 (by decide) rfl ?_
  refine x_aload_n C dX4_meet_10 rfl ?_
  refine x_get C kf_X4_10 cput_0 rfl dX4_meet_11 ?_
  refine x_iload_n C dX4_meet_14 rfl ?_
  refine x_callV C (c_X3_find_none hny) kv_X3_find kl_X4_45 dX4_meet_15 cput_h0 (cput_is0 rfl) (cput_is0 rfl).symm rfl rfl (Nat.le_of_ble_eq_true rfl) (Nat.le_of_ble_eq_true rfl) (Nat.le_of_ble_eq_true rfl) (Nat.le_of_ble_eq_true rfl) (Nat.le_of_ble_eq_true rfl) ?_
  refine x_astoreN C dX4_meet_18 (by decide) rfl ?_
  refine x_aload C dX4_meet_20 rfl ?_
  refine x_ifnull C dX4_meet_22 ?_
  refine x_aloadN C dX4_meet_25 rfl ?_
  refine x_ifnullN C 37 dX4_meet_27 (by decide) ?_
  refine x_iconst (v := (-1)) C dX4_meet_37 (by decide) ?_
  exact x_zret C Z dX4_meet_38 rfl (Nat.le_of_ble_eq_true rfl) (Nat.le_of_ble_eq_true rfl) rfl rfl rfl
set_option maxRecDepth 100000 in
set_option maxHeartbeats 1000000 in
theorem c_X4_meet_n3 {l : Launch} {E : xEnv} {B N : Nat} {σ : Sg} {VV : Cs} {p z n : Nat} {tx : Fn}{k1 : Nat} (hk1 : k1 < 8) (hp1 : VV 0 10 k1 = 1){k2 : Nat} (hk2 : k2 < 8) (hp2 : VV 0 10 k2 = 1) {m : Int32} (hb : ¬ (0 ≤ m ∧ m < 6)) : xM l yX4_meet cX4_meet 6 (some .int) 5 118 0 0 E B [.ref B, .int (nI k1), .int (nI k2), .int m] N (cput E σ B VV (nI p) (nI z) (nI n) tx) N (cput E σ B VV (nI p) (nI z) (nI n) tx) (some (.int (-1))) := by
  refine xM_of [some (.ref _), some (.int _), some (.int _), some (.int _), none, none] (by decide +kernel) (Nat.le_of_ble_eq_true rfl) rfl (fun k0 C Z => ?_)
  refine x_aload_n C dX4_meet_0 rfl ?_
  refine x_get C kf_X4_10 cput_0 rfl dX4_meet_1 ?_
  refine x_iload_n C dX4_meet_4 rfl ?_
  refine x_callV C (c_X3_find_some hk1 hp1) kv_X3_find kl_X4_45 dX4_meet_5 cput_h0 (cput_is0 rfl) (cput_is0 rfl).symm rfl rfl (Nat.le_of_ble_eq_true rfl) (Nat.le_of_ble_eq_true rfl) (Nat.le_of_ble_eq_true rfl) (Nat.le_of_ble_eq_true rfl) (Nat.le_of_ble_eq_true rfl) ?_
  refine x_astore C dX4_meet_8 (by decide) rfl ?_
  refine x_aload_n C dX4_meet_10 rfl ?_
  refine x_get C kf_X4_10 cput_0 rfl dX4_meet_11 ?_
  refine x_iload_n C dX4_meet_14 rfl ?_
  refine x_callV C (c_X3_find_some hk2 hp2) kv_X3_find kl_X4_45 dX4_meet_15 cput_h0 (cput_is0 rfl) (cput_is0 rfl).symm rfl rfl (Nat.le_of_ble_eq_true rfl) (Nat.le_of_ble_eq_true rfl) (Nat.le_of_ble_eq_true rfl) (Nat.le_of_ble_eq_true rfl) (Nat.le_of_ble_eq_true rfl) ?_
  refine x_astore C dX4_meet_18 (by decide) rfl ?_
  refine x_aload C dX4_meet_20 rfl ?_
  refine x_ifnull C dX4_meet_22 ?_
  refine x_aload C dX4_meet_25 rfl ?_
  refine x_ifnull C dX4_meet_27 ?_
  refine x_iload_n C dX4_meet_30 rfl ?_
  refine x_callS C (c_X4_isMeaning _) ks_X4_isMeaning kl_X4_80 dX4_meet_31 rfl rfl rfl rfl (Nat.le_of_ble_eq_true rfl) (Nat.le_of_ble_eq_true rfl) (Nat.le_of_ble_eq_true rfl) (Nat.le_of_ble_eq_true rfl) (Nat.le_of_ble_eq_true rfl) ?_
  refine x_bne C 39 dX4_meet_34 (by decide) (fun h => absurd h hb) (fun _ => ?_)
  refine x_iconst (v := (-1)) C dX4_meet_37 (by decide) ?_
  exact x_zret C Z dX4_meet_38 rfl (Nat.le_of_ble_eq_true rfl) (Nat.le_of_ble_eq_true rfl) rfl rfl rfl
set_option maxRecDepth 100000 in
set_option maxHeartbeats 1000000 in
theorem c_X4_age_ok {l : Launch} {E : xEnv} {B N : Nat} {σ : Sg} {VV : Cs} {p z n : Nat} {tx : Fn} (hp : p < 6) (hz : z ≤ 6) {q : Nat} (h1 : 1 ≤ q) (h2 : q ≤ 99) : xM l yX4_age cX4_age 2 (some .int) 5 114 0 0 E B [.ref B, .int (nI q)] N (cput E σ B VV (nI p) (nI z) (nI n) tx) N (cput E σ B (upV (kpV VV p) 0 (yrL (VV 0) q)) (nI ((p + 1) % 6)) (nI (min 6 (z + 1))) (nI n) tx) (some (.int (yrL (VV 0) q 9 3 - VV 0 9 3))) := by
  refine xM_of [some (.ref _), some (.int _)] (by decide +kernel) (Nat.le_of_ble_eq_true rfl) rfl (fun k0 C Z => ?_)
  refine x_iload_n C dX4_age_0 rfl ?_
  refine x_iconst (v := 1) C dX4_age_1 (by decide) ?_
  refine x_ic_lt C 11 dX4_age_2 (by decide) (fun h => absurd h (nI_nlt (a := q) (b := 1) h1 (by omega))) (fun _ => ?_)
  refine x_iload_n C dX4_age_5 rfl ?_
  refine x_bipush (v := 99) C dX4_age_6 (by decide) ?_
  refine x_ic_le C 14 dX4_age_8 (by decide) (fun _ => ?_) (fun h => absurd (nI_le (b := 99) h2 (by omega)) h)
  refine x_aload_n C dX4_age_14 rfl ?_
  refine x_get C kf_X4_22 cput_0 rfl dX4_age_15 ?_
  refine x_aload_n C dX4_age_18 rfl ?_
  refine x_get C kf_X4_10 cput_0 rfl dX4_age_19 ?_
  refine x_callV C (c_X1_keep hp hz) kv_X1_keep kl_X4_37 dX4_age_22 cput_41 rfl rfl rfl rfl (Nat.le_of_ble_eq_true rfl) (Nat.le_of_ble_eq_true rfl) (Nat.le_of_ble_eq_true rfl) (Nat.le_of_ble_eq_true rfl) (Nat.le_of_ble_eq_true rfl) ?_
  refine x_aload_n C dX4_age_25 rfl ?_
  refine x_get C kf_X4_10 cput_0 rfl dX4_age_26 ?_
  refine x_iload_n C dX4_age_29 rfl ?_
  refine x_callV C (c_X3_passYears (by omega)) kv_X3_passYears kl_X4_108 dX4_age_30 cput_h0 (cput_is0 kpV_0) cput_w0 rfl rfl (Nat.le_of_ble_eq_true rfl) (Nat.le_of_ble_eq_true rfl) (Nat.le_of_ble_eq_true rfl) (Nat.le_of_ble_eq_true rfl) (Nat.le_of_ble_eq_true rfl) ?_
  exact x_zret C Z dX4_age_33 rfl (Nat.le_of_ble_eq_true rfl) (Nat.le_of_ble_eq_true rfl) rfl rfl rfl
set_option maxRecDepth 100000 in
set_option maxHeartbeats 1000000 in
theorem c_X4_age_lo {l : Launch} {E : xEnv} {B N : Nat} {σ : Sg} {VV : Cs} {p z n : Nat} {tx : Fn} {x : Int32} (h1 : x < 1) : xM l yX4_age cX4_age 2 (some .int) 5 114 0 0 E B [.ref B, .int x] N (cput E σ B VV (nI p) (nI z) (nI n) tx) N (cput E σ B VV (nI p) (nI z) (nI n) tx) (some (.int (-2))) := by
  refine xM_of [some (.ref _), some (.int _)] (by decide +kernel) (Nat.le_of_ble_eq_true rfl) rfl (fun k0 C Z => ?_)
  refine x_iload_n C dX4_age_0 rfl ?_
  refine x_iconst (v := 1) C dX4_age_1 (by decide) ?_
  refine x_ic_lt C 11 dX4_age_2 (by decide) (fun _ => ?_) (fun h => absurd h1 h)
  refine x_bipush (v := (-2)) C dX4_age_11 (by decide) ?_
  exact x_zret C Z dX4_age_13 rfl (Nat.le_of_ble_eq_true rfl) (Nat.le_of_ble_eq_true rfl) rfl rfl rfl
set_option maxRecDepth 100000 in
set_option maxHeartbeats 1000000 in
theorem c_X4_age_hi {l : Launch} {E : xEnv} {B N : Nat} {σ : Sg} {VV : Cs} {p z n : Nat} {tx : Fn} {x : Int32} (h1 : ¬ x < 1) (h2 : 99 < x) : xM l yX4_age cX4_age 2 (some .int) 5 114 0 0 E B [.ref B, .int x] N (cput E σ B VV (nI p) (nI z) (nI n) tx) N (cput E σ B VV (nI p) (nI z) (nI n) tx) (some (.int (-2))) := by
  refine xM_of [some (.ref _), some (.int _)] (by decide +kernel) (Nat.le_of_ble_eq_true rfl) rfl (fun k0 C Z => ?_)
  refine x_iload_n C dX4_age_0 rfl ?_
  refine x_iconst (v := 1) C dX4_age_1 (by decide) ?_
  refine x_ic_lt C 11 dX4_age_2 (by decide) (fun h => absurd h h1) (fun _ => ?_)
  refine x_iload_n C dX4_age_5 rfl ?_
  refine x_bipush (v := 99) C dX4_age_6 (by decide) ?_
  refine x_ic_le C 14 dX4_age_8 (by decide) (fun h => absurd h (Int32.not_le.mpr h2)) (fun _ => ?_)
  refine x_bipush (v := (-2)) C dX4_age_11 (by decide) ?_
  exact x_zret C Z dX4_age_13 rfl (Nat.le_of_ble_eq_true rfl) (Nat.le_of_ble_eq_true rfl) rfl rfl rfl
set_option maxRecDepth 100000 in
set_option maxHeartbeats 1000000 in
theorem c_X4_count_ok {l : Launch} {E : xEnv} {B N : Nat} {σ : Sg} {VV : Cs} {p z n : Nat} {tx : Fn} {j : Nat} (hj : j < 7) : xM l yX4_count cX4_count 2 (some .int) 3 68 0 0 E B [.ref B, .int (nI j)] N (cput E σ B VV (nI p) (nI z) (nI n) tx) N (cput E σ B VV (nI p) (nI z) (nI n) tx) (some (.int (nuS (VV 0) j))) := by
  refine xM_of [some (.ref _), some (.int _)] (by decide +kernel) (Nat.le_of_ble_eq_true rfl) rfl (fun k0 C Z => ?_)
  refine x_iload_n C dX4_count_0 rfl ?_
  refine x_bipush (v := 7) C dX4_count_1 (by decide) ?_
  refine x_callS C (c_X4_isBelow _ _) ks_X4_isBelow kl_X4_57 dX4_count_3 rfl rfl rfl rfl (Nat.le_of_ble_eq_true rfl) (Nat.le_of_ble_eq_true rfl) (Nat.le_of_ble_eq_true rfl) (Nat.le_of_ble_eq_true rfl) (Nat.le_of_ble_eq_true rfl) ?_
  refine x_beq C 20 dX4_count_6 (by decide) (fun h => absurd (bd_in (c := 7) hj (by decide)) h) (fun _ => ?_)
  refine x_aload_n C dX4_count_9 rfl ?_
  refine x_get C kf_X4_10 cput_0 rfl dX4_count_10 ?_
  refine x_iload_n C dX4_count_13 rfl ?_
  refine x_callV C (c_X3_numberOf hj) kv_X3_numberOf kl_X4_111 dX4_count_14 cput_h0 (cput_is0 rfl) (cput_is0 rfl).symm rfl rfl (Nat.le_of_ble_eq_true rfl) (Nat.le_of_ble_eq_true rfl) (Nat.le_of_ble_eq_true rfl) (Nat.le_of_ble_eq_true rfl) (Nat.le_of_ble_eq_true rfl) ?_
  refine x_goto C 22 dX4_count_17 (by decide) ?_
  exact x_zret C Z dX4_count_22 rfl (Nat.le_of_ble_eq_true rfl) (Nat.le_of_ble_eq_true rfl) rfl rfl rfl
set_option maxRecDepth 100000 in
set_option maxHeartbeats 1000000 in
theorem c_X4_count_bad {l : Launch} {E : xEnv} {B N : Nat} {σ : Sg} {VV : Cs} {p z n : Nat} {tx : Fn} {x : Int32} (hb : ¬ (0 ≤ x ∧ x < 7)) : xM l yX4_count cX4_count 2 (some .int) 3 68 0 0 E B [.ref B, .int x] N (cput E σ B VV (nI p) (nI z) (nI n) tx) N (cput E σ B VV (nI p) (nI z) (nI n) tx) (some (.int (-2))) := by
  refine xM_of [some (.ref _), some (.int _)] (by decide +kernel) (Nat.le_of_ble_eq_true rfl) rfl (fun k0 C Z => ?_)
  refine x_iload_n C dX4_count_0 rfl ?_
  refine x_bipush (v := 7) C dX4_count_1 (by decide) ?_
  refine x_callS C (c_X4_isBelow _ _) ks_X4_isBelow kl_X4_57 dX4_count_3 rfl rfl rfl rfl (Nat.le_of_ble_eq_true rfl) (Nat.le_of_ble_eq_true rfl) (Nat.le_of_ble_eq_true rfl) (Nat.le_of_ble_eq_true rfl) (Nat.le_of_ble_eq_true rfl) ?_
  refine x_beq C 20 dX4_count_6 (by decide) (fun _ => ?_) (fun h => absurd h hb)
  refine x_bipush (v := (-2)) C dX4_count_20 (by decide) ?_
  exact x_zret C Z dX4_count_22 rfl (Nat.le_of_ble_eq_true rfl) (Nat.le_of_ble_eq_true rfl) rfl rfl rfl
set_option maxRecDepth 100000 in
set_option maxHeartbeats 1000000 in
theorem c_X4_setting_ok {l : Launch} {E : xEnv} {B N : Nat} {σ : Sg} {VV : Cs} {p z n : Nat} {tx : Fn} {j : Nat} (hj : j < 4) : xM l yX4_setting cX4_setting 2 (some .int) 2 42 0 0 E B [.ref B, .int (nI j)] N (cput E σ B VV (nI p) (nI z) (nI n) tx) N (cput E σ B VV (nI p) (nI z) (nI n) tx) (some (.int (VV 0 8 j))) := by
  refine xM_of [some (.ref _), some (.int _)] (by decide +kernel) (Nat.le_of_ble_eq_true rfl) rfl (fun k0 C Z => ?_)
  refine x_iload_n C dX4_setting_0 rfl ?_
  refine x_iconst (v := 4) C dX4_setting_1 (by decide) ?_
  refine x_callS C (c_X4_isBelow _ _) ks_X4_isBelow kl_X4_57 dX4_setting_2 rfl rfl rfl rfl (Nat.le_of_ble_eq_true rfl) (Nat.le_of_ble_eq_true rfl) (Nat.le_of_ble_eq_true rfl) (Nat.le_of_ble_eq_true rfl) (Nat.le_of_ble_eq_true rfl) ?_
  refine x_beq C 19 dX4_setting_5 (by decide) (fun h => absurd (bd_in (c := 4) hj (by decide)) h) (fun _ => ?_)
  refine x_aload_n C dX4_setting_8 rfl ?_
  refine x_get C kf_X4_10 cput_0 rfl dX4_setting_9 ?_
  refine x_iload_n C dX4_setting_12 rfl ?_
  refine x_callV C (c_X3_settingAt hj) kv_X3_settingAt kl_X4_68 dX4_setting_13 cput_h0 (cput_is0 rfl) (cput_is0 rfl).symm rfl rfl (Nat.le_of_ble_eq_true rfl) (Nat.le_of_ble_eq_true rfl) (Nat.le_of_ble_eq_true rfl) (Nat.le_of_ble_eq_true rfl) (Nat.le_of_ble_eq_true rfl) ?_
  refine x_goto C 20 dX4_setting_16 (by decide) ?_
  exact x_zret C Z dX4_setting_20 rfl (Nat.le_of_ble_eq_true rfl) (Nat.le_of_ble_eq_true rfl) rfl rfl rfl
set_option maxRecDepth 100000 in
set_option maxHeartbeats 1000000 in
theorem c_X4_setting_no {l : Launch} {E : xEnv} {B N : Nat} {σ : Sg} {VV : Cs} {p z n : Nat} {tx : Fn} {x : Int32} (hb : ¬ (0 ≤ x ∧ x < 4)) : xM l yX4_setting cX4_setting 2 (some .int) 2 42 0 0 E B [.ref B, .int x] N (cput E σ B VV (nI p) (nI z) (nI n) tx) N (cput E σ B VV (nI p) (nI z) (nI n) tx) (some (.int (-1))) := by
  refine xM_of [some (.ref _), some (.int _)] (by decide +kernel) (Nat.le_of_ble_eq_true rfl) rfl (fun k0 C Z => ?_)
  refine x_iload_n C dX4_setting_0 rfl ?_
  refine x_iconst (v := 4) C dX4_setting_1 (by decide) ?_
  refine x_callS C (c_X4_isBelow _ _) ks_X4_isBelow kl_X4_57 dX4_setting_2 rfl rfl rfl rfl (Nat.le_of_ble_eq_true rfl) (Nat.le_of_ble_eq_true rfl) (Nat.le_of_ble_eq_true rfl) (Nat.le_of_ble_eq_true rfl) (Nat.le_of_ble_eq_true rfl) ?_
  refine x_beq C 19 dX4_setting_5 (by decide) (fun _ => ?_) (fun h => absurd h hb)
  refine x_iconst (v := (-1)) C dX4_setting_19 (by decide) ?_
  exact x_zret C Z dX4_setting_20 rfl (Nat.le_of_ble_eq_true rfl) (Nat.le_of_ble_eq_true rfl) rfl rfl rfl
set_option maxRecDepth 100000 in
set_option maxHeartbeats 1000000 in
theorem c_X4_weight_ok {l : Launch} {E : xEnv} {B N : Nat} {σ : Sg} {VV : Cs} {p z n : Nat} {tx : Fn}{k : Nat} (hk : k < 8) (hp1 : VV 0 10 k = 1) {mm ww : Nat} (hm : mm < 6) (hw : ww < 14) : xM l yX4_weight cX4_weight 5 (some .int) 2 42 0 0 E B [.ref B, .int (nI k), .int (nI mm), .int (nI ww)] N (cput E σ B VV (nI p) (nI z) (nI n) tx) N (cput E σ B VV (nI p) (nI z) (nI n) tx) (some (.int (VV 0 k (14 * mm + ww)))) := by
  refine xM_of [some (.ref _), some (.int _), some (.int _), some (.int _), none] (by decide +kernel) (Nat.le_of_ble_eq_true rfl) rfl (fun k0 C Z => ?_)
  refine x_aload_n C dX4_weight_0 rfl ?_
  refine x_get C kf_X4_10 cput_0 rfl dX4_weight_1 ?_
  refine x_iload_n C dX4_weight_4 rfl ?_
  refine x_callV C (c_X3_find_some hk hp1) kv_X3_find kl_X4_45 dX4_weight_5 cput_h0 (cput_is0 rfl) (cput_is0 rfl).symm rfl rfl (Nat.le_of_ble_eq_true rfl) (Nat.le_of_ble_eq_true rfl) (Nat.le_of_ble_eq_true rfl) (Nat.le_of_ble_eq_true rfl) (Nat.le_of_ble_eq_true rfl) ?_
  refine x_astore C dX4_weight_8 (by decide) rfl ?_
  refine x_aload C dX4_weight_10 rfl ?_
  refine x_ifnull C dX4_weight_12 ?_
  refine x_iload_n C dX4_weight_15 rfl ?_
  refine x_callS C (c_X4_isMeaning _) ks_X4_isMeaning kl_X4_80 dX4_weight_16 rfl rfl rfl rfl (Nat.le_of_ble_eq_true rfl) (Nat.le_of_ble_eq_true rfl) (Nat.le_of_ble_eq_true rfl) (Nat.le_of_ble_eq_true rfl) (Nat.le_of_ble_eq_true rfl) ?_
  refine x_beq C 29 dX4_weight_19 (by decide) (fun h => absurd (bd_in (c := 6) hm (by decide)) h) (fun _ => ?_)
  refine x_iload_n C dX4_weight_22 rfl ?_
  refine x_callS C (c_X4_isWord _) ks_X4_isWord kl_X4_84 dX4_weight_23 rfl rfl rfl rfl (Nat.le_of_ble_eq_true rfl) (Nat.le_of_ble_eq_true rfl) (Nat.le_of_ble_eq_true rfl) (Nat.le_of_ble_eq_true rfl) (Nat.le_of_ble_eq_true rfl) ?_
  refine x_bne C 31 dX4_weight_26 (by decide) (fun _ => ?_) (fun h => absurd (bd_in (c := 14) hw (by decide)) h)
  refine x_aload C dX4_weight_31 rfl ?_
  refine x_iload_n C dX4_weight_33 rfl ?_
  refine x_iload_n C dX4_weight_34 rfl ?_
  refine x_callV C (c_X2_weightOf hk hm hw) kv_X2_weightOf kl_X4_87 dX4_weight_35 (cput_hs hk) (cput_is0 rfl) (cput_is0 rfl).symm rfl rfl (Nat.le_of_ble_eq_true rfl) (Nat.le_of_ble_eq_true rfl) (Nat.le_of_ble_eq_true rfl) (Nat.le_of_ble_eq_true rfl) (Nat.le_of_ble_eq_true rfl) ?_
  exact x_zret C Z dX4_weight_38 rfl (Nat.le_of_ble_eq_true rfl) (Nat.le_of_ble_eq_true rfl) rfl rfl rfl
set_option maxRecDepth 100000 in
set_option maxHeartbeats 1000000 in
theorem c_X4_weight_n1 {l : Launch} {E : xEnv} {B N : Nat} {σ : Sg} {VV : Cs} {p z n : Nat} {tx : Fn}{x : Int32} (hno : ¬ ∃ k, k < 8 ∧ x = nI k ∧ VV 0 10 k = 1) {m w : Int32} : xM l yX4_weight cX4_weight 5 (some .int) 2 42 0 0 E B [.ref B, .int x, .int m, .int w] N (cput E σ B VV (nI p) (nI z) (nI n) tx) N (cput E σ B VV (nI p) (nI z) (nI n) tx) (some (.int (-1))) := by
  refine xM_of [some (.ref _), some (.int _), some (.int _), some (.int _), none] (by decide +kernel) (Nat.le_of_ble_eq_true rfl) rfl (fun k0 C Z => ?_)
  refine x_aload_n C dX4_weight_0 rfl ?_
  refine x_get C kf_X4_10 cput_0 rfl dX4_weight_1 ?_
  refine x_iload_n C dX4_weight_4 rfl ?_
  refine x_callV C (c_X3_find_none hno) kv_X3_find kl_X4_45 dX4_weight_5 cput_h0 (cput_is0 rfl) (cput_is0 rfl).symm rfl rfl (Nat.le_of_ble_eq_true rfl) (Nat.le_of_ble_eq_true rfl) (Nat.le_of_ble_eq_true rfl) (Nat.le_of_ble_eq_true rfl) (Nat.le_of_ble_eq_true rfl) ?_
  refine x_astoreN C dX4_weight_8 (by decide) rfl ?_
  refine x_aloadN C dX4_weight_10 rfl ?_
  refine x_ifnullN C 29 dX4_weight_12 (by decide) ?_
  refine x_iconst (v := (-1)) C dX4_weight_29 (by decide) ?_
  exact x_zret C Z dX4_weight_30 rfl (Nat.le_of_ble_eq_true rfl) (Nat.le_of_ble_eq_true rfl) rfl rfl rfl
set_option maxRecDepth 100000 in
set_option maxHeartbeats 1000000 in
theorem c_X4_weight_n2 {l : Launch} {E : xEnv} {B N : Nat} {σ : Sg} {VV : Cs} {p z n : Nat} {tx : Fn}{k : Nat} (hk : k < 8) (hp1 : VV 0 10 k = 1) {m w : Int32} (hb : ¬ (0 ≤ m ∧ m < 6)) : xM l yX4_weight cX4_weight 5 (some .int) 2 42 0 0 E B [.ref B, .int (nI k), .int m, .int w] N (cput E σ B VV (nI p) (nI z) (nI n) tx) N (cput E σ B VV (nI p) (nI z) (nI n) tx) (some (.int (-1))) := by
  refine xM_of [some (.ref _), some (.int _), some (.int _), some (.int _), none] (by decide +kernel) (Nat.le_of_ble_eq_true rfl) rfl (fun k0 C Z => ?_)
  refine x_aload_n C dX4_weight_0 rfl ?_
  refine x_get C kf_X4_10 cput_0 rfl dX4_weight_1 ?_
  refine x_iload_n C dX4_weight_4 rfl ?_
  refine x_callV C (c_X3_find_some hk hp1) kv_X3_find kl_X4_45 dX4_weight_5 cput_h0 (cput_is0 rfl) (cput_is0 rfl).symm rfl rfl (Nat.le_of_ble_eq_true rfl) (Nat.le_of_ble_eq_true rfl) (Nat.le_of_ble_eq_true rfl) (Nat.le_of_ble_eq_true rfl) (Nat.le_of_ble_eq_true rfl) ?_
  refine x_astore C dX4_weight_8 (by decide) rfl ?_
  refine x_aload C dX4_weight_10 rfl ?_
  refine x_ifnull C dX4_weight_12 ?_
  refine x_iload_n C dX4_weight_15 rfl ?_
  refine x_callS C (c_X4_isMeaning _) ks_X4_isMeaning kl_X4_80 dX4_weight_16 rfl rfl rfl rfl (Nat.le_of_ble_eq_true rfl) (Nat.le_of_ble_eq_true rfl) (Nat.le_of_ble_eq_true rfl) (Nat.le_of_ble_eq_true rfl) (Nat.le_of_ble_eq_true rfl) ?_
  refine x_beq C 29 dX4_weight_19 (by decide) (fun _ => ?_) (fun h => absurd h hb)
  refine x_iconst (v := (-1)) C dX4_weight_29 (by decide) ?_
  exact x_zret C Z dX4_weight_30 rfl (Nat.le_of_ble_eq_true rfl) (Nat.le_of_ble_eq_true rfl) rfl rfl rfl
set_option maxRecDepth 100000 in
set_option maxHeartbeats 1000000 in
theorem c_X4_weight_n3 {l : Launch} {E : xEnv} {B N : Nat} {σ : Sg} {VV : Cs} {p z n : Nat} {tx : Fn}{k : Nat} (hk : k < 8) (hp1 : VV 0 10 k = 1) {mm : Nat} {w : Int32} (hm : mm < 6) (hb : ¬ (0 ≤ w ∧ w < 14)) : xM l yX4_weight cX4_weight 5 (some .int) 2 42 0 0 E B [.ref B, .int (nI k), .int (nI mm), .int w] N (cput E σ B VV (nI p) (nI z) (nI n) tx) N (cput E σ B VV (nI p) (nI z) (nI n) tx) (some (.int (-1))) := by
  refine xM_of [some (.ref _), some (.int _), some (.int _), some (.int _), none] (by decide +kernel) (Nat.le_of_ble_eq_true rfl) rfl (fun k0 C Z => ?_)
  refine x_aload_n C dX4_weight_0 rfl ?_
  refine x_get C kf_X4_10 cput_0 rfl dX4_weight_1 ?_
  refine x_iload_n C dX4_weight_4 rfl ?_
  refine x_callV C (c_X3_find_some hk hp1) kv_X3_find kl_X4_45 dX4_weight_5 cput_h0 (cput_is0 rfl) (cput_is0 rfl).symm rfl rfl (Nat.le_of_ble_eq_true rfl) (Nat.le_of_ble_eq_true rfl) (Nat.le_of_ble_eq_true rfl) (Nat.le_of_ble_eq_true rfl) (Nat.le_of_ble_eq_true rfl) ?_
  refine x_astore C dX4_weight_8 (by decide) rfl ?_
  refine x_aload C dX4_weight_10 rfl ?_
  refine x_ifnull C dX4_weight_12 ?_
  refine x_iload_n C dX4_weight_15 rfl ?_
  refine x_callS C (c_X4_isMeaning _) ks_X4_isMeaning kl_X4_80 dX4_weight_16 rfl rfl rfl rfl (Nat.le_of_ble_eq_true rfl) (Nat.le_of_ble_eq_true rfl) (Nat.le_of_ble_eq_true rfl) (Nat.le_of_ble_eq_true rfl) (Nat.le_of_ble_eq_true rfl) ?_
  refine x_beq C 29 dX4_weight_19 (by decide) (fun h => absurd (bd_in (c := 6) hm (by decide)) h) (fun _ => ?_)
  refine x_iload_n C dX4_weight_22 rfl ?_
  refine x_callS C (c_X4_isWord _) ks_X4_isWord kl_X4_84 dX4_weight_23 rfl rfl rfl rfl (Nat.le_of_ble_eq_true rfl) (Nat.le_of_ble_eq_true rfl) (Nat.le_of_ble_eq_true rfl) (Nat.le_of_ble_eq_true rfl) (Nat.le_of_ble_eq_true rfl) ?_
  refine x_bne C 31 dX4_weight_26 (by decide) (fun h => absurd h hb) (fun _ => ?_)
  refine x_iconst (v := (-1)) C dX4_weight_29 (by decide) ?_
  exact x_zret C Z dX4_weight_30 rfl (Nat.le_of_ble_eq_true rfl) (Nat.le_of_ble_eq_true rfl) rfl rfl rfl
set_option maxRecDepth 100000 in
set_option maxHeartbeats 1000000 in
theorem c_X4_speaker_ok {l : Launch} {E : xEnv} {B N : Nat} {σ : Sg} {VV : Cs} {p z n : Nat} {tx : Fn}{k : Nat} (hk : k < 8) (hp1 : VV 0 10 k = 1) {j : Nat} (hj : j < 5) : xM l yX4_speaker cX4_speaker 4 (some .int) 5 113 0 0 E B [.ref B, .int (nI k), .int (nI j)] N (cput E σ B VV (nI p) (nI z) (nI n) tx) N (cput E σ B VV (nI p) (nI z) (nI n) tx) (some (.int (nsS (VV 0) k j))) := by
  refine xM_of [some (.ref _), some (.int _), some (.int _), none] (by decide +kernel) (Nat.le_of_ble_eq_true rfl) rfl (fun k0 C Z => ?_)
  refine x_aload_n C dX4_speaker_0 rfl ?_
  refine x_get C kf_X4_10 cput_0 rfl dX4_speaker_1 ?_
  refine x_iload_n C dX4_speaker_4 rfl ?_
  refine x_callV C (c_X3_find_some hk hp1) kv_X3_find kl_X4_45 dX4_speaker_5 cput_h0 (cput_is0 rfl) (cput_is0 rfl).symm rfl rfl (Nat.le_of_ble_eq_true rfl) (Nat.le_of_ble_eq_true rfl) (Nat.le_of_ble_eq_true rfl) (Nat.le_of_ble_eq_true rfl) (Nat.le_of_ble_eq_true rfl) ?_
  refine x_astore_n C dX4_speaker_8 (by decide) rfl ?_
  refine x_aload_n C dX4_speaker_9 rfl ?_
  refine x_ifnn C 15 dX4_speaker_10 (by decide) ?_
  refine x_iload_n C dX4_speaker_15 rfl ?_
  refine x_iconst (v := 5) C dX4_speaker_16 (by decide) ?_
  refine x_callS C (c_X4_isBelow _ _) ks_X4_isBelow kl_X4_57 dX4_speaker_17 rfl rfl rfl rfl (Nat.le_of_ble_eq_true rfl) (Nat.le_of_ble_eq_true rfl) (Nat.le_of_ble_eq_true rfl) (Nat.le_of_ble_eq_true rfl) (Nat.le_of_ble_eq_true rfl) ?_
  refine x_beq C 35 dX4_speaker_20 (by decide) (fun h => absurd (bd_in (c := 5) hj (by decide)) h) (fun _ => ?_)
  refine x_aload_n C dX4_speaker_23 rfl ?_
  refine x_get C kf_X4_10 cput_0 rfl dX4_speaker_24 ?_
  refine x_aload_n C dX4_speaker_27 rfl ?_
  refine x_iload_n C dX4_speaker_28 rfl ?_
  refine x_callV C (c_X3_numberOfSpeaker hk hj) kv_X3_numberOfSpeaker kl_X4_114 dX4_speaker_29 cput_h0 (cput_is0 rfl) (cput_is0 rfl).symm rfl rfl (Nat.le_of_ble_eq_true rfl) (Nat.le_of_ble_eq_true rfl) (Nat.le_of_ble_eq_true rfl) (Nat.le_of_ble_eq_true rfl) (Nat.le_of_ble_eq_true rfl) ?_
  refine x_goto C 37 dX4_speaker_32 (by decide) ?_
  exact x_zret C Z dX4_speaker_37 rfl (Nat.le_of_ble_eq_true rfl) (Nat.le_of_ble_eq_true rfl) rfl rfl rfl
set_option maxRecDepth 100000 in
set_option maxHeartbeats 1000000 in
theorem c_X4_speaker_no {l : Launch} {E : xEnv} {B N : Nat} {σ : Sg} {VV : Cs} {p z n : Nat} {tx : Fn}{x : Int32} (hno : ¬ ∃ k, k < 8 ∧ x = nI k ∧ VV 0 10 k = 1) {w : Int32} : xM l yX4_speaker cX4_speaker 4 (some .int) 5 113 0 0 E B [.ref B, .int x, .int w] N (cput E σ B VV (nI p) (nI z) (nI n) tx) N (cput E σ B VV (nI p) (nI z) (nI n) tx) (some (.int (-1))) := by
  refine xM_of [some (.ref _), some (.int _), some (.int _), none] (by decide +kernel) (Nat.le_of_ble_eq_true rfl) rfl (fun k0 C Z => ?_)
  refine x_aload_n C dX4_speaker_0 rfl ?_
  refine x_get C kf_X4_10 cput_0 rfl dX4_speaker_1 ?_
  refine x_iload_n C dX4_speaker_4 rfl ?_
  refine x_callV C (c_X3_find_none hno) kv_X3_find kl_X4_45 dX4_speaker_5 cput_h0 (cput_is0 rfl) (cput_is0 rfl).symm rfl rfl (Nat.le_of_ble_eq_true rfl) (Nat.le_of_ble_eq_true rfl) (Nat.le_of_ble_eq_true rfl) (Nat.le_of_ble_eq_true rfl) (Nat.le_of_ble_eq_true rfl) ?_
  refine x_astore_nN C dX4_speaker_8 (by decide) rfl ?_
  refine x_aload_nN C dX4_speaker_9 rfl ?_
  refine x_ifnnN C dX4_speaker_10 ?_
  refine x_iconst (v := (-1)) C dX4_speaker_13 (by decide) ?_
  exact x_zret C Z dX4_speaker_14 rfl (Nat.le_of_ble_eq_true rfl) (Nat.le_of_ble_eq_true rfl) rfl rfl rfl
set_option maxRecDepth 100000 in
set_option maxHeartbeats 1000000 in
theorem c_X4_speaker_bad {l : Launch} {E : xEnv} {B N : Nat} {σ : Sg} {VV : Cs} {p z n : Nat} {tx : Fn}{k : Nat} (hk : k < 8) (hp1 : VV 0 10 k = 1) {w : Int32} (hb : ¬ (0 ≤ w ∧ w < 5)) : xM l yX4_speaker cX4_speaker 4 (some .int) 5 113 0 0 E B [.ref B, .int (nI k), .int w] N (cput E σ B VV (nI p) (nI z) (nI n) tx) N (cput E σ B VV (nI p) (nI z) (nI n) tx) (some (.int (-2))) := by
  refine xM_of [some (.ref _), some (.int _), some (.int _), none] (by decide +kernel) (Nat.le_of_ble_eq_true rfl) rfl (fun k0 C Z => ?_)
  refine x_aload_n C dX4_speaker_0 rfl ?_
  refine x_get C kf_X4_10 cput_0 rfl dX4_speaker_1 ?_
  refine x_iload_n C dX4_speaker_4 rfl ?_
  refine x_callV C (c_X3_find_some hk hp1) kv_X3_find kl_X4_45 dX4_speaker_5 cput_h0 (cput_is0 rfl) (cput_is0 rfl).symm rfl rfl (Nat.le_of_ble_eq_true rfl) (Nat.le_of_ble_eq_true rfl) (Nat.le_of_ble_eq_true rfl) (Nat.le_of_ble_eq_true rfl) (Nat.le_of_ble_eq_true rfl) ?_
  refine x_astore_n C dX4_speaker_8 (by decide) rfl ?_
  refine x_aload_n C dX4_speaker_9 rfl ?_
  refine x_ifnn C 15 dX4_speaker_10 (by decide) ?_
  refine x_iload_n C dX4_speaker_15 rfl ?_
  refine x_iconst (v := 5) C dX4_speaker_16 (by decide) ?_
  refine x_callS C (c_X4_isBelow _ _) ks_X4_isBelow kl_X4_57 dX4_speaker_17 rfl rfl rfl rfl (Nat.le_of_ble_eq_true rfl) (Nat.le_of_ble_eq_true rfl) (Nat.le_of_ble_eq_true rfl) (Nat.le_of_ble_eq_true rfl) (Nat.le_of_ble_eq_true rfl) ?_
  refine x_beq C 35 dX4_speaker_20 (by decide) (fun _ => ?_) (fun h => absurd h hb)
  refine x_bipush (v := (-2)) C dX4_speaker_35 (by decide) ?_
  exact x_zret C Z dX4_speaker_37 rfl (Nat.le_of_ble_eq_true rfl) (Nat.le_of_ble_eq_true rfl) rfl rfl rfl
set_option maxRecDepth 100000 in
set_option maxHeartbeats 1000000 in
theorem c_X4_wordOf_ok {l : Launch} {E : xEnv} {B N : Nat} {σ : Sg} {VV : Cs} {p z n : Nat} {tx : Fn}{k : Nat} (hk : k < 8) (hp1 : VV 0 10 k = 1) {mm : Nat} (hm : mm < 6) : xM l yX4_wordOf cX4_wordOf 4 (some .int) 3 67 0 0 E B [.ref B, .int (nI k), .int (nI mm)] N (cput E σ B VV (nI p) (nI z) (nI n) tx) N (cput E σ B VV (nI p) (nI z) (nI n) tx) (some (.int (oI (wfS (VV 0 k) mm)))) := by
  refine xM_of [some (.ref _), some (.int _), some (.int _), none] (by decide +kernel) (Nat.le_of_ble_eq_true rfl) rfl (fun k0 C Z => ?_)
  refine x_aload_n C dX4_wordOf_0 rfl ?_
  refine x_get C kf_X4_10 cput_0 rfl dX4_wordOf_1 ?_
  refine x_iload_n C dX4_wordOf_4 rfl ?_
  refine x_callV C (c_X3_find_some hk hp1) kv_X3_find kl_X4_45 dX4_wordOf_5 cput_h0 (cput_is0 rfl) (cput_is0 rfl).symm rfl rfl (Nat.le_of_ble_eq_true rfl) (Nat.le_of_ble_eq_true rfl) (Nat.le_of_ble_eq_true rfl) (Nat.le_of_ble_eq_true rfl) (Nat.le_of_ble_eq_true rfl) ?_
  refine x_astore_n C dX4_wordOf_8 (by decide) rfl ?_
  refine x_aload_n C dX4_wordOf_9 rfl ?_
  refine x_ifnull C dX4_wordOf_10 ?_
  refine x_iload_n C dX4_wordOf_13 rfl ?_
  refine x_callS C (c_X4_isMeaning _) ks_X4_isMeaning kl_X4_80 dX4_wordOf_14 rfl rfl rfl rfl (Nat.le_of_ble_eq_true rfl) (Nat.le_of_ble_eq_true rfl) (Nat.le_of_ble_eq_true rfl) (Nat.le_of_ble_eq_true rfl) (Nat.le_of_ble_eq_true rfl) ?_
  refine x_bne C 22 dX4_wordOf_17 (by decide) (fun _ => ?_) (fun h => absurd (bd_in (c := 6) hm (by decide)) h)
  refine x_aload_n C dX4_wordOf_22 rfl ?_
  refine x_iload_n C dX4_wordOf_23 rfl ?_
  refine x_callV C (c_X2_wordFor hk hm) kv_X2_wordFor kl_X4_118 dX4_wordOf_24 (cput_hs hk) (cput_is0 rfl) (cput_is0 rfl).symm rfl rfl (Nat.le_of_ble_eq_true rfl) (Nat.le_of_ble_eq_true rfl) (Nat.le_of_ble_eq_true rfl) (Nat.le_of_ble_eq_true rfl) (Nat.le_of_ble_eq_true rfl) ?_
  exact x_zret C Z dX4_wordOf_27 rfl (Nat.le_of_ble_eq_true rfl) (Nat.le_of_ble_eq_true rfl) rfl rfl rfl
set_option maxRecDepth 100000 in
set_option maxHeartbeats 1000000 in
theorem c_X4_wordOf_no {l : Launch} {E : xEnv} {B N : Nat} {σ : Sg} {VV : Cs} {p z n : Nat} {tx : Fn}{x : Int32} (hno : ¬ ∃ k, k < 8 ∧ x = nI k ∧ VV 0 10 k = 1) {w : Int32} : xM l yX4_wordOf cX4_wordOf 4 (some .int) 3 67 0 0 E B [.ref B, .int x, .int w] N (cput E σ B VV (nI p) (nI z) (nI n) tx) N (cput E σ B VV (nI p) (nI z) (nI n) tx) (some (.int (-1))) := by
  refine xM_of [some (.ref _), some (.int _), some (.int _), none] (by decide +kernel) (Nat.le_of_ble_eq_true rfl) rfl (fun k0 C Z => ?_)
  refine x_aload_n C dX4_wordOf_0 rfl ?_
  refine x_get C kf_X4_10 cput_0 rfl dX4_wordOf_1 ?_
  refine x_iload_n C dX4_wordOf_4 rfl ?_
  refine x_callV C (c_X3_find_none hno) kv_X3_find kl_X4_45 dX4_wordOf_5 cput_h0 (cput_is0 rfl) (cput_is0 rfl).symm rfl rfl (Nat.le_of_ble_eq_true rfl) (Nat.le_of_ble_eq_true rfl) (Nat.le_of_ble_eq_true rfl) (Nat.le_of_ble_eq_true rfl) (Nat.le_of_ble_eq_true rfl) ?_
  refine x_astore_nN C dX4_wordOf_8 (by decide) rfl ?_
  refine x_aload_nN C dX4_wordOf_9 rfl ?_
  refine x_ifnullN C 20 dX4_wordOf_10 (by decide) ?_
  refine x_iconst (v := (-1)) C dX4_wordOf_20 (by decide) ?_
  exact x_zret C Z dX4_wordOf_21 rfl (Nat.le_of_ble_eq_true rfl) (Nat.le_of_ble_eq_true rfl) rfl rfl rfl
set_option maxRecDepth 100000 in
set_option maxHeartbeats 1000000 in
theorem c_X4_wordOf_n2 {l : Launch} {E : xEnv} {B N : Nat} {σ : Sg} {VV : Cs} {p z n : Nat} {tx : Fn}{k : Nat} (hk : k < 8) (hp1 : VV 0 10 k = 1) {w : Int32} (hb : ¬ (0 ≤ w ∧ w < 6)) : xM l yX4_wordOf cX4_wordOf 4 (some .int) 3 67 0 0 E B [.ref B, .int (nI k), .int w] N (cput E σ B VV (nI p) (nI z) (nI n) tx) N (cput E σ B VV (nI p) (nI z) (nI n) tx) (some (.int (-1))) := by
  refine xM_of [some (.ref _), some (.int _), some (.int _), none] (by decide +kernel) (Nat.le_of_ble_eq_true rfl) rfl (fun k0 C Z => ?_)
  refine x_aload_n C dX4_wordOf_0 rfl ?_
  refine x_get C kf_X4_10 cput_0 rfl dX4_wordOf_1 ?_
  refine x_iload_n C dX4_wordOf_4 rfl ?_
  refine x_callV C (c_X3_find_some hk hp1) kv_X3_find kl_X4_45 dX4_wordOf_5 cput_h0 (cput_is0 rfl) (cput_is0 rfl).symm rfl rfl (Nat.le_of_ble_eq_true rfl) (Nat.le_of_ble_eq_true rfl) (Nat.le_of_ble_eq_true rfl) (Nat.le_of_ble_eq_true rfl) (Nat.le_of_ble_eq_true rfl) ?_
  refine x_astore_n C dX4_wordOf_8 (by decide) rfl ?_
  refine x_aload_n C dX4_wordOf_9 rfl ?_
  refine x_ifnull C dX4_wordOf_10 ?_
  refine x_iload_n C dX4_wordOf_13 rfl ?_
  refine x_callS C (c_X4_isMeaning _) ks_X4_isMeaning kl_X4_80 dX4_wordOf_14 rfl rfl rfl rfl (Nat.le_of_ble_eq_true rfl) (Nat.le_of_ble_eq_true rfl) (Nat.le_of_ble_eq_true rfl) (Nat.le_of_ble_eq_true rfl) (Nat.le_of_ble_eq_true rfl) ?_
  refine x_bne C 22 dX4_wordOf_17 (by decide) (fun h => absurd h hb) (fun _ => ?_)
  refine x_iconst (v := (-1)) C dX4_wordOf_20 (by decide) ?_
  exact x_zret C Z dX4_wordOf_21 rfl (Nat.le_of_ble_eq_true rfl) (Nat.le_of_ble_eq_true rfl) rfl rfl rfl
set_option maxRecDepth 100000 in
set_option maxHeartbeats 1000000 in
theorem c_X4_hears_ok {l : Launch} {E : xEnv} {B N : Nat} {σ : Sg} {VV : Cs} {p z n : Nat} {tx : Fn}{k : Nat} (hk : k < 8) (hp1 : VV 0 10 k = 1) {ww : Nat} (hw : ww < 14) : xM l yX4_hears cX4_hears 4 (some .int) 3 67 0 0 E B [.ref B, .int (nI k), .int (nI ww)] N (cput E σ B VV (nI p) (nI z) (nI n) tx) N (cput E σ B VV (nI p) (nI z) (nI n) tx) (some (.int (oI (haS (VV 0 k) ww)))) := by
  refine xM_of [some (.ref _), some (.int _), some (.int _), none] (by decide +kernel) (Nat.le_of_ble_eq_true rfl) rfl (fun k0 C Z => ?_)
  refine x_aload_n C dX4_hears_0 rfl ?_
  refine x_get C kf_X4_10 cput_0 rfl dX4_hears_1 ?_
  refine x_iload_n C dX4_hears_4 rfl ?_
  refine x_callV C (c_X3_find_some hk hp1) kv_X3_find kl_X4_45 dX4_hears_5 cput_h0 (cput_is0 rfl) (cput_is0 rfl).symm rfl rfl (Nat.le_of_ble_eq_true rfl) (Nat.le_of_ble_eq_true rfl) (Nat.le_of_ble_eq_true rfl) (Nat.le_of_ble_eq_true rfl) (Nat.le_of_ble_eq_true rfl) ?_
  refine x_astore_n C dX4_hears_8 (by decide) rfl ?_
  refine x_aload_n C dX4_hears_9 rfl ?_
  refine x_ifnull C dX4_hears_10 ?_
  refine x_iload_n C dX4_hears_13 rfl ?_
  refine x_callS C (c_X4_isWord _) ks_X4_isWord kl_X4_84 dX4_hears_14 rfl rfl rfl rfl (Nat.le_of_ble_eq_true rfl) (Nat.le_of_ble_eq_true rfl) (Nat.le_of_ble_eq_true rfl) (Nat.le_of_ble_eq_true rfl) (Nat.le_of_ble_eq_true rfl) ?_
  refine x_bne C 22 dX4_hears_17 (by decide) (fun _ => ?_) (fun h => absurd (bd_in (c := 14) hw (by decide)) h)
  refine x_aload_n C dX4_hears_22 rfl ?_
  refine x_iload_n C dX4_hears_23 rfl ?_
  refine x_callV C (c_X2_meaningOf hk hw) kv_X2_meaningOf kl_X4_121 dX4_hears_24 (cput_hs hk) (cput_is0 rfl) (cput_is0 rfl).symm rfl rfl (Nat.le_of_ble_eq_true rfl) (Nat.le_of_ble_eq_true rfl) (Nat.le_of_ble_eq_true rfl) (Nat.le_of_ble_eq_true rfl) (Nat.le_of_ble_eq_true rfl) ?_
  exact x_zret C Z dX4_hears_27 rfl (Nat.le_of_ble_eq_true rfl) (Nat.le_of_ble_eq_true rfl) rfl rfl rfl
set_option maxRecDepth 100000 in
set_option maxHeartbeats 1000000 in
theorem c_X4_hears_no {l : Launch} {E : xEnv} {B N : Nat} {σ : Sg} {VV : Cs} {p z n : Nat} {tx : Fn}{x : Int32} (hno : ¬ ∃ k, k < 8 ∧ x = nI k ∧ VV 0 10 k = 1) {w : Int32} : xM l yX4_hears cX4_hears 4 (some .int) 3 67 0 0 E B [.ref B, .int x, .int w] N (cput E σ B VV (nI p) (nI z) (nI n) tx) N (cput E σ B VV (nI p) (nI z) (nI n) tx) (some (.int (-1))) := by
  refine xM_of [some (.ref _), some (.int _), some (.int _), none] (by decide +kernel) (Nat.le_of_ble_eq_true rfl) rfl (fun k0 C Z => ?_)
  refine x_aload_n C dX4_hears_0 rfl ?_
  refine x_get C kf_X4_10 cput_0 rfl dX4_hears_1 ?_
  refine x_iload_n C dX4_hears_4 rfl ?_
  refine x_callV C (c_X3_find_none hno) kv_X3_find kl_X4_45 dX4_hears_5 cput_h0 (cput_is0 rfl) (cput_is0 rfl).symm rfl rfl (Nat.le_of_ble_eq_true rfl) (Nat.le_of_ble_eq_true rfl) (Nat.le_of_ble_eq_true rfl) (Nat.le_of_ble_eq_true rfl) (Nat.le_of_ble_eq_true rfl) ?_
  refine x_astore_nN C dX4_hears_8 (by decide) rfl ?_
  refine x_aload_nN C dX4_hears_9 rfl ?_
  refine x_ifnullN C 20 dX4_hears_10 (by decide) ?_
  refine x_iconst (v := (-1)) C dX4_hears_20 (by decide) ?_
  exact x_zret C Z dX4_hears_21 rfl (Nat.le_of_ble_eq_true rfl) (Nat.le_of_ble_eq_true rfl) rfl rfl rfl
set_option maxRecDepth 100000 in
set_option maxHeartbeats 1000000 in
theorem c_X4_hears_n2 {l : Launch} {E : xEnv} {B N : Nat} {σ : Sg} {VV : Cs} {p z n : Nat} {tx : Fn}{k : Nat} (hk : k < 8) (hp1 : VV 0 10 k = 1) {w : Int32} (hb : ¬ (0 ≤ w ∧ w < 14)) : xM l yX4_hears cX4_hears 4 (some .int) 3 67 0 0 E B [.ref B, .int (nI k), .int w] N (cput E σ B VV (nI p) (nI z) (nI n) tx) N (cput E σ B VV (nI p) (nI z) (nI n) tx) (some (.int (-1))) := by
  refine xM_of [some (.ref _), some (.int _), some (.int _), none] (by decide +kernel) (Nat.le_of_ble_eq_true rfl) rfl (fun k0 C Z => ?_)
  refine x_aload_n C dX4_hears_0 rfl ?_
  refine x_get C kf_X4_10 cput_0 rfl dX4_hears_1 ?_
  refine x_iload_n C dX4_hears_4 rfl ?_
  refine x_callV C (c_X3_find_some hk hp1) kv_X3_find kl_X4_45 dX4_hears_5 cput_h0 (cput_is0 rfl) (cput_is0 rfl).symm rfl rfl (Nat.le_of_ble_eq_true rfl) (Nat.le_of_ble_eq_true rfl) (Nat.le_of_ble_eq_true rfl) (Nat.le_of_ble_eq_true rfl) (Nat.le_of_ble_eq_true rfl) ?_
  refine x_astore_n C dX4_hears_8 (by decide) rfl ?_
  refine x_aload_n C dX4_hears_9 rfl ?_
  refine x_ifnull C dX4_hears_10 ?_
  refine x_iload_n C dX4_hears_13 rfl ?_
  refine x_callS C (c_X4_isWord _) ks_X4_isWord kl_X4_84 dX4_hears_14 rfl rfl rfl rfl (Nat.le_of_ble_eq_true rfl) (Nat.le_of_ble_eq_true rfl) (Nat.le_of_ble_eq_true rfl) (Nat.le_of_ble_eq_true rfl) (Nat.le_of_ble_eq_true rfl) ?_
  refine x_bne C 22 dX4_hears_17 (by decide) (fun h => absurd h hb) (fun _ => ?_)
  refine x_iconst (v := (-1)) C dX4_hears_20 (by decide) ?_
  exact x_zret C Z dX4_hears_21 rfl (Nat.le_of_ble_eq_true rfl) (Nat.le_of_ble_eq_true rfl) rfl rfl rfl
set_option maxRecDepth 100000 in
set_option maxHeartbeats 1000000 in
theorem c_X4_agreement_w0 {l : Launch} {E : xEnv} {B N : Nat} {σ : Sg} {VV : Cs} {p z n : Nat} {tx : Fn}{k1 : Nat} (hk1 : k1 < 8) (hp1 : VV 0 10 k1 = 1){k2 : Nat} (hk2 : k2 < 8) (hp2 : VV 0 10 k2 = 1) : xM l yX4_agreement cX4_agreement 6 (some .int) 4 91 0 0 E B [.ref B, .int (nI k1), .int (nI k2), .int 0] N (cput E σ B VV (nI p) (nI z) (nI n) tx) N (cput E σ B VV (nI p) (nI z) (nI n) tx) (some (.int (nI (agN (VV 0) k1 k2 6)))) := by
  refine xM_of [some (.ref _), some (.int _), some (.int _), some (.int _), none, none] (by decide +kernel) (Nat.le_of_ble_eq_true rfl) rfl (fun k0 C Z => ?_)
  refine x_aload_n C dX4_agreement_0 rfl ?_
  refine x_get C kf_X4_10 cput_0 rfl dX4_agreement_1 ?_
  refine x_iload_n C dX4_agreement_4 rfl ?_
  refine x_callV C (c_X3_find_some hk1 hp1) kv_X3_find kl_X4_45 dX4_agreement_5 cput_h0 (cput_is0 rfl) (cput_is0 rfl).symm rfl rfl (Nat.le_of_ble_eq_true rfl) (Nat.le_of_ble_eq_true rfl) (Nat.le_of_ble_eq_true rfl) (Nat.le_of_ble_eq_true rfl) (Nat.le_of_ble_eq_true rfl) ?_
  refine x_astore C dX4_agreement_8 (by decide) rfl ?_
  refine x_aload_n C dX4_agreement_10 rfl ?_
  refine x_get C kf_X4_10 cput_0 rfl dX4_agreement_11 ?_
  refine x_iload_n C dX4_agreement_14 rfl ?_
  refine x_callV C (c_X3_find_some hk2 hp2) kv_X3_find kl_X4_45 dX4_agreement_15 cput_h0 (cput_is0 rfl) (cput_is0 rfl).symm rfl rfl (Nat.le_of_ble_eq_true rfl) (Nat.le_of_ble_eq_true rfl) (Nat.le_of_ble_eq_true rfl) (Nat.le_of_ble_eq_true rfl) (Nat.le_of_ble_eq_true rfl) ?_
  refine x_astore C dX4_agreement_18 (by decide) rfl ?_
  refine x_aload C dX4_agreement_20 rfl ?_
  refine x_ifnull C dX4_agreement_22 ?_
  refine x_aload C dX4_agreement_25 rfl ?_
  refine x_ifnn C 32 dX4_agreement_27 (by decide) ?_
  refine x_iload_n C dX4_agreement_32 rfl ?_
  refine x_if_ne C 44 dX4_agreement_33 (by decide) (fun h => absurd rfl h) (fun _ => ?_)
  refine x_aload C dX4_agreement_36 rfl ?_
  refine x_aload C dX4_agreement_38 rfl ?_
  refine x_callS C (c_X4_agreementByMeanings hk1 hk2) ks_X4_agreementByMeanings kl_X4_130 dX4_agreement_40 (cput_is0 rfl) (cput_is0 rfl).symm rfl rfl (Nat.le_of_ble_eq_true rfl) (Nat.le_of_ble_eq_true rfl) (Nat.le_of_ble_eq_true rfl) (Nat.le_of_ble_eq_true rfl) (Nat.le_of_ble_eq_true rfl) ?_
  exact x_zret C Z dX4_agreement_43 rfl (Nat.le_of_ble_eq_true rfl) (Nat.le_of_ble_eq_true rfl) rfl rfl rfl
set_option maxRecDepth 100000 in
set_option maxHeartbeats 1000000 in
theorem c_X4_agreement_w1 {l : Launch} {E : xEnv} {B N : Nat} {σ : Sg} {VV : Cs} {p z n : Nat} {tx : Fn}{k1 : Nat} (hk1 : k1 < 8) (hp1 : VV 0 10 k1 = 1){k2 : Nat} (hk2 : k2 < 8) (hp2 : VV 0 10 k2 = 1) : xM l yX4_agreement cX4_agreement 6 (some .int) 4 91 0 0 E B [.ref B, .int (nI k1), .int (nI k2), .int 1] N (cput E σ B VV (nI p) (nI z) (nI n) tx) N (cput E σ B VV (nI p) (nI z) (nI n) tx) (some (.int (nI (awN (VV 0) k1 k2 14)))) := by
  refine xM_of [some (.ref _), some (.int _), some (.int _), some (.int _), none, none] (by decide +kernel) (Nat.le_of_ble_eq_true rfl) rfl (fun k0 C Z => ?_)
  refine x_aload_n C dX4_agreement_0 rfl ?_
  refine x_get C kf_X4_10 cput_0 rfl dX4_agreement_1 ?_
  refine x_iload_n C dX4_agreement_4 rfl ?_
  refine x_callV C (c_X3_find_some hk1 hp1) kv_X3_find kl_X4_45 dX4_agreement_5 cput_h0 (cput_is0 rfl) (cput_is0 rfl).symm rfl rfl (Nat.le_of_ble_eq_true rfl) (Nat.le_of_ble_eq_true rfl) (Nat.le_of_ble_eq_true rfl) (Nat.le_of_ble_eq_true rfl) (Nat.le_of_ble_eq_true rfl) ?_
  refine x_astore C dX4_agreement_8 (by decide) rfl ?_
  refine x_aload_n C dX4_agreement_10 rfl ?_
  refine x_get C kf_X4_10 cput_0 rfl dX4_agreement_11 ?_
  refine x_iload_n C dX4_agreement_14 rfl ?_
  refine x_callV C (c_X3_find_some hk2 hp2) kv_X3_find kl_X4_45 dX4_agreement_15 cput_h0 (cput_is0 rfl) (cput_is0 rfl).symm rfl rfl (Nat.le_of_ble_eq_true rfl) (Nat.le_of_ble_eq_true rfl) (Nat.le_of_ble_eq_true rfl) (Nat.le_of_ble_eq_true rfl) (Nat.le_of_ble_eq_true rfl) ?_
  refine x_astore C dX4_agreement_18 (by decide) rfl ?_
  refine x_aload C dX4_agreement_20 rfl ?_
  refine x_ifnull C dX4_agreement_22 ?_
  refine x_aload C dX4_agreement_25 rfl ?_
  refine x_ifnn C 32 dX4_agreement_27 (by decide) ?_
  refine x_iload_n C dX4_agreement_32 rfl ?_
  refine x_if_ne C 44 dX4_agreement_33 (by decide) (fun _ => ?_) (fun h => absurd h (by decide))
  refine x_iload_n C dX4_agreement_44 rfl ?_
  refine x_iconst (v := 1) C dX4_agreement_45 (by decide) ?_
  refine x_ic_ne C 59 dX4_agreement_46 (by decide) (fun h => absurd rfl h) (fun _ => ?_)
  refine x_aload C dX4_agreement_49 rfl ?_
  refine x_aload C dX4_agreement_51 rfl ?_
  refine x_callS C (c_X4_agreementByWords hk1 hk2) ks_X4_agreementByWords kl_X4_134 dX4_agreement_53 (cput_is0 rfl) (cput_is0 rfl).symm rfl rfl (Nat.le_of_ble_eq_true rfl) (Nat.le_of_ble_eq_true rfl) (Nat.le_of_ble_eq_true rfl) (Nat.le_of_ble_eq_true rfl) (Nat.le_of_ble_eq_true rfl) ?_
  refine x_goto C 61 dX4_agreement_56 (by decide) ?_
  exact x_zret C Z dX4_agreement_61 rfl (Nat.le_of_ble_eq_true rfl) (Nat.le_of_ble_eq_true rfl) rfl rfl rfl
set_option maxRecDepth 100000 in
set_option maxHeartbeats 1000000 in
theorem c_X4_agreement_bad {l : Launch} {E : xEnv} {B N : Nat} {σ : Sg} {VV : Cs} {p z n : Nat} {tx : Fn}{k1 : Nat} (hk1 : k1 < 8) (hp1 : VV 0 10 k1 = 1){k2 : Nat} (hk2 : k2 < 8) (hp2 : VV 0 10 k2 = 1) {w : Int32} (h1 : ¬ w = 0) (h2 : ¬ w = 1) : xM l yX4_agreement cX4_agreement 6 (some .int) 4 91 0 0 E B [.ref B, .int (nI k1), .int (nI k2), .int w] N (cput E σ B VV (nI p) (nI z) (nI n) tx) N (cput E σ B VV (nI p) (nI z) (nI n) tx) (some (.int (-2))) := by
  refine xM_of [some (.ref _), some (.int _), some (.int _), some (.int _), none, none] (by decide +kernel) (Nat.le_of_ble_eq_true rfl) rfl (fun k0 C Z => ?_)
  refine x_aload_n C dX4_agreement_0 rfl ?_
  refine x_get C kf_X4_10 cput_0 rfl dX4_agreement_1 ?_
  refine x_iload_n C dX4_agreement_4 rfl ?_
  refine x_callV C (c_X3_find_some hk1 hp1) kv_X3_find kl_X4_45 dX4_agreement_5 cput_h0 (cput_is0 rfl) (cput_is0 rfl).symm rfl rfl (Nat.le_of_ble_eq_true rfl) (Nat.le_of_ble_eq_true rfl) (Nat.le_of_ble_eq_true rfl) (Nat.le_of_ble_eq_true rfl) (Nat.le_of_ble_eq_true rfl) ?_
  refine x_astore C dX4_agreement_8 (by decide) rfl ?_
  refine x_aload_n C dX4_agreement_10 rfl ?_
  refine x_get C kf_X4_10 cput_0 rfl dX4_agreement_11 ?_
  refine x_iload_n C dX4_agreement_14 rfl ?_
  refine x_callV C (c_X3_find_some hk2 hp2) kv_X3_find kl_X4_45 dX4_agreement_15 cput_h0 (cput_is0 rfl) (cput_is0 rfl).symm rfl rfl (Nat.le_of_ble_eq_true rfl) (Nat.le_of_ble_eq_true rfl) (Nat.le_of_ble_eq_true rfl) (Nat.le_of_ble_eq_true rfl) (Nat.le_of_ble_eq_true rfl) ?_
  refine x_astore C dX4_agreement_18 (by decide) rfl ?_
  refine x_aload C dX4_agreement_20 rfl ?_
  refine x_ifnull C dX4_agreement_22 ?_
  refine x_aload C dX4_agreement_25 rfl ?_
  refine x_ifnn C 32 dX4_agreement_27 (by decide) ?_
  refine x_iload_n C dX4_agreement_32 rfl ?_
  refine x_if_ne C 44 dX4_agreement_33 (by decide) (fun _ => ?_) (fun h => absurd h h1)
  refine x_iload_n C dX4_agreement_44 rfl ?_
  refine x_iconst (v := 1) C dX4_agreement_45 (by decide) ?_
  refine x_ic_ne C 59 dX4_agreement_46 (by decide) (fun _ => ?_) (fun h => absurd h h2)
  refine x_bipush (v := (-2)) C dX4_agreement_59 (by decide) ?_
  exact x_zret C Z dX4_agreement_61 rfl (Nat.le_of_ble_eq_true rfl) (Nat.le_of_ble_eq_true rfl) rfl rfl rfl
set_option maxRecDepth 100000 in
set_option maxHeartbeats 1000000 in
theorem c_X4_agreement_n1s {l : Launch} {E : xEnv} {B N : Nat} {σ : Sg} {VV : Cs} {p z n : Nat} {tx : Fn}{x : Int32} (hno : ¬ ∃ k, k < 8 ∧ x = nI k ∧ VV 0 10 k = 1){k2 : Nat} (hk2 : k2 < 8) (hp2 : VV 0 10 k2 = 1) {w : Int32} : xM l yX4_agreement cX4_agreement 6 (some .int) 4 91 0 0 E B [.ref B, .int x, .int (nI k2), .int w] N (cput E σ B VV (nI p) (nI z) (nI n) tx) N (cput E σ B VV (nI p) (nI z) (nI n) tx) (some (.int (-1))) := by
  refine xM_of [some (.ref _), some (.int _), some (.int _), some (.int _), none, none] (by decide +kernel) (Nat.le_of_ble_eq_true rfl) rfl (fun k0 C Z => ?_)
  refine x_aload_n C dX4_agreement_0 rfl ?_
  refine x_get C kf_X4_10 cput_0 rfl dX4_agreement_1 ?_
  refine x_iload_n C dX4_agreement_4 rfl ?_
  refine x_callV C (c_X3_find_none hno) kv_X3_find kl_X4_45 dX4_agreement_5 cput_h0 (cput_is0 rfl) (cput_is0 rfl).symm rfl rfl (Nat.le_of_ble_eq_true rfl) (Nat.le_of_ble_eq_true rfl) (Nat.le_of_ble_eq_true rfl) (Nat.le_of_ble_eq_true rfl) (Nat.le_of_ble_eq_true rfl) ?_
  refine x_astoreN C dX4_agreement_8 (by decide) rfl ?_
  refine x_aload_n C dX4_agreement_10 rfl ?_
  refine x_get C kf_X4_10 cput_0 rfl dX4_agreement_11 ?_
  refine x_iload_n C dX4_agreement_14 rfl ?_
  refine x_callV C (c_X3_find_some hk2 hp2) kv_X3_find kl_X4_45 dX4_agreement_15 cput_h0 (cput_is0 rfl) (cput_is0 rfl).symm rfl rfl (Nat.le_of_ble_eq_true rfl) (Nat.le_of_ble_eq_true rfl) (Nat.le_of_ble_eq_true rfl) (Nat.le_of_ble_eq_true rfl) (Nat.le_of_ble_eq_true rfl) ?_
  refine x_astore C dX4_agreement_18 (by decide) rfl ?_
  refine x_aloadN C dX4_agreement_20 rfl ?_
  refine x_ifnullN C 30 dX4_agreement_22 (by decide) ?_
  refine x_iconst (v := (-1)) C dX4_agreement_30 (by decide) ?_
  exact x_zret C Z dX4_agreement_31 rfl (Nat.le_of_ble_eq_true rfl) (Nat.le_of_ble_eq_true rfl) rfl rfl rfl
set_option maxRecDepth 100000 in
set_option maxHeartbeats 1000000 in
theorem c_X4_agreement_n1n {l : Launch} {E : xEnv} {B N : Nat} {σ : Sg} {VV : Cs} {p z n : Nat} {tx : Fn}{x : Int32} (hno : ¬ ∃ k, k < 8 ∧ x = nI k ∧ VV 0 10 k = 1){y : Int32} (hny : ¬ ∃ k, k < 8 ∧ y = nI k ∧ VV 0 10 k = 1) {w : Int32} : xM l yX4_agreement cX4_agreement 6 (some .int) 4 91 0 0 E B [.ref B, .int x, .int y, .int w] N (cput E σ B VV (nI p) (nI z) (nI n) tx) N (cput E σ B VV (nI p) (nI z) (nI n) tx) (some (.int (-1))) := by
  refine xM_of [some (.ref _), some (.int _), some (.int _), some (.int _), none, none] (by decide +kernel) (Nat.le_of_ble_eq_true rfl) rfl (fun k0 C Z => ?_)
  refine x_aload_n C dX4_agreement_0 rfl ?_
  refine x_get C kf_X4_10 cput_0 rfl dX4_agreement_1 ?_
  refine x_iload_n C dX4_agreement_4 rfl ?_
  refine x_callV C (c_X3_find_none hno) kv_X3_find kl_X4_45 dX4_agreement_5 cput_h0 (cput_is0 rfl) (cput_is0 rfl).symm rfl rfl (Nat.le_of_ble_eq_true rfl) (Nat.le_of_ble_eq_true rfl) (Nat.le_of_ble_eq_true rfl) (Nat.le_of_ble_eq_true rfl) (Nat.le_of_ble_eq_true rfl) ?_
  refine x_astoreN C dX4_agreement_8 (by decide) rfl ?_
  refine x_aload_n C dX4_agreement_10 rfl ?_
  refine x_get C kf_X4_10 cput_0 rfl dX4_agreement_11 ?_
  refine x_iload_n C dX4_agreement_14 rfl ?_
  refine x_callV C (c_X3_find_none hny) kv_X3_find kl_X4_45 dX4_agreement_15 cput_h0 (cput_is0 rfl) (cput_is0 rfl).symm rfl rfl (Nat.le_of_ble_eq_true rfl) (Nat.le_of_ble_eq_true rfl) (Nat.le_of_ble_eq_true rfl) (Nat.le_of_ble_eq_true rfl) (Nat.le_of_ble_eq_true rfl) ?_
  refine x_astoreN C dX4_agreement_18 (by decide) rfl ?_
  refine x_aloadN C dX4_agreement_20 rfl ?_
  refine x_ifnullN C 30 dX4_agreement_22 (by decide) ?_
  refine x_iconst (v := (-1)) C dX4_agreement_30 (by decide) ?_
  exact x_zret C Z dX4_agreement_31 rfl (Nat.le_of_ble_eq_true rfl) (Nat.le_of_ble_eq_true rfl) rfl rfl rfl
set_option maxRecDepth 100000 in
set_option maxHeartbeats 1000000 in
theorem c_X4_agreement_n2 {l : Launch} {E : xEnv} {B N : Nat} {σ : Sg} {VV : Cs} {p z n : Nat} {tx : Fn}{k1 : Nat} (hk1 : k1 < 8) (hp1 : VV 0 10 k1 = 1){y : Int32} (hny : ¬ ∃ k, k < 8 ∧ y = nI k ∧ VV 0 10 k = 1) {w : Int32} : xM l yX4_agreement cX4_agreement 6 (some .int) 4 91 0 0 E B [.ref B, .int (nI k1), .int y, .int w] N (cput E σ B VV (nI p) (nI z) (nI n) tx) N (cput E σ B VV (nI p) (nI z) (nI n) tx) (some (.int (-1))) := by
  refine xM_of [some (.ref _), some (.int _), some (.int _), some (.int _), none, none] (by decide +kernel) (Nat.le_of_ble_eq_true rfl) rfl (fun k0 C Z => ?_)
  refine x_aload_n C dX4_agreement_0 rfl ?_
  refine x_get C kf_X4_10 cput_0 rfl dX4_agreement_1 ?_
  refine x_iload_n C dX4_agreement_4 rfl ?_
  refine x_callV C (c_X3_find_some hk1 hp1) kv_X3_find kl_X4_45 dX4_agreement_5 cput_h0 (cput_is0 rfl) (cput_is0 rfl).symm rfl rfl (Nat.le_of_ble_eq_true rfl) (Nat.le_of_ble_eq_true rfl) (Nat.le_of_ble_eq_true rfl) (Nat.le_of_ble_eq_true rfl) (Nat.le_of_ble_eq_true rfl) ?_
  refine x_astore C dX4_agreement_8 (by decide) rfl ?_
  refine x_aload_n C dX4_agreement_10 rfl ?_
  refine x_get C kf_X4_10 cput_0 rfl dX4_agreement_11 ?_
  refine x_iload_n C dX4_agreement_14 rfl ?_
  refine x_callV C (c_X3_find_none hny) kv_X3_find kl_X4_45 dX4_agreement_15 cput_h0 (cput_is0 rfl) (cput_is0 rfl).symm rfl rfl (Nat.le_of_ble_eq_true rfl) (Nat.le_of_ble_eq_true rfl) (Nat.le_of_ble_eq_true rfl) (Nat.le_of_ble_eq_true rfl) (Nat.le_of_ble_eq_true rfl) ?_
  refine x_astoreN C dX4_agreement_18 (by decide) rfl ?_
  refine x_aload C dX4_agreement_20 rfl ?_
  refine x_ifnull C dX4_agreement_22 ?_
  refine x_aloadN C dX4_agreement_25 rfl ?_
  refine x_ifnnN C dX4_agreement_27 ?_
  refine x_iconst (v := (-1)) C dX4_agreement_30 (by decide) ?_
  exact x_zret C Z dX4_agreement_31 rfl (Nat.le_of_ble_eq_true rfl) (Nat.le_of_ble_eq_true rfl) rfl rfl rfl
set_option maxRecDepth 100000 in
set_option maxHeartbeats 1000000 in
theorem c_X4_understanding_ok {l : Launch} {E : xEnv} {B N : Nat} {σ : Sg} {VV : Cs} {p z n : Nat} {tx : Fn}{k1 : Nat} (hk1 : k1 < 8) (hp1 : VV 0 10 k1 = 1){k2 : Nat} (hk2 : k2 < 8) (hp2 : VV 0 10 k2 = 1) : xM l yX4_understanding cX4_understanding 5 (some .int) 4 91 0 0 E B [.ref B, .int (nI k1), .int (nI k2)] N (cput E σ B VV (nI p) (nI z) (nI n) tx) N (cput E σ B VV (nI p) (nI z) (nI n) tx) (some (.int (nI (unN (VV 0) k1 k2 6)))) := by
  refine xM_of [some (.ref _), some (.int _), some (.int _), none, none] (by decide +kernel) (Nat.le_of_ble_eq_true rfl) rfl (fun k0 C Z => ?_)
  refine x_aload_n C dX4_understanding_0 rfl ?_
  refine x_get C kf_X4_10 cput_0 rfl dX4_understanding_1 ?_
  refine x_iload_n C dX4_understanding_4 rfl ?_
  refine x_callV C (c_X3_find_some hk1 hp1) kv_X3_find kl_X4_45 dX4_understanding_5 cput_h0 (cput_is0 rfl) (cput_is0 rfl).symm rfl rfl (Nat.le_of_ble_eq_true rfl) (Nat.le_of_ble_eq_true rfl) (Nat.le_of_ble_eq_true rfl) (Nat.le_of_ble_eq_true rfl) (Nat.le_of_ble_eq_true rfl) ?_
  refine x_astore_n C dX4_understanding_8 (by decide) rfl ?_
  refine x_aload_n C dX4_understanding_9 rfl ?_
  refine x_get C kf_X4_10 cput_0 rfl dX4_understanding_10 ?_
  refine x_iload_n C dX4_understanding_13 rfl ?_
  refine x_callV C (c_X3_find_some hk2 hp2) kv_X3_find kl_X4_45 dX4_understanding_14 cput_h0 (cput_is0 rfl) (cput_is0 rfl).symm rfl rfl (Nat.le_of_ble_eq_true rfl) (Nat.le_of_ble_eq_true rfl) (Nat.le_of_ble_eq_true rfl) (Nat.le_of_ble_eq_true rfl) (Nat.le_of_ble_eq_true rfl) ?_
  refine x_astore C dX4_understanding_17 (by decide) rfl ?_
  refine x_aload_n C dX4_understanding_19 rfl ?_
  refine x_ifnull C dX4_understanding_20 ?_
  refine x_aload C dX4_understanding_23 rfl ?_
  refine x_ifnn C 30 dX4_understanding_25 (by decide) ?_
  refine x_aload_n C dX4_understanding_30 rfl ?_
  refine x_aload C dX4_understanding_31 rfl ?_
  refine x_callS C (c_X4_understandingOf hk1 hk2) ks_X4_understandingOf kl_X4_137 dX4_understanding_33 (cput_is0 rfl) (cput_is0 rfl).symm rfl rfl (Nat.le_of_ble_eq_true rfl) (Nat.le_of_ble_eq_true rfl) (Nat.le_of_ble_eq_true rfl) (Nat.le_of_ble_eq_true rfl) (Nat.le_of_ble_eq_true rfl) ?_
  exact x_zret C Z dX4_understanding_36 rfl (Nat.le_of_ble_eq_true rfl) (Nat.le_of_ble_eq_true rfl) rfl rfl rfl
set_option maxRecDepth 100000 in
set_option maxHeartbeats 1000000 in
theorem c_X4_understanding_n1s {l : Launch} {E : xEnv} {B N : Nat} {σ : Sg} {VV : Cs} {p z n : Nat} {tx : Fn}{x : Int32} (hno : ¬ ∃ k, k < 8 ∧ x = nI k ∧ VV 0 10 k = 1){k2 : Nat} (hk2 : k2 < 8) (hp2 : VV 0 10 k2 = 1) : xM l yX4_understanding cX4_understanding 5 (some .int) 4 91 0 0 E B [.ref B, .int x, .int (nI k2)] N (cput E σ B VV (nI p) (nI z) (nI n) tx) N (cput E σ B VV (nI p) (nI z) (nI n) tx) (some (.int (-1))) := by
  refine xM_of [some (.ref _), some (.int _), some (.int _), none, none] (by decide +kernel) (Nat.le_of_ble_eq_true rfl) rfl (fun k0 C Z => ?_)
  refine x_aload_n C dX4_understanding_0 rfl ?_
  refine x_get C kf_X4_10 cput_0 rfl dX4_understanding_1 ?_
  refine x_iload_n C dX4_understanding_4 rfl ?_
  refine x_callV C (c_X3_find_none hno) kv_X3_find kl_X4_45 dX4_understanding_5 cput_h0 (cput_is0 rfl) (cput_is0 rfl).symm rfl rfl (Nat.le_of_ble_eq_true rfl) (Nat.le_of_ble_eq_true rfl) (Nat.le_of_ble_eq_true rfl) (Nat.le_of_ble_eq_true rfl) (Nat.le_of_ble_eq_true rfl) ?_
  refine x_astore_nN C dX4_understanding_8 (by decide) rfl ?_
  refine x_aload_n C dX4_understanding_9 rfl ?_
  refine x_get C kf_X4_10 cput_0 rfl dX4_understanding_10 ?_
  refine x_iload_n C dX4_understanding_13 rfl ?_
  refine x_callV C (c_X3_find_some hk2 hp2) kv_X3_find kl_X4_45 dX4_understanding_14 cput_h0 (cput_is0 rfl) (cput_is0 rfl).symm rfl rfl (Nat.le_of_ble_eq_true rfl) (Nat.le_of_ble_eq_true rfl) (Nat.le_of_ble_eq_true rfl) (Nat.le_of_ble_eq_true rfl) (Nat.le_of_ble_eq_true rfl) ?_
  refine x_astore C dX4_understanding_17 (by decide) rfl ?_
  refine x_aload_nN C dX4_understanding_19 rfl ?_
  refine x_ifnullN C 28 dX4_understanding_20 (by decide) ?_
  refine x_iconst (v := (-1)) C dX4_understanding_28 (by decide) ?_
  exact x_zret C Z dX4_understanding_29 rfl (Nat.le_of_ble_eq_true rfl) (Nat.le_of_ble_eq_true rfl) rfl rfl rfl
set_option maxRecDepth 100000 in
set_option maxHeartbeats 1000000 in
theorem c_X4_understanding_n1n {l : Launch} {E : xEnv} {B N : Nat} {σ : Sg} {VV : Cs} {p z n : Nat} {tx : Fn}{x : Int32} (hno : ¬ ∃ k, k < 8 ∧ x = nI k ∧ VV 0 10 k = 1){y : Int32} (hny : ¬ ∃ k, k < 8 ∧ y = nI k ∧ VV 0 10 k = 1) : xM l yX4_understanding cX4_understanding 5 (some .int) 4 91 0 0 E B [.ref B, .int x, .int y] N (cput E σ B VV (nI p) (nI z) (nI n) tx) N (cput E σ B VV (nI p) (nI z) (nI n) tx) (some (.int (-1))) := by
  refine xM_of [some (.ref _), some (.int _), some (.int _), none, none] (by decide +kernel) (Nat.le_of_ble_eq_true rfl) rfl (fun k0 C Z => ?_)
  refine x_aload_n C dX4_understanding_0 rfl ?_
  refine x_get C kf_X4_10 cput_0 rfl dX4_understanding_1 ?_
  refine x_iload_n C dX4_understanding_4 rfl ?_
  refine x_callV C (c_X3_find_none hno) kv_X3_find kl_X4_45 dX4_understanding_5 cput_h0 (cput_is0 rfl) (cput_is0 rfl).symm rfl rfl (Nat.le_of_ble_eq_true rfl) (Nat.le_of_ble_eq_true rfl) (Nat.le_of_ble_eq_true rfl) (Nat.le_of_ble_eq_true rfl) (Nat.le_of_ble_eq_true rfl) ?_
  refine x_astore_nN C dX4_understanding_8 (by decide) rfl ?_
  refine x_aload_n C dX4_understanding_9 rfl ?_
  refine x_get C kf_X4_10 cput_0 rfl dX4_understanding_10 ?_
  refine x_iload_n C dX4_understanding_13 rfl ?_
  refine x_callV C (c_X3_find_none hny) kv_X3_find kl_X4_45 dX4_understanding_14 cput_h0 (cput_is0 rfl) (cput_is0 rfl).symm rfl rfl (Nat.le_of_ble_eq_true rfl) (Nat.le_of_ble_eq_true rfl) (Nat.le_of_ble_eq_true rfl) (Nat.le_of_ble_eq_true rfl) (Nat.le_of_ble_eq_true rfl) ?_
  refine x_astoreN C dX4_understanding_17 (by decide) rfl ?_
  refine x_aload_nN C dX4_understanding_19 rfl ?_
  refine x_ifnullN C 28 dX4_understanding_20 (by decide) ?_
  refine x_iconst (v := (-1)) C dX4_understanding_28 (by decide) ?_
  exact x_zret C Z dX4_understanding_29 rfl (Nat.le_of_ble_eq_true rfl) (Nat.le_of_ble_eq_true rfl) rfl rfl rfl
set_option maxRecDepth 100000 in
set_option maxHeartbeats 1000000 in
theorem c_X4_understanding_n2 {l : Launch} {E : xEnv} {B N : Nat} {σ : Sg} {VV : Cs} {p z n : Nat} {tx : Fn}{k1 : Nat} (hk1 : k1 < 8) (hp1 : VV 0 10 k1 = 1){y : Int32} (hny : ¬ ∃ k, k < 8 ∧ y = nI k ∧ VV 0 10 k = 1) : xM l yX4_understanding cX4_understanding 5 (some .int) 4 91 0 0 E B [.ref B, .int (nI k1), .int y] N (cput E σ B VV (nI p) (nI z) (nI n) tx) N (cput E σ B VV (nI p) (nI z) (nI n) tx) (some (.int (-1))) := by
  refine xM_of [some (.ref _), some (.int _), some (.int _), none, none] (by decide +kernel) (Nat.le_of_ble_eq_true rfl) rfl (fun k0 C Z => ?_)
  refine x_aload_n C dX4_understanding_0 rfl ?_
  refine x_get C kf_X4_10 cput_0 rfl dX4_understanding_1 ?_
  refine x_iload_n C dX4_understanding_4 rfl ?_
  refine x_callV C (c_X3_find_some hk1 hp1) kv_X3_find kl_X4_45 dX4_understanding_5 cput_h0 (cput_is0 rfl) (cput_is0 rfl).symm rfl rfl (Nat.le_of_ble_eq_true rfl) (Nat.le_of_ble_eq_true rfl) (Nat.le_of_ble_eq_true rfl) (Nat.le_of_ble_eq_true rfl) (Nat.le_of_ble_eq_true rfl) ?_
  refine x_astore_n C dX4_understanding_8 (by decide) rfl ?_
  refine x_aload_n C dX4_understanding_9 rfl ?_
  refine x_get C kf_X4_10 cput_0 rfl dX4_understanding_10 ?_
  refine x_iload_n C dX4_understanding_13 rfl ?_
  refine x_callV C (c_X3_find_none hny) kv_X3_find kl_X4_45 dX4_understanding_14 cput_h0 (cput_is0 rfl) (cput_is0 rfl).symm rfl rfl (Nat.le_of_ble_eq_true rfl) (Nat.le_of_ble_eq_true rfl) (Nat.le_of_ble_eq_true rfl) (Nat.le_of_ble_eq_true rfl) (Nat.le_of_ble_eq_true rfl) ?_
  refine x_astoreN C dX4_understanding_17 (by decide) rfl ?_
  refine x_aload_n C dX4_understanding_19 rfl ?_
  refine x_ifnull C dX4_understanding_20 ?_
  refine x_aloadN C dX4_understanding_23 rfl ?_
  refine x_ifnnN C dX4_understanding_25 ?_
  refine x_iconst (v := (-1)) C dX4_understanding_28 (by decide) ?_
  exact x_zret C Z dX4_understanding_29 rfl (Nat.le_of_ble_eq_true rfl) (Nat.le_of_ble_eq_true rfl) rfl rfl rfl
set_option maxRecDepth 100000 in
set_option maxHeartbeats 1000000 in
theorem c_X4_common_ok {l : Launch} {E : xEnv} {B N : Nat} {σ : Sg} {VV : Cs} {p z n : Nat} {tx : Fn} {m : Nat} (hm : m < 6) : xM l yX4_common cX4_common 2 (some .int) 5 114 0 0 E B [.ref B, .int (nI m)] N (cput E σ B VV (nI p) (nI z) (nI n) tx) N (cput E σ B (upV VV 0 (usR (VV 0) m 8)) (nI p) (nI z) (nI n) tx) (some (.int (oI (cmS (VV 0) m)))) := by
  refine xM_of [some (.ref _), some (.int _)] (by decide +kernel) (Nat.le_of_ble_eq_true rfl) rfl (fun k0 C Z => ?_)
  refine x_iload_n C dX4_common_0 rfl ?_
  refine x_callS C (c_X4_isMeaning _) ks_X4_isMeaning kl_X4_80 dX4_common_1 rfl rfl rfl rfl (Nat.le_of_ble_eq_true rfl) (Nat.le_of_ble_eq_true rfl) (Nat.le_of_ble_eq_true rfl) (Nat.le_of_ble_eq_true rfl) (Nat.le_of_ble_eq_true rfl) ?_
  refine x_beq C 18 dX4_common_4 (by decide) (fun h => absurd (bd_in (c := 6) hm (by decide)) h) (fun _ => ?_)
  refine x_aload_n C dX4_common_7 rfl ?_
  refine x_get C kf_X4_10 cput_0 rfl dX4_common_8 ?_
  refine x_iload_n C dX4_common_11 rfl ?_
  refine x_callV C (c_X3_commonWord hm) kv_X3_commonWord kl_X4_140 dX4_common_12 cput_h0 (cput_is0 rfl) cput_w0 rfl rfl (Nat.le_of_ble_eq_true rfl) (Nat.le_of_ble_eq_true rfl) (Nat.le_of_ble_eq_true rfl) (Nat.le_of_ble_eq_true rfl) (Nat.le_of_ble_eq_true rfl) ?_
  refine x_goto C 19 dX4_common_15 (by decide) ?_
  exact x_zret C Z dX4_common_19 rfl (Nat.le_of_ble_eq_true rfl) (Nat.le_of_ble_eq_true rfl) rfl rfl rfl
set_option maxRecDepth 100000 in
set_option maxHeartbeats 1000000 in
theorem c_X4_common_no {l : Launch} {E : xEnv} {B N : Nat} {σ : Sg} {VV : Cs} {p z n : Nat} {tx : Fn} {x : Int32} (hb : ¬ (0 ≤ x ∧ x < 6)) : xM l yX4_common cX4_common 2 (some .int) 5 114 0 0 E B [.ref B, .int x] N (cput E σ B VV (nI p) (nI z) (nI n) tx) N (cput E σ B VV (nI p) (nI z) (nI n) tx) (some (.int (-1))) := by
  refine xM_of [some (.ref _), some (.int _)] (by decide +kernel) (Nat.le_of_ble_eq_true rfl) rfl (fun k0 C Z => ?_)
  refine x_iload_n C dX4_common_0 rfl ?_
  refine x_callS C (c_X4_isMeaning _) ks_X4_isMeaning kl_X4_80 dX4_common_1 rfl rfl rfl rfl (Nat.le_of_ble_eq_true rfl) (Nat.le_of_ble_eq_true rfl) (Nat.le_of_ble_eq_true rfl) (Nat.le_of_ble_eq_true rfl) (Nat.le_of_ble_eq_true rfl) ?_
  refine x_beq C 18 dX4_common_4 (by decide) (fun _ => ?_) (fun h => absurd h hb)
  refine x_iconst (v := (-1)) C dX4_common_18 (by decide) ?_
  exact x_zret C Z dX4_common_19 rfl (Nat.le_of_ble_eq_true rfl) (Nat.le_of_ble_eq_true rfl) rfl rfl rfl
end
section
set_option maxRecDepth 100000 in
set_option maxHeartbeats 1000000 in
theorem c_X4_ifMet_ok {l : Launch} {E : xEnv} {B N : Nat} {σ : Sg} {VV : Cs} {p z n : Nat} {tx : Fn}{k1 : Nat} (hk1 : k1 < 8) (hp1 : VV 0 10 k1 = 1){k2 : Nat} (hk2 : k2 < 8) (hp2 : VV 0 10 k2 = 1) {m : Nat} (hm : m < 6) {j : Nat} (hj : j < 4) (hne : k1 ≠ k2) (hs : sok (VV 0)) : xM l yX4_ifMet cX4_ifMet 8 (some .int) 5 118 0 0 E B [.ref B, .int (nI k1), .int (nI k2), .int (nI m), .int (nI j)] N (cput E σ B VV (nI p) (nI z) (nI n) tx) N (cput E σ B (upV VV 1 (mtV (cpV (VV 1) (VV 0)) k1 k2 m)) (nI p) (nI z) (nI n) tx) (some (.int (imS (cpV (VV 1) (VV 0)) k1 k2 m j))) := by
  rcases (show j = 0 ∨ j = 1 ∨ j = 2 ∨ j = 3 by omega) with rfl | rfl | rfl | rfl
  · refine xM_of [some (.ref _), some (.int _), some (.int _), some (.int _), some (.int _), none, none, none] (by decide +kernel) (Nat.le_of_ble_eq_true rfl) rfl (fun k0 C Z => ?_)
    refine x_aload_n C dX4_ifMet_0 rfl ?_
    refine x_get C kf_X4_10 cput_0 rfl dX4_ifMet_1 ?_
    refine x_iload_n C dX4_ifMet_4 rfl ?_
    refine x_callV C (c_X3_find_some hk1 hp1) kv_X3_find kl_X4_45 dX4_ifMet_5 cput_h0 (cput_is0 rfl) (cput_is0 rfl).symm rfl rfl (Nat.le_of_ble_eq_true rfl) (Nat.le_of_ble_eq_true rfl) (Nat.le_of_ble_eq_true rfl) (Nat.le_of_ble_eq_true rfl) (Nat.le_of_ble_eq_true rfl) ?_
    refine x_ifnull C dX4_ifMet_8 ?_
    refine x_aload_n C dX4_ifMet_11 rfl ?_
    refine x_get C kf_X4_10 cput_0 rfl dX4_ifMet_12 ?_
    refine x_iload_n C dX4_ifMet_15 rfl ?_
    refine x_callV C (c_X3_find_some hk2 hp2) kv_X3_find kl_X4_45 dX4_ifMet_16 cput_h0 (cput_is0 rfl) (cput_is0 rfl).symm rfl rfl (Nat.le_of_ble_eq_true rfl) (Nat.le_of_ble_eq_true rfl) (Nat.le_of_ble_eq_true rfl) (Nat.le_of_ble_eq_true rfl) (Nat.le_of_ble_eq_true rfl) ?_
    refine x_ifnull C dX4_ifMet_19 ?_
    refine x_iload_n C dX4_ifMet_22 rfl ?_
    refine x_callS C (c_X4_isMeaning _) ks_X4_isMeaning kl_X4_80 dX4_ifMet_23 rfl rfl rfl rfl (Nat.le_of_ble_eq_true rfl) (Nat.le_of_ble_eq_true rfl) (Nat.le_of_ble_eq_true rfl) (Nat.le_of_ble_eq_true rfl) (Nat.le_of_ble_eq_true rfl) ?_
    refine x_bne C 31 dX4_ifMet_26 (by decide) (fun _ => ?_) (fun h => absurd (bd_in (c := 6) hm (by decide)) h)
    refine x_iload C dX4_ifMet_31 rfl ?_
    refine x_iconst (v := 4) C dX4_ifMet_33 (by decide) ?_
    refine x_callS C (c_X4_isBelow _ _) ks_X4_isBelow kl_X4_57 dX4_ifMet_34 rfl rfl rfl rfl (Nat.le_of_ble_eq_true rfl) (Nat.le_of_ble_eq_true rfl) (Nat.le_of_ble_eq_true rfl) (Nat.le_of_ble_eq_true rfl) (Nat.le_of_ble_eq_true rfl) ?_
    refine x_bne C 43 dX4_ifMet_37 (by decide) (fun _ => ?_) (fun h => absurd (bd_in (c := 4) hj (by decide)) h)
    refine x_iload_n C dX4_ifMet_43 rfl ?_
    refine x_iload_n C dX4_ifMet_44 rfl ?_
    refine x_ic_ne C 51 dX4_ifMet_45 (by decide) (fun _ => ?_) (fun h => absurd h (nI_neL (by omega) (by omega) hne))
    refine x_aload_n C dX4_ifMet_51 rfl ?_
    refine x_get C kf_X4_16 cput_0 rfl dX4_ifMet_52 ?_
    refine x_aload_n C dX4_ifMet_55 rfl ?_
    refine x_get C kf_X4_10 cput_0 rfl dX4_ifMet_56 ?_
    refine x_callV C (c_X3_copyFrom (V := VV 1) (W := VV 0) (by omega)) kv_X3_copyFrom kl_X4_143 dX4_ifMet_59 cput_h1 cput_t1 cput_t2 rfl rfl (Nat.le_of_ble_eq_true rfl) (Nat.le_of_ble_eq_true rfl) (Nat.le_of_ble_eq_true rfl) (Nat.le_of_ble_eq_true rfl) (Nat.le_of_ble_eq_true rfl) ?_
    refine x_aload_n C dX4_ifMet_62 rfl ?_
    refine x_get C kf_X4_16 cput_0 rfl dX4_ifMet_63 ?_
    refine x_iload_n C dX4_ifMet_66 rfl ?_
    refine x_callV C (c_X3_find_some hk1 ((cpV_k (Or.inl rfl) hk1).trans hp1)) kv_X3_find kl_X4_45 dX4_ifMet_67 cput_h1 (cput_is1 upV_s) (cput_is1 upV_s).symm rfl rfl (Nat.le_of_ble_eq_true rfl) (Nat.le_of_ble_eq_true rfl) (Nat.le_of_ble_eq_true rfl) (Nat.le_of_ble_eq_true rfl) (Nat.le_of_ble_eq_true rfl) ?_
    refine x_astore C dX4_ifMet_70 (by decide) rfl ?_
    refine x_aload_n C dX4_ifMet_72 rfl ?_
    refine x_get C kf_X4_16 cput_0 rfl dX4_ifMet_73 ?_
    refine x_iload_n C dX4_ifMet_76 rfl ?_
    refine x_callV C (c_X3_find_some hk2 ((cpV_k (Or.inl rfl) hk2).trans hp2)) kv_X3_find kl_X4_45 dX4_ifMet_77 cput_h1 (cput_is1 upV_s) (cput_is1 upV_s).symm rfl rfl (Nat.le_of_ble_eq_true rfl) (Nat.le_of_ble_eq_true rfl) (Nat.le_of_ble_eq_true rfl) (Nat.le_of_ble_eq_true rfl) (Nat.le_of_ble_eq_true rfl) ?_
    refine x_astore C dX4_ifMet_80 (by decide) rfl ?_
    refine x_aload C dX4_ifMet_82 rfl ?_
    refine x_ifnull C dX4_ifMet_84 ?_
    refine x_aload C dX4_ifMet_87 rfl ?_
    refine x_ifnn C 94 dX4_ifMet_89 (by decide) ?_
    refine x_aload_n C dX4_ifMet_94 rfl ?_
    refine x_get C kf_X4_16 cput_0 rfl dX4_ifMet_95 ?_
    refine x_aload C dX4_ifMet_98 rfl ?_
    refine x_aload C dX4_ifMet_100 rfl ?_
    refine x_iload_n C dX4_ifMet_102 rfl ?_
    refine x_callV C (c_X3_holdMeeting hk1 hk2 hm (cpV_ok hs)) kv_X3_holdMeeting kl_X4_98 dX4_ifMet_103 cput_h1 (cput_is1 upV_s) cput_w1 rfl rfl (Nat.le_of_ble_eq_true rfl) (Nat.le_of_ble_eq_true rfl) (Nat.le_of_ble_eq_true rfl) (Nat.le_of_ble_eq_true rfl) (Nat.le_of_ble_eq_true rfl) ?_
    refine x_istore C dX4_ifMet_106 (by decide) rfl ?_
    refine x_iload C dX4_ifMet_108 rfl ?_
    refine x_tbI C 136 dX4_ifMet_110 (by decide) (by decide) rfl (by decide) ?_
    refine x_iload C dX4_ifMet_136 rfl ?_
    refine x_bipush (v := 10) C dX4_ifMet_138 (by decide) ?_
    refine x_idiv C dX4_ifMet_140 (by decide) ?_
    exact x_zret C Z dX4_ifMet_141 rfl (Nat.le_of_ble_eq_true rfl) (Nat.le_of_ble_eq_true rfl) rfl (congrArg (fun q => cput E σ B q _ _ _ _) upV_u) ((o10 mt1_w mt1_h).trans imS_0.symm)
  · refine xM_of [some (.ref _), some (.int _), some (.int _), some (.int _), some (.int _), none, none, none] (by decide +kernel) (Nat.le_of_ble_eq_true rfl) rfl (fun k0 C Z => ?_)
    refine x_aload_n C dX4_ifMet_0 rfl ?_
    refine x_get C kf_X4_10 cput_0 rfl dX4_ifMet_1 ?_
    refine x_iload_n C dX4_ifMet_4 rfl ?_
    refine x_callV C (c_X3_find_some hk1 hp1) kv_X3_find kl_X4_45 dX4_ifMet_5 cput_h0 (cput_is0 rfl) (cput_is0 rfl).symm rfl rfl (Nat.le_of_ble_eq_true rfl) (Nat.le_of_ble_eq_true rfl) (Nat.le_of_ble_eq_true rfl) (Nat.le_of_ble_eq_true rfl) (Nat.le_of_ble_eq_true rfl) ?_
    refine x_ifnull C dX4_ifMet_8 ?_
    refine x_aload_n C dX4_ifMet_11 rfl ?_
    refine x_get C kf_X4_10 cput_0 rfl dX4_ifMet_12 ?_
    refine x_iload_n C dX4_ifMet_15 rfl ?_
    refine x_callV C (c_X3_find_some hk2 hp2) kv_X3_find kl_X4_45 dX4_ifMet_16 cput_h0 (cput_is0 rfl) (cput_is0 rfl).symm rfl rfl (Nat.le_of_ble_eq_true rfl) (Nat.le_of_ble_eq_true rfl) (Nat.le_of_ble_eq_true rfl) (Nat.le_of_ble_eq_true rfl) (Nat.le_of_ble_eq_true rfl) ?_
    refine x_ifnull C dX4_ifMet_19 ?_
    refine x_iload_n C dX4_ifMet_22 rfl ?_
    refine x_callS C (c_X4_isMeaning _) ks_X4_isMeaning kl_X4_80 dX4_ifMet_23 rfl rfl rfl rfl (Nat.le_of_ble_eq_true rfl) (Nat.le_of_ble_eq_true rfl) (Nat.le_of_ble_eq_true rfl) (Nat.le_of_ble_eq_true rfl) (Nat.le_of_ble_eq_true rfl) ?_
    refine x_bne C 31 dX4_ifMet_26 (by decide) (fun _ => ?_) (fun h => absurd (bd_in (c := 6) hm (by decide)) h)
    refine x_iload C dX4_ifMet_31 rfl ?_
    refine x_iconst (v := 4) C dX4_ifMet_33 (by decide) ?_
    refine x_callS C (c_X4_isBelow _ _) ks_X4_isBelow kl_X4_57 dX4_ifMet_34 rfl rfl rfl rfl (Nat.le_of_ble_eq_true rfl) (Nat.le_of_ble_eq_true rfl) (Nat.le_of_ble_eq_true rfl) (Nat.le_of_ble_eq_true rfl) (Nat.le_of_ble_eq_true rfl) ?_
    refine x_bne C 43 dX4_ifMet_37 (by decide) (fun _ => ?_) (fun h => absurd (bd_in (c := 4) hj (by decide)) h)
    refine x_iload_n C dX4_ifMet_43 rfl ?_
    refine x_iload_n C dX4_ifMet_44 rfl ?_
    refine x_ic_ne C 51 dX4_ifMet_45 (by decide) (fun _ => ?_) (fun h => absurd h (nI_neL (by omega) (by omega) hne))
    refine x_aload_n C dX4_ifMet_51 rfl ?_
    refine x_get C kf_X4_16 cput_0 rfl dX4_ifMet_52 ?_
    refine x_aload_n C dX4_ifMet_55 rfl ?_
    refine x_get C kf_X4_10 cput_0 rfl dX4_ifMet_56 ?_
    refine x_callV C (c_X3_copyFrom (V := VV 1) (W := VV 0) (by omega)) kv_X3_copyFrom kl_X4_143 dX4_ifMet_59 cput_h1 cput_t1 cput_t2 rfl rfl (Nat.le_of_ble_eq_true rfl) (Nat.le_of_ble_eq_true rfl) (Nat.le_of_ble_eq_true rfl) (Nat.le_of_ble_eq_true rfl) (Nat.le_of_ble_eq_true rfl) ?_
    refine x_aload_n C dX4_ifMet_62 rfl ?_
    refine x_get C kf_X4_16 cput_0 rfl dX4_ifMet_63 ?_
    refine x_iload_n C dX4_ifMet_66 rfl ?_
    refine x_callV C (c_X3_find_some hk1 ((cpV_k (Or.inl rfl) hk1).trans hp1)) kv_X3_find kl_X4_45 dX4_ifMet_67 cput_h1 (cput_is1 upV_s) (cput_is1 upV_s).symm rfl rfl (Nat.le_of_ble_eq_true rfl) (Nat.le_of_ble_eq_true rfl) (Nat.le_of_ble_eq_true rfl) (Nat.le_of_ble_eq_true rfl) (Nat.le_of_ble_eq_true rfl) ?_
    refine x_astore C dX4_ifMet_70 (by decide) rfl ?_
    refine x_aload_n C dX4_ifMet_72 rfl ?_
    refine x_get C kf_X4_16 cput_0 rfl dX4_ifMet_73 ?_
    refine x_iload_n C dX4_ifMet_76 rfl ?_
    refine x_callV C (c_X3_find_some hk2 ((cpV_k (Or.inl rfl) hk2).trans hp2)) kv_X3_find kl_X4_45 dX4_ifMet_77 cput_h1 (cput_is1 upV_s) (cput_is1 upV_s).symm rfl rfl (Nat.le_of_ble_eq_true rfl) (Nat.le_of_ble_eq_true rfl) (Nat.le_of_ble_eq_true rfl) (Nat.le_of_ble_eq_true rfl) (Nat.le_of_ble_eq_true rfl) ?_
    refine x_astore C dX4_ifMet_80 (by decide) rfl ?_
    refine x_aload C dX4_ifMet_82 rfl ?_
    refine x_ifnull C dX4_ifMet_84 ?_
    refine x_aload C dX4_ifMet_87 rfl ?_
    refine x_ifnn C 94 dX4_ifMet_89 (by decide) ?_
    refine x_aload_n C dX4_ifMet_94 rfl ?_
    refine x_get C kf_X4_16 cput_0 rfl dX4_ifMet_95 ?_
    refine x_aload C dX4_ifMet_98 rfl ?_
    refine x_aload C dX4_ifMet_100 rfl ?_
    refine x_iload_n C dX4_ifMet_102 rfl ?_
    refine x_callV C (c_X3_holdMeeting hk1 hk2 hm (cpV_ok hs)) kv_X3_holdMeeting kl_X4_98 dX4_ifMet_103 cput_h1 (cput_is1 upV_s) cput_w1 rfl rfl (Nat.le_of_ble_eq_true rfl) (Nat.le_of_ble_eq_true rfl) (Nat.le_of_ble_eq_true rfl) (Nat.le_of_ble_eq_true rfl) (Nat.le_of_ble_eq_true rfl) ?_
    refine x_istore C dX4_ifMet_106 (by decide) rfl ?_
    refine x_iload C dX4_ifMet_108 rfl ?_
    refine x_tbI C 142 dX4_ifMet_110 (by decide) (by decide) rfl (by decide) ?_
    refine x_iload C dX4_ifMet_142 rfl ?_
    refine x_bipush (v := 10) C dX4_ifMet_144 (by decide) ?_
    refine x_irem C dX4_ifMet_146 (by decide) ?_
    exact x_zret C Z dX4_ifMet_147 rfl (Nat.le_of_ble_eq_true rfl) (Nat.le_of_ble_eq_true rfl) rfl (congrArg (fun q => cput E σ B q _ _ _ _) upV_u) ((o10r mt1_w mt1_h).trans imS_1.symm)
  · refine xM_of [some (.ref _), some (.int _), some (.int _), some (.int _), some (.int _), none, none, none] (by decide +kernel) (Nat.le_of_ble_eq_true rfl) rfl (fun k0 C Z => ?_)
    refine x_aload_n C dX4_ifMet_0 rfl ?_
    refine x_get C kf_X4_10 cput_0 rfl dX4_ifMet_1 ?_
    refine x_iload_n C dX4_ifMet_4 rfl ?_
    refine x_callV C (c_X3_find_some hk1 hp1) kv_X3_find kl_X4_45 dX4_ifMet_5 cput_h0 (cput_is0 rfl) (cput_is0 rfl).symm rfl rfl (Nat.le_of_ble_eq_true rfl) (Nat.le_of_ble_eq_true rfl) (Nat.le_of_ble_eq_true rfl) (Nat.le_of_ble_eq_true rfl) (Nat.le_of_ble_eq_true rfl) ?_
    refine x_ifnull C dX4_ifMet_8 ?_
    refine x_aload_n C dX4_ifMet_11 rfl ?_
    refine x_get C kf_X4_10 cput_0 rfl dX4_ifMet_12 ?_
    refine x_iload_n C dX4_ifMet_15 rfl ?_
    refine x_callV C (c_X3_find_some hk2 hp2) kv_X3_find kl_X4_45 dX4_ifMet_16 cput_h0 (cput_is0 rfl) (cput_is0 rfl).symm rfl rfl (Nat.le_of_ble_eq_true rfl) (Nat.le_of_ble_eq_true rfl) (Nat.le_of_ble_eq_true rfl) (Nat.le_of_ble_eq_true rfl) (Nat.le_of_ble_eq_true rfl) ?_
    refine x_ifnull C dX4_ifMet_19 ?_
    refine x_iload_n C dX4_ifMet_22 rfl ?_
    refine x_callS C (c_X4_isMeaning _) ks_X4_isMeaning kl_X4_80 dX4_ifMet_23 rfl rfl rfl rfl (Nat.le_of_ble_eq_true rfl) (Nat.le_of_ble_eq_true rfl) (Nat.le_of_ble_eq_true rfl) (Nat.le_of_ble_eq_true rfl) (Nat.le_of_ble_eq_true rfl) ?_
    refine x_bne C 31 dX4_ifMet_26 (by decide) (fun _ => ?_) (fun h => absurd (bd_in (c := 6) hm (by decide)) h)
    refine x_iload C dX4_ifMet_31 rfl ?_
    refine x_iconst (v := 4) C dX4_ifMet_33 (by decide) ?_
    refine x_callS C (c_X4_isBelow _ _) ks_X4_isBelow kl_X4_57 dX4_ifMet_34 rfl rfl rfl rfl (Nat.le_of_ble_eq_true rfl) (Nat.le_of_ble_eq_true rfl) (Nat.le_of_ble_eq_true rfl) (Nat.le_of_ble_eq_true rfl) (Nat.le_of_ble_eq_true rfl) ?_
    refine x_bne C 43 dX4_ifMet_37 (by decide) (fun _ => ?_) (fun h => absurd (bd_in (c := 4) hj (by decide)) h)
    refine x_iload_n C dX4_ifMet_43 rfl ?_
    refine x_iload_n C dX4_ifMet_44 rfl ?_
    refine x_ic_ne C 51 dX4_ifMet_45 (by decide) (fun _ => ?_) (fun h => absurd h (nI_neL (by omega) (by omega) hne))
    refine x_aload_n C dX4_ifMet_51 rfl ?_
    refine x_get C kf_X4_16 cput_0 rfl dX4_ifMet_52 ?_
    refine x_aload_n C dX4_ifMet_55 rfl ?_
    refine x_get C kf_X4_10 cput_0 rfl dX4_ifMet_56 ?_
    refine x_callV C (c_X3_copyFrom (V := VV 1) (W := VV 0) (by omega)) kv_X3_copyFrom kl_X4_143 dX4_ifMet_59 cput_h1 cput_t1 cput_t2 rfl rfl (Nat.le_of_ble_eq_true rfl) (Nat.le_of_ble_eq_true rfl) (Nat.le_of_ble_eq_true rfl) (Nat.le_of_ble_eq_true rfl) (Nat.le_of_ble_eq_true rfl) ?_
    refine x_aload_n C dX4_ifMet_62 rfl ?_
    refine x_get C kf_X4_16 cput_0 rfl dX4_ifMet_63 ?_
    refine x_iload_n C dX4_ifMet_66 rfl ?_
    refine x_callV C (c_X3_find_some hk1 ((cpV_k (Or.inl rfl) hk1).trans hp1)) kv_X3_find kl_X4_45 dX4_ifMet_67 cput_h1 (cput_is1 upV_s) (cput_is1 upV_s).symm rfl rfl (Nat.le_of_ble_eq_true rfl) (Nat.le_of_ble_eq_true rfl) (Nat.le_of_ble_eq_true rfl) (Nat.le_of_ble_eq_true rfl) (Nat.le_of_ble_eq_true rfl) ?_
    refine x_astore C dX4_ifMet_70 (by decide) rfl ?_
    refine x_aload_n C dX4_ifMet_72 rfl ?_
    refine x_get C kf_X4_16 cput_0 rfl dX4_ifMet_73 ?_
    refine x_iload_n C dX4_ifMet_76 rfl ?_
    refine x_callV C (c_X3_find_some hk2 ((cpV_k (Or.inl rfl) hk2).trans hp2)) kv_X3_find kl_X4_45 dX4_ifMet_77 cput_h1 (cput_is1 upV_s) (cput_is1 upV_s).symm rfl rfl (Nat.le_of_ble_eq_true rfl) (Nat.le_of_ble_eq_true rfl) (Nat.le_of_ble_eq_true rfl) (Nat.le_of_ble_eq_true rfl) (Nat.le_of_ble_eq_true rfl) ?_
    refine x_astore C dX4_ifMet_80 (by decide) rfl ?_
    refine x_aload C dX4_ifMet_82 rfl ?_
    refine x_ifnull C dX4_ifMet_84 ?_
    refine x_aload C dX4_ifMet_87 rfl ?_
    refine x_ifnn C 94 dX4_ifMet_89 (by decide) ?_
    refine x_aload_n C dX4_ifMet_94 rfl ?_
    refine x_get C kf_X4_16 cput_0 rfl dX4_ifMet_95 ?_
    refine x_aload C dX4_ifMet_98 rfl ?_
    refine x_aload C dX4_ifMet_100 rfl ?_
    refine x_iload_n C dX4_ifMet_102 rfl ?_
    refine x_callV C (c_X3_holdMeeting hk1 hk2 hm (cpV_ok hs)) kv_X3_holdMeeting kl_X4_98 dX4_ifMet_103 cput_h1 (cput_is1 upV_s) cput_w1 rfl rfl (Nat.le_of_ble_eq_true rfl) (Nat.le_of_ble_eq_true rfl) (Nat.le_of_ble_eq_true rfl) (Nat.le_of_ble_eq_true rfl) (Nat.le_of_ble_eq_true rfl) ?_
    refine x_istore C dX4_ifMet_106 (by decide) rfl ?_
    refine x_iload C dX4_ifMet_108 rfl ?_
    refine x_tbI C 148 dX4_ifMet_110 (by decide) (by decide) rfl (by decide) ?_
    refine x_iload C dX4_ifMet_148 rfl ?_
    refine x_bipush (v := 10) C dX4_ifMet_150 (by decide) ?_
    refine x_irem C dX4_ifMet_152 (by decide) ?_
    refine x_iload_n C dX4_ifMet_153 rfl ?_
    refine x_ic_ne C 161 dX4_ifMet_154 (by decide) (fun h154 => ?_) (fun h154 => ?_)
    · refine x_iconst (v := 0) C dX4_ifMet_161 (by decide) ?_
      exact x_zret C Z dX4_ifMet_162 rfl (Nat.le_of_ble_eq_true rfl) (Nat.le_of_ble_eq_true rfl) rfl (congrArg (fun q => cput E σ B q _ _ _ _) upV_u) (imS_2f h154)
    · refine x_iconst (v := 1) C dX4_ifMet_157 (by decide) ?_
      refine x_goto C 162 dX4_ifMet_158 (by decide) ?_
      exact x_zret C Z dX4_ifMet_162 rfl (Nat.le_of_ble_eq_true rfl) (Nat.le_of_ble_eq_true rfl) rfl (congrArg (fun q => cput E σ B q _ _ _ _) upV_u) (imS_2t hm h154)
  · refine xM_of [some (.ref _), some (.int _), some (.int _), some (.int _), some (.int _), none, none, none] (by decide +kernel) (Nat.le_of_ble_eq_true rfl) rfl (fun k0 C Z => ?_)
    refine x_aload_n C dX4_ifMet_0 rfl ?_
    refine x_get C kf_X4_10 cput_0 rfl dX4_ifMet_1 ?_
    refine x_iload_n C dX4_ifMet_4 rfl ?_
    refine x_callV C (c_X3_find_some hk1 hp1) kv_X3_find kl_X4_45 dX4_ifMet_5 cput_h0 (cput_is0 rfl) (cput_is0 rfl).symm rfl rfl (Nat.le_of_ble_eq_true rfl) (Nat.le_of_ble_eq_true rfl) (Nat.le_of_ble_eq_true rfl) (Nat.le_of_ble_eq_true rfl) (Nat.le_of_ble_eq_true rfl) ?_
    refine x_ifnull C dX4_ifMet_8 ?_
    refine x_aload_n C dX4_ifMet_11 rfl ?_
    refine x_get C kf_X4_10 cput_0 rfl dX4_ifMet_12 ?_
    refine x_iload_n C dX4_ifMet_15 rfl ?_
    refine x_callV C (c_X3_find_some hk2 hp2) kv_X3_find kl_X4_45 dX4_ifMet_16 cput_h0 (cput_is0 rfl) (cput_is0 rfl).symm rfl rfl (Nat.le_of_ble_eq_true rfl) (Nat.le_of_ble_eq_true rfl) (Nat.le_of_ble_eq_true rfl) (Nat.le_of_ble_eq_true rfl) (Nat.le_of_ble_eq_true rfl) ?_
    refine x_ifnull C dX4_ifMet_19 ?_
    refine x_iload_n C dX4_ifMet_22 rfl ?_
    refine x_callS C (c_X4_isMeaning _) ks_X4_isMeaning kl_X4_80 dX4_ifMet_23 rfl rfl rfl rfl (Nat.le_of_ble_eq_true rfl) (Nat.le_of_ble_eq_true rfl) (Nat.le_of_ble_eq_true rfl) (Nat.le_of_ble_eq_true rfl) (Nat.le_of_ble_eq_true rfl) ?_
    refine x_bne C 31 dX4_ifMet_26 (by decide) (fun _ => ?_) (fun h => absurd (bd_in (c := 6) hm (by decide)) h)
    refine x_iload C dX4_ifMet_31 rfl ?_
    refine x_iconst (v := 4) C dX4_ifMet_33 (by decide) ?_
    refine x_callS C (c_X4_isBelow _ _) ks_X4_isBelow kl_X4_57 dX4_ifMet_34 rfl rfl rfl rfl (Nat.le_of_ble_eq_true rfl) (Nat.le_of_ble_eq_true rfl) (Nat.le_of_ble_eq_true rfl) (Nat.le_of_ble_eq_true rfl) (Nat.le_of_ble_eq_true rfl) ?_
    refine x_bne C 43 dX4_ifMet_37 (by decide) (fun _ => ?_) (fun h => absurd (bd_in (c := 4) hj (by decide)) h)
    refine x_iload_n C dX4_ifMet_43 rfl ?_
    refine x_iload_n C dX4_ifMet_44 rfl ?_
    refine x_ic_ne C 51 dX4_ifMet_45 (by decide) (fun _ => ?_) (fun h => absurd h (nI_neL (by omega) (by omega) hne))
    refine x_aload_n C dX4_ifMet_51 rfl ?_
    refine x_get C kf_X4_16 cput_0 rfl dX4_ifMet_52 ?_
    refine x_aload_n C dX4_ifMet_55 rfl ?_
    refine x_get C kf_X4_10 cput_0 rfl dX4_ifMet_56 ?_
    refine x_callV C (c_X3_copyFrom (V := VV 1) (W := VV 0) (by omega)) kv_X3_copyFrom kl_X4_143 dX4_ifMet_59 cput_h1 cput_t1 cput_t2 rfl rfl (Nat.le_of_ble_eq_true rfl) (Nat.le_of_ble_eq_true rfl) (Nat.le_of_ble_eq_true rfl) (Nat.le_of_ble_eq_true rfl) (Nat.le_of_ble_eq_true rfl) ?_
    refine x_aload_n C dX4_ifMet_62 rfl ?_
    refine x_get C kf_X4_16 cput_0 rfl dX4_ifMet_63 ?_
    refine x_iload_n C dX4_ifMet_66 rfl ?_
    refine x_callV C (c_X3_find_some hk1 ((cpV_k (Or.inl rfl) hk1).trans hp1)) kv_X3_find kl_X4_45 dX4_ifMet_67 cput_h1 (cput_is1 upV_s) (cput_is1 upV_s).symm rfl rfl (Nat.le_of_ble_eq_true rfl) (Nat.le_of_ble_eq_true rfl) (Nat.le_of_ble_eq_true rfl) (Nat.le_of_ble_eq_true rfl) (Nat.le_of_ble_eq_true rfl) ?_
    refine x_astore C dX4_ifMet_70 (by decide) rfl ?_
    refine x_aload_n C dX4_ifMet_72 rfl ?_
    refine x_get C kf_X4_16 cput_0 rfl dX4_ifMet_73 ?_
    refine x_iload_n C dX4_ifMet_76 rfl ?_
    refine x_callV C (c_X3_find_some hk2 ((cpV_k (Or.inl rfl) hk2).trans hp2)) kv_X3_find kl_X4_45 dX4_ifMet_77 cput_h1 (cput_is1 upV_s) (cput_is1 upV_s).symm rfl rfl (Nat.le_of_ble_eq_true rfl) (Nat.le_of_ble_eq_true rfl) (Nat.le_of_ble_eq_true rfl) (Nat.le_of_ble_eq_true rfl) (Nat.le_of_ble_eq_true rfl) ?_
    refine x_astore C dX4_ifMet_80 (by decide) rfl ?_
    refine x_aload C dX4_ifMet_82 rfl ?_
    refine x_ifnull C dX4_ifMet_84 ?_
    refine x_aload C dX4_ifMet_87 rfl ?_
    refine x_ifnn C 94 dX4_ifMet_89 (by decide) ?_
    refine x_aload_n C dX4_ifMet_94 rfl ?_
    refine x_get C kf_X4_16 cput_0 rfl dX4_ifMet_95 ?_
    refine x_aload C dX4_ifMet_98 rfl ?_
    refine x_aload C dX4_ifMet_100 rfl ?_
    refine x_iload_n C dX4_ifMet_102 rfl ?_
    refine x_callV C (c_X3_holdMeeting hk1 hk2 hm (cpV_ok hs)) kv_X3_holdMeeting kl_X4_98 dX4_ifMet_103 cput_h1 (cput_is1 upV_s) cput_w1 rfl rfl (Nat.le_of_ble_eq_true rfl) (Nat.le_of_ble_eq_true rfl) (Nat.le_of_ble_eq_true rfl) (Nat.le_of_ble_eq_true rfl) (Nat.le_of_ble_eq_true rfl) ?_
    refine x_istore C dX4_ifMet_106 (by decide) rfl ?_
    refine x_iload C dX4_ifMet_108 rfl ?_
    refine x_tbO C 163 dX4_ifMet_110 (Or.inr (by decide)) (by decide) ?_
    refine x_aload C dX4_ifMet_163 rfl ?_
    refine x_aload C dX4_ifMet_165 rfl ?_
    refine x_callS C (c_X4_agreementByMeanings hk1 hk2) ks_X4_agreementByMeanings kl_X4_130 dX4_ifMet_167 (cput_is1 upV_s) (cput_is1 upV_s).symm rfl rfl (Nat.le_of_ble_eq_true rfl) (Nat.le_of_ble_eq_true rfl) (Nat.le_of_ble_eq_true rfl) (Nat.le_of_ble_eq_true rfl) (Nat.le_of_ble_eq_true rfl) ?_
    exact x_zret C Z dX4_ifMet_170 rfl (Nat.le_of_ble_eq_true rfl) (Nat.le_of_ble_eq_true rfl) rfl (congrArg (fun q => cput E σ B q _ _ _ _) upV_u) imS_3.symm
set_option maxRecDepth 100000 in
set_option maxHeartbeats 1000000 in
theorem c_X4_ifMet_n1 {l : Launch} {E : xEnv} {B N : Nat} {σ : Sg} {VV : Cs} {p z n : Nat} {tx : Fn}{x : Int32} (hno : ¬ ∃ k, k < 8 ∧ x = nI k ∧ VV 0 10 k = 1) {y m w : Int32} : xM l yX4_ifMet cX4_ifMet 8 (some .int) 5 118 0 0 E B [.ref B, .int x, .int y, .int m, .int w] N (cput E σ B VV (nI p) (nI z) (nI n) tx) N (cput E σ B VV (nI p) (nI z) (nI n) tx) (some (.int (-1))) := by
  refine xM_of [some (.ref _), some (.int _), some (.int _), some (.int _), some (.int _), none, none, none] (by decide +kernel) (Nat.le_of_ble_eq_true rfl) rfl (fun k0 C Z => ?_)
  refine x_aload_n C dX4_ifMet_0 rfl ?_
  refine x_get C kf_X4_10 cput_0 rfl dX4_ifMet_1 ?_
  refine x_iload_n C dX4_ifMet_4 rfl ?_
  refine x_callV C (c_X3_find_none hno) kv_X3_find kl_X4_45 dX4_ifMet_5 cput_h0 (cput_is0 rfl) (cput_is0 rfl).symm rfl rfl (Nat.le_of_ble_eq_true rfl) (Nat.le_of_ble_eq_true rfl) (Nat.le_of_ble_eq_true rfl) (Nat.le_of_ble_eq_true rfl) (Nat.le_of_ble_eq_true rfl) ?_
  refine x_ifnullN C 29 dX4_ifMet_8 (by decide) ?_
  refine x_iconst (v := (-1)) C dX4_ifMet_29 (by decide) ?_
  exact x_zret C Z dX4_ifMet_30 rfl (Nat.le_of_ble_eq_true rfl) (Nat.le_of_ble_eq_true rfl) rfl rfl rfl
set_option maxRecDepth 100000 in
set_option maxHeartbeats 1000000 in
theorem c_X4_ifMet_n2 {l : Launch} {E : xEnv} {B N : Nat} {σ : Sg} {VV : Cs} {p z n : Nat} {tx : Fn}{k1 : Nat} (hk1 : k1 < 8) (hp1 : VV 0 10 k1 = 1){y : Int32} (hny : ¬ ∃ k, k < 8 ∧ y = nI k ∧ VV 0 10 k = 1) {m w : Int32} : xM l yX4_ifMet cX4_ifMet 8 (some .int) 5 118 0 0 E B [.ref B, .int (nI k1), .int y, .int m, .int w] N (cput E σ B VV (nI p) (nI z) (nI n) tx) N (cput E σ B VV (nI p) (nI z) (nI n) tx) (some (.int (-1))) := by
  refine xM_of [some (.ref _), some (.int _), some (.int _), some (.int _), some (.int _), none, none, none] (by decide +kernel) (Nat.le_of_ble_eq_true rfl) rfl (fun k0 C Z => ?_)
  refine x_aload_n C dX4_ifMet_0 rfl ?_
  refine x_get C kf_X4_10 cput_0 rfl dX4_ifMet_1 ?_
  refine x_iload_n C dX4_ifMet_4 rfl ?_
  refine x_callV C (c_X3_find_some hk1 hp1) kv_X3_find kl_X4_45 dX4_ifMet_5 cput_h0 (cput_is0 rfl) (cput_is0 rfl).symm rfl rfl (Nat.le_of_ble_eq_true rfl) (Nat.le_of_ble_eq_true rfl) (Nat.le_of_ble_eq_true rfl) (Nat.le_of_ble_eq_true rfl) (Nat.le_of_ble_eq_true rfl) ?_
  refine x_ifnull C dX4_ifMet_8 ?_
  refine x_aload_n C dX4_ifMet_11 rfl ?_
  refine x_get C kf_X4_10 cput_0 rfl dX4_ifMet_12 ?_
  refine x_iload_n C dX4_ifMet_15 rfl ?_
  refine x_callV C (c_X3_find_none hny) kv_X3_find kl_X4_45 dX4_ifMet_16 cput_h0 (cput_is0 rfl) (cput_is0 rfl).symm rfl rfl (Nat.le_of_ble_eq_true rfl) (Nat.le_of_ble_eq_true rfl) (Nat.le_of_ble_eq_true rfl) (Nat.le_of_ble_eq_true rfl) (Nat.le_of_ble_eq_true rfl) ?_
  refine x_ifnullN C 29 dX4_ifMet_19 (by decide) ?_
  refine x_iconst (v := (-1)) C dX4_ifMet_29 (by decide) ?_
  exact x_zret C Z dX4_ifMet_30 rfl (Nat.le_of_ble_eq_true rfl) (Nat.le_of_ble_eq_true rfl) rfl rfl rfl
set_option maxRecDepth 100000 in
set_option maxHeartbeats 1000000 in
theorem c_X4_ifMet_n3 {l : Launch} {E : xEnv} {B N : Nat} {σ : Sg} {VV : Cs} {p z n : Nat} {tx : Fn}{k1 : Nat} (hk1 : k1 < 8) (hp1 : VV 0 10 k1 = 1){k2 : Nat} (hk2 : k2 < 8) (hp2 : VV 0 10 k2 = 1) {m w : Int32} (hb : ¬ (0 ≤ m ∧ m < 6)) : xM l yX4_ifMet cX4_ifMet 8 (some .int) 5 118 0 0 E B [.ref B, .int (nI k1), .int (nI k2), .int m, .int w] N (cput E σ B VV (nI p) (nI z) (nI n) tx) N (cput E σ B VV (nI p) (nI z) (nI n) tx) (some (.int (-1))) := by
  refine xM_of [some (.ref _), some (.int _), some (.int _), some (.int _), some (.int _), none, none, none] (by decide +kernel) (Nat.le_of_ble_eq_true rfl) rfl (fun k0 C Z => ?_)
  refine x_aload_n C dX4_ifMet_0 rfl ?_
  refine x_get C kf_X4_10 cput_0 rfl dX4_ifMet_1 ?_
  refine x_iload_n C dX4_ifMet_4 rfl ?_
  refine x_callV C (c_X3_find_some hk1 hp1) kv_X3_find kl_X4_45 dX4_ifMet_5 cput_h0 (cput_is0 rfl) (cput_is0 rfl).symm rfl rfl (Nat.le_of_ble_eq_true rfl) (Nat.le_of_ble_eq_true rfl) (Nat.le_of_ble_eq_true rfl) (Nat.le_of_ble_eq_true rfl) (Nat.le_of_ble_eq_true rfl) ?_
  refine x_ifnull C dX4_ifMet_8 ?_
  refine x_aload_n C dX4_ifMet_11 rfl ?_
  refine x_get C kf_X4_10 cput_0 rfl dX4_ifMet_12 ?_
  refine x_iload_n C dX4_ifMet_15 rfl ?_
  refine x_callV C (c_X3_find_some hk2 hp2) kv_X3_find kl_X4_45 dX4_ifMet_16 cput_h0 (cput_is0 rfl) (cput_is0 rfl).symm rfl rfl (Nat.le_of_ble_eq_true rfl) (Nat.le_of_ble_eq_true rfl) (Nat.le_of_ble_eq_true rfl) (Nat.le_of_ble_eq_true rfl) (Nat.le_of_ble_eq_true rfl) ?_
  refine x_ifnull C dX4_ifMet_19 ?_
  refine x_iload_n C dX4_ifMet_22 rfl ?_
  refine x_callS C (c_X4_isMeaning _) ks_X4_isMeaning kl_X4_80 dX4_ifMet_23 rfl rfl rfl rfl (Nat.le_of_ble_eq_true rfl) (Nat.le_of_ble_eq_true rfl) (Nat.le_of_ble_eq_true rfl) (Nat.le_of_ble_eq_true rfl) (Nat.le_of_ble_eq_true rfl) ?_
  refine x_bne C 31 dX4_ifMet_26 (by decide) (fun h => absurd h hb) (fun _ => ?_)
  refine x_iconst (v := (-1)) C dX4_ifMet_29 (by decide) ?_
  exact x_zret C Z dX4_ifMet_30 rfl (Nat.le_of_ble_eq_true rfl) (Nat.le_of_ble_eq_true rfl) rfl rfl rfl
set_option maxRecDepth 100000 in
set_option maxHeartbeats 1000000 in
theorem c_X4_ifMet_bad {l : Launch} {E : xEnv} {B N : Nat} {σ : Sg} {VV : Cs} {p z n : Nat} {tx : Fn}{k1 : Nat} (hk1 : k1 < 8) (hp1 : VV 0 10 k1 = 1){k2 : Nat} (hk2 : k2 < 8) (hp2 : VV 0 10 k2 = 1) {m : Nat} (hm : m < 6) {w : Int32} (hb : ¬ (0 ≤ w ∧ w < 4)) : xM l yX4_ifMet cX4_ifMet 8 (some .int) 5 118 0 0 E B [.ref B, .int (nI k1), .int (nI k2), .int (nI m), .int w] N (cput E σ B VV (nI p) (nI z) (nI n) tx) N (cput E σ B VV (nI p) (nI z) (nI n) tx) (some (.int (-2))) := by
  refine xM_of [some (.ref _), some (.int _), some (.int _), some (.int _), some (.int _), none, none, none] (by decide +kernel) (Nat.le_of_ble_eq_true rfl) rfl (fun k0 C Z => ?_)
  refine x_aload_n C dX4_ifMet_0 rfl ?_
  refine x_get C kf_X4_10 cput_0 rfl dX4_ifMet_1 ?_
  refine x_iload_n C dX4_ifMet_4 rfl ?_
  refine x_callV C (c_X3_find_some hk1 hp1) kv_X3_find kl_X4_45 dX4_ifMet_5 cput_h0 (cput_is0 rfl) (cput_is0 rfl).symm rfl rfl (Nat.le_of_ble_eq_true rfl) (Nat.le_of_ble_eq_true rfl) (Nat.le_of_ble_eq_true rfl) (Nat.le_of_ble_eq_true rfl) (Nat.le_of_ble_eq_true rfl) ?_
  refine x_ifnull C dX4_ifMet_8 ?_
  refine x_aload_n C dX4_ifMet_11 rfl ?_
  refine x_get C kf_X4_10 cput_0 rfl dX4_ifMet_12 ?_
  refine x_iload_n C dX4_ifMet_15 rfl ?_
  refine x_callV C (c_X3_find_some hk2 hp2) kv_X3_find kl_X4_45 dX4_ifMet_16 cput_h0 (cput_is0 rfl) (cput_is0 rfl).symm rfl rfl (Nat.le_of_ble_eq_true rfl) (Nat.le_of_ble_eq_true rfl) (Nat.le_of_ble_eq_true rfl) (Nat.le_of_ble_eq_true rfl) (Nat.le_of_ble_eq_true rfl) ?_
  refine x_ifnull C dX4_ifMet_19 ?_
  refine x_iload_n C dX4_ifMet_22 rfl ?_
  refine x_callS C (c_X4_isMeaning _) ks_X4_isMeaning kl_X4_80 dX4_ifMet_23 rfl rfl rfl rfl (Nat.le_of_ble_eq_true rfl) (Nat.le_of_ble_eq_true rfl) (Nat.le_of_ble_eq_true rfl) (Nat.le_of_ble_eq_true rfl) (Nat.le_of_ble_eq_true rfl) ?_
  refine x_bne C 31 dX4_ifMet_26 (by decide) (fun _ => ?_) (fun h => absurd (bd_in (c := 6) hm (by decide)) h)
  refine x_iload C dX4_ifMet_31 rfl ?_
  refine x_iconst (v := 4) C dX4_ifMet_33 (by decide) ?_
  refine x_callS C (c_X4_isBelow _ _) ks_X4_isBelow kl_X4_57 dX4_ifMet_34 rfl rfl rfl rfl (Nat.le_of_ble_eq_true rfl) (Nat.le_of_ble_eq_true rfl) (Nat.le_of_ble_eq_true rfl) (Nat.le_of_ble_eq_true rfl) (Nat.le_of_ble_eq_true rfl) ?_
  refine x_bne C 43 dX4_ifMet_37 (by decide) (fun h => absurd h hb) (fun _ => ?_)
  refine x_bipush (v := (-2)) C dX4_ifMet_40 (by decide) ?_
  exact x_zret C Z dX4_ifMet_42 rfl (Nat.le_of_ble_eq_true rfl) (Nat.le_of_ble_eq_true rfl) rfl rfl rfl
set_option maxRecDepth 100000 in
set_option maxHeartbeats 1000000 in
theorem c_X4_ifMet_same {l : Launch} {E : xEnv} {B N : Nat} {σ : Sg} {VV : Cs} {p z n : Nat} {tx : Fn}{k1 : Nat} (hk1 : k1 < 8) (hp1 : VV 0 10 k1 = 1) {m : Nat} (hm : m < 6) {j : Nat} (hj : j < 4) : xM l yX4_ifMet cX4_ifMet 8 (some .int) 5 118 0 0 E B [.ref B, .int (nI k1), .int (nI k1), .int (nI m), .int (nI j)] N (cput E σ B VV (nI p) (nI z) (nI n) tx) N (cput E σ B VV (nI p) (nI z) (nI n) tx) (some (.int (-3))) := by
  refine xM_of [some (.ref _), some (.int _), some (.int _), some (.int _), some (.int _), none, none, none] (by decide +kernel) (Nat.le_of_ble_eq_true rfl) rfl (fun k0 C Z => ?_)
  refine x_aload_n C dX4_ifMet_0 rfl ?_
  refine x_get C kf_X4_10 cput_0 rfl dX4_ifMet_1 ?_
  refine x_iload_n C dX4_ifMet_4 rfl ?_
  refine x_callV C (c_X3_find_some hk1 hp1) kv_X3_find kl_X4_45 dX4_ifMet_5 cput_h0 (cput_is0 rfl) (cput_is0 rfl).symm rfl rfl (Nat.le_of_ble_eq_true rfl) (Nat.le_of_ble_eq_true rfl) (Nat.le_of_ble_eq_true rfl) (Nat.le_of_ble_eq_true rfl) (Nat.le_of_ble_eq_true rfl) ?_
  refine x_ifnull C dX4_ifMet_8 ?_
  refine x_aload_n C dX4_ifMet_11 rfl ?_
  refine x_get C kf_X4_10 cput_0 rfl dX4_ifMet_12 ?_
  refine x_iload_n C dX4_ifMet_15 rfl ?_
  refine x_callV C (c_X3_find_some hk1 hp1) kv_X3_find kl_X4_45 dX4_ifMet_16 cput_h0 (cput_is0 rfl) (cput_is0 rfl).symm rfl rfl (Nat.le_of_ble_eq_true rfl) (Nat.le_of_ble_eq_true rfl) (Nat.le_of_ble_eq_true rfl) (Nat.le_of_ble_eq_true rfl) (Nat.le_of_ble_eq_true rfl) ?_
  refine x_ifnull C dX4_ifMet_19 ?_
  refine x_iload_n C dX4_ifMet_22 rfl ?_
  refine x_callS C (c_X4_isMeaning _) ks_X4_isMeaning kl_X4_80 dX4_ifMet_23 rfl rfl rfl rfl (Nat.le_of_ble_eq_true rfl) (Nat.le_of_ble_eq_true rfl) (Nat.le_of_ble_eq_true rfl) (Nat.le_of_ble_eq_true rfl) (Nat.le_of_ble_eq_true rfl) ?_
  refine x_bne C 31 dX4_ifMet_26 (by decide) (fun _ => ?_) (fun h => absurd (bd_in (c := 6) hm (by decide)) h)
  refine x_iload C dX4_ifMet_31 rfl ?_
  refine x_iconst (v := 4) C dX4_ifMet_33 (by decide) ?_
  refine x_callS C (c_X4_isBelow _ _) ks_X4_isBelow kl_X4_57 dX4_ifMet_34 rfl rfl rfl rfl (Nat.le_of_ble_eq_true rfl) (Nat.le_of_ble_eq_true rfl) (Nat.le_of_ble_eq_true rfl) (Nat.le_of_ble_eq_true rfl) (Nat.le_of_ble_eq_true rfl) ?_
  refine x_bne C 43 dX4_ifMet_37 (by decide) (fun _ => ?_) (fun h => absurd (bd_in (c := 4) hj (by decide)) h)
  refine x_iload_n C dX4_ifMet_43 rfl ?_
  refine x_iload_n C dX4_ifMet_44 rfl ?_
  refine x_ic_ne C 51 dX4_ifMet_45 (by decide) (fun h => absurd rfl h) (fun _ => ?_)
  refine x_bipush (v := (-3)) C dX4_ifMet_48 (by decide) ?_
  exact x_zret C Z dX4_ifMet_50 rfl (Nat.le_of_ble_eq_true rfl) (Nat.le_of_ble_eq_true rfl) rfl rfl rfl
set_option maxRecDepth 100000 in
set_option maxHeartbeats 1000000 in
theorem c_X4_bestSayer_ok {l : Launch} {E : xEnv} {B N : Nat} {σ : Sg} {VV : Cs} {p z n : Nat} {tx : Fn}{k : Nat} (hk : k < 8) (hp1 : VV 0 10 k = 1) : xM l yX4_bestSayer cX4_bestSayer 8 (some .int) 4 91 0 0 E B [.ref B, .int (nI k)] N (cput E σ B VV (nI p) (nI z) (nI n) tx) N (cput E σ B VV (nI p) (nI z) (nI n) tx) (some (.int (oI (bsL (VV 0) k 8)))) := by
  refine xM_of [some (.ref _), some (.int _), none, none, none, none, none, none] (by decide +kernel) (Nat.le_of_ble_eq_true rfl) rfl (fun k0 C Z => ?_)
  have hl : ∀ i, i ≤ 8 → xX k0 N 0 0 (cput E σ B VV (nI p) (nI z) (nI n) tx) 24 [some (.ref B), some (.int (nI k)), some (.ref (B + 1 + 2 + 2 * k)), some (.int (oI (bsL (VV 0) k i))), some (.int (bsG (VV 0) k (bsL (VV 0) k i))), some (.int (nI i)), none, none] [] := by
    refine x_for 8 ?_ ?_
    · refine x_iload C dX4_bestSayer_24 rfl ?_
      refine x_bipush (v := 8) C dX4_bestSayer_26 (by decide) ?_
      refine x_ic_ge C 84 dX4_bestSayer_28 (by decide) (fun _ => ?_) (fun h => absurd (nI_le (a := 8) (Nat.le_refl _) (by omega)) h)
      refine x_iload_n C dX4_bestSayer_84 rfl ?_
      exact x_zret C Z dX4_bestSayer_85 rfl (Nat.le_of_ble_eq_true rfl) (Nat.le_of_ble_eq_true rfl) rfl rfl rfl
    · intro i hi ih
      refine x_iload C dX4_bestSayer_24 rfl ?_
      refine x_bipush (v := 8) C dX4_bestSayer_26 (by decide) ?_
      refine x_ic_ge C 84 dX4_bestSayer_28 (by decide) (fun h => absurd h (nI_ge (b := 8) hi (by omega))) (fun _ => ?_)
      cases hy : bsL (VV 0) k i with
      | none =>
        refine x_aload_n C dX4_bestSayer_31 rfl ?_
        refine x_get C kf_X4_10 cput_0 rfl dX4_bestSayer_32 ?_
        by_cases hi1 : VV 0 10 i = 1
        · skip
          refine x_iload C dX4_bestSayer_35 rfl ?_
          refine x_callV C (c_X3_find_some hi hi1) kv_X3_find kl_X4_45 dX4_bestSayer_37 cput_h0 (cput_is0 rfl) (cput_is0 rfl).symm rfl rfl (Nat.le_of_ble_eq_true rfl) (Nat.le_of_ble_eq_true rfl) (Nat.le_of_ble_eq_true rfl) (Nat.le_of_ble_eq_true rfl) (Nat.le_of_ble_eq_true rfl) ?_
          refine x_astore C dX4_bestSayer_40 (by decide) rfl ?_
          refine x_aload C dX4_bestSayer_42 rfl ?_
          refine x_ifnull C dX4_bestSayer_44 ?_
          refine x_iload C dX4_bestSayer_47 rfl ?_
          refine x_iload_n C dX4_bestSayer_49 rfl ?_
          refine x_ic_ne C 56 dX4_bestSayer_50 (by decide) (fun h50 => ?_) (fun h50 => ?_)
          · refine x_aload C dX4_bestSayer_56 rfl ?_
            refine x_aload_n C dX4_bestSayer_58 rfl ?_
            refine x_callS C (c_X4_understandingOf hi hk) ks_X4_understandingOf kl_X4_137 dX4_bestSayer_59 (cput_is0 rfl) (cput_is0 rfl).symm rfl rfl (Nat.le_of_ble_eq_true rfl) (Nat.le_of_ble_eq_true rfl) (Nat.le_of_ble_eq_true rfl) (Nat.le_of_ble_eq_true rfl) (Nat.le_of_ble_eq_true rfl) ?_
            refine x_istore C dX4_bestSayer_62 (by decide) rfl ?_
            refine x_iload C dX4_bestSayer_64 rfl ?_
            refine x_iload C dX4_bestSayer_66 rfl ?_
            refine x_ic_le C 78 dX4_bestSayer_68 (by decide) (fun h => absurd h (nI_nm1 (by have := unN_le (V := VV 0) (s := i) (h := k) 6; omega))) (fun _ => ?_)
            refine x_iload C dX4_bestSayer_71 rfl ?_
            refine x_istore C dX4_bestSayer_73 (by decide) rfl ?_
            refine x_iload C dX4_bestSayer_75 rfl ?_
            refine x_istore_n C dX4_bestSayer_77 (by decide) rfl ?_
            refine x_iinc C dX4_bestSayer_78 rfl (nI_inc _) (by decide) rfl ?_
            refine x_goto C 24 dX4_bestSayer_81 (by decide) ?_
            refine xX.cl ih rfl (And.intro rfl (And.intro rfl (And.intro rfl (And.intro ?_ (And.intro ?_ (And.intro rfl trivial)))))) rfl
            all_goals (rw [bsL_n hi1 (fun z => h50 (by rw [z])) hy]; rfl)
          · refine x_goto C 78 dX4_bestSayer_53 (by decide) ?_
            refine x_iinc C dX4_bestSayer_78 rfl (nI_inc _) (by decide) rfl ?_
            refine x_goto C 24 dX4_bestSayer_81 (by decide) ?_
            refine xX.cl ih rfl (And.intro rfl (And.intro rfl (And.intro rfl (And.intro ?_ (And.intro ?_ (And.intro rfl trivial)))))) rfl
            all_goals (rw [bsL_sk (Or.inr ((nI_eq (by omega) (by omega)).mp h50)), hy]; rfl)
        · skip
          refine x_iload C dX4_bestSayer_35 rfl ?_
          refine x_callV C (c_X3_find_none (no_f hi hi1)) kv_X3_find kl_X4_45 dX4_bestSayer_37 cput_h0 (cput_is0 rfl) (cput_is0 rfl).symm rfl rfl (Nat.le_of_ble_eq_true rfl) (Nat.le_of_ble_eq_true rfl) (Nat.le_of_ble_eq_true rfl) (Nat.le_of_ble_eq_true rfl) (Nat.le_of_ble_eq_true rfl) ?_
          refine x_astoreN C dX4_bestSayer_40 (by decide) rfl ?_
          refine x_aloadN C dX4_bestSayer_42 rfl ?_
          refine x_ifnullN C 78 dX4_bestSayer_44 (by decide) ?_
          refine x_iinc C dX4_bestSayer_78 rfl (nI_inc _) (by decide) rfl ?_
          refine x_goto C 24 dX4_bestSayer_81 (by decide) ?_
          refine xX.cl ih rfl (And.intro rfl (And.intro rfl (And.intro rfl (And.intro ?_ (And.intro ?_ (And.intro rfl trivial)))))) rfl
          all_goals (rw [bsL_sk (Or.inl hi1), hy]; rfl)
      | some y =>
        have hy8 := bsL_in hy
        refine x_aload_n C dX4_bestSayer_31 rfl ?_
        refine x_get C kf_X4_10 cput_0 rfl dX4_bestSayer_32 ?_
        by_cases hi1 : VV 0 10 i = 1
        · skip
          refine x_iload C dX4_bestSayer_35 rfl ?_
          refine x_callV C (c_X3_find_some hi hi1) kv_X3_find kl_X4_45 dX4_bestSayer_37 cput_h0 (cput_is0 rfl) (cput_is0 rfl).symm rfl rfl (Nat.le_of_ble_eq_true rfl) (Nat.le_of_ble_eq_true rfl) (Nat.le_of_ble_eq_true rfl) (Nat.le_of_ble_eq_true rfl) (Nat.le_of_ble_eq_true rfl) ?_
          refine x_astore C dX4_bestSayer_40 (by decide) rfl ?_
          refine x_aload C dX4_bestSayer_42 rfl ?_
          refine x_ifnull C dX4_bestSayer_44 ?_
          refine x_iload C dX4_bestSayer_47 rfl ?_
          refine x_iload_n C dX4_bestSayer_49 rfl ?_
          refine x_ic_ne C 56 dX4_bestSayer_50 (by decide) (fun h50 => ?_) (fun h50 => ?_)
          · refine x_aload C dX4_bestSayer_56 rfl ?_
            refine x_aload_n C dX4_bestSayer_58 rfl ?_
            refine x_callS C (c_X4_understandingOf hi hk) ks_X4_understandingOf kl_X4_137 dX4_bestSayer_59 (cput_is0 rfl) (cput_is0 rfl).symm rfl rfl (Nat.le_of_ble_eq_true rfl) (Nat.le_of_ble_eq_true rfl) (Nat.le_of_ble_eq_true rfl) (Nat.le_of_ble_eq_true rfl) (Nat.le_of_ble_eq_true rfl) ?_
            refine x_istore C dX4_bestSayer_62 (by decide) rfl ?_
            refine x_iload C dX4_bestSayer_64 rfl ?_
            refine x_iload C dX4_bestSayer_66 rfl ?_
            refine x_ic_le C 78 dX4_bestSayer_68 (by decide) (fun h68 => ?_) (fun h68 => ?_)
            · refine x_iinc C dX4_bestSayer_78 rfl (nI_inc _) (by decide) rfl ?_
              refine x_goto C 24 dX4_bestSayer_81 (by decide) ?_
              refine xX.cl ih rfl (And.intro rfl (And.intro rfl (And.intro rfl (And.intro ?_ (And.intro ?_ (And.intro rfl trivial)))))) rfl
              all_goals (rw [bsL_k hi1 (fun z => h50 (by rw [z])) hy ((nI_leI (by have := unN_le (V := VV 0) (s := i) (h := k) 6; omega) (by have := unN_le (V := VV 0) (s := y) (h := k) 6; omega)).mp h68)]; rfl)
            · refine x_iload C dX4_bestSayer_71 rfl ?_
              refine x_istore C dX4_bestSayer_73 (by decide) rfl ?_
              refine x_iload C dX4_bestSayer_75 rfl ?_
              refine x_istore_n C dX4_bestSayer_77 (by decide) rfl ?_
              refine x_iinc C dX4_bestSayer_78 rfl (nI_inc _) (by decide) rfl ?_
              refine x_goto C 24 dX4_bestSayer_81 (by decide) ?_
              refine xX.cl ih rfl (And.intro rfl (And.intro rfl (And.intro rfl (And.intro ?_ (And.intro ?_ (And.intro rfl trivial)))))) rfl
              all_goals (rw [bsL_u hi1 (fun z => h50 (by rw [z])) hy (fun z => h68 ((nI_leI (by have := unN_le (V := VV 0) (s := i) (h := k) 6; omega) (by have := unN_le (V := VV 0) (s := y) (h := k) 6; omega)).mpr z))]; rfl)
          · refine x_goto C 78 dX4_bestSayer_53 (by decide) ?_
            refine x_iinc C dX4_bestSayer_78 rfl (nI_inc _) (by decide) rfl ?_
            refine x_goto C 24 dX4_bestSayer_81 (by decide) ?_
            refine xX.cl ih rfl (And.intro rfl (And.intro rfl (And.intro rfl (And.intro ?_ (And.intro ?_ (And.intro rfl trivial)))))) rfl
            all_goals (rw [bsL_sk (Or.inr ((nI_eq (by omega) (by omega)).mp h50)), hy]; rfl)
        · skip
          refine x_iload C dX4_bestSayer_35 rfl ?_
          refine x_callV C (c_X3_find_none (no_f hi hi1)) kv_X3_find kl_X4_45 dX4_bestSayer_37 cput_h0 (cput_is0 rfl) (cput_is0 rfl).symm rfl rfl (Nat.le_of_ble_eq_true rfl) (Nat.le_of_ble_eq_true rfl) (Nat.le_of_ble_eq_true rfl) (Nat.le_of_ble_eq_true rfl) (Nat.le_of_ble_eq_true rfl) ?_
          refine x_astoreN C dX4_bestSayer_40 (by decide) rfl ?_
          refine x_aloadN C dX4_bestSayer_42 rfl ?_
          refine x_ifnullN C 78 dX4_bestSayer_44 (by decide) ?_
          refine x_iinc C dX4_bestSayer_78 rfl (nI_inc _) (by decide) rfl ?_
          refine x_goto C 24 dX4_bestSayer_81 (by decide) ?_
          refine xX.cl ih rfl (And.intro rfl (And.intro rfl (And.intro rfl (And.intro ?_ (And.intro ?_ (And.intro rfl trivial)))))) rfl
          all_goals (rw [bsL_sk (Or.inl hi1), hy]; rfl)
  refine x_aload_n C dX4_bestSayer_0 rfl ?_
  refine x_get C kf_X4_10 cput_0 rfl dX4_bestSayer_1 ?_
  refine x_iload_n C dX4_bestSayer_4 rfl ?_
  refine x_callV C (c_X3_find_some hk hp1) kv_X3_find kl_X4_45 dX4_bestSayer_5 cput_h0 (cput_is0 rfl) (cput_is0 rfl).symm rfl rfl (Nat.le_of_ble_eq_true rfl) (Nat.le_of_ble_eq_true rfl) (Nat.le_of_ble_eq_true rfl) (Nat.le_of_ble_eq_true rfl) (Nat.le_of_ble_eq_true rfl) ?_
  refine x_astore_n C dX4_bestSayer_8 (by decide) rfl ?_
  refine x_aload_n C dX4_bestSayer_9 rfl ?_
  refine x_ifnn C 15 dX4_bestSayer_10 (by decide) ?_
  refine x_bipush (v := (-6)) C dX4_bestSayer_15 (by decide) ?_
  refine x_istore_n C dX4_bestSayer_17 (by decide) rfl ?_
  refine x_iconst (v := (-1)) C dX4_bestSayer_18 (by decide) ?_
  refine x_istore C dX4_bestSayer_19 (by decide) rfl ?_
  refine x_iconst (v := 0) C dX4_bestSayer_21 (by decide) ?_
  refine x_istore C dX4_bestSayer_22 (by decide) rfl ?_
  refine xX.cl (hl 0 (by omega)) rfl (And.intro rfl (And.intro rfl (And.intro rfl (And.intro rfl (And.intro rfl (And.intro rfl trivial)))))) rfl
set_option maxRecDepth 100000 in
set_option maxHeartbeats 1000000 in
theorem c_X4_bestSayer_no {l : Launch} {E : xEnv} {B N : Nat} {σ : Sg} {VV : Cs} {p z n : Nat} {tx : Fn}{x : Int32} (hno : ¬ ∃ k, k < 8 ∧ x = nI k ∧ VV 0 10 k = 1) : xM l yX4_bestSayer cX4_bestSayer 8 (some .int) 4 91 0 0 E B [.ref B, .int x] N (cput E σ B VV (nI p) (nI z) (nI n) tx) N (cput E σ B VV (nI p) (nI z) (nI n) tx) (some (.int (-1))) := by
  refine xM_of [some (.ref _), some (.int _), none, none, none, none, none, none] (by decide +kernel) (Nat.le_of_ble_eq_true rfl) rfl (fun k0 C Z => ?_)
  refine x_aload_n C dX4_bestSayer_0 rfl ?_
  refine x_get C kf_X4_10 cput_0 rfl dX4_bestSayer_1 ?_
  refine x_iload_n C dX4_bestSayer_4 rfl ?_
  refine x_callV C (c_X3_find_none hno) kv_X3_find kl_X4_45 dX4_bestSayer_5 cput_h0 (cput_is0 rfl) (cput_is0 rfl).symm rfl rfl (Nat.le_of_ble_eq_true rfl) (Nat.le_of_ble_eq_true rfl) (Nat.le_of_ble_eq_true rfl) (Nat.le_of_ble_eq_true rfl) (Nat.le_of_ble_eq_true rfl) ?_
  refine x_astore_nN C dX4_bestSayer_8 (by decide) rfl ?_
  refine x_aload_nN C dX4_bestSayer_9 rfl ?_
  refine x_ifnnN C dX4_bestSayer_10 ?_
  refine x_iconst (v := (-1)) C dX4_bestSayer_13 (by decide) ?_
  exact x_zret C Z dX4_bestSayer_14 rfl (Nat.le_of_ble_eq_true rfl) (Nat.le_of_ble_eq_true rfl) rfl rfl rfl
end
section
/-! what is made: the cells of new objects, and how the village grows -/
theorem xX.nn {k : xT} {N N2 a b a2 b2 : Nat} {σ : Sg} {pc : Nat} {lv : List (Option Value)} {st : List Value} (kk : xX k N2 a2 b2 σ pc lv st) (h : N = N2) (ha : a ≤ a2) (hb : b ≤ b2) : xX k N a b σ pc lv st := by
  subst h
  exact xX.widen ha hb kk
theorem xX.cl2 {k : xT} {N N2 a b a2 b2 : Nat} {σ σ2 : Sg} {pc : Nat} {lv lv2 : List (Option Value)} {st st2 : List Value} (kk : xX k N2 a2 b2 σ2 pc lv2 st2) (hN : N = N2) (ha : a ≤ a2) (hb : b ≤ b2) (h : σ = σ2) (h2 : xle lv2 lv) (h3 : st = st2) : xX k N a b σ pc lv st :=
  (xX.cl (kk.widen ha hb |> fun z => xX.nn z hN (Nat.le_refl _) (Nat.le_refl _)) h h2 h3)
def bl_X0 : List Value := [.null, .int 0]
def bl_X1 : List Value := [.null, .int 0, .int 0]
def bl_X2 : List Value := [.null, .int 0, .int 0, .int 0]
def bl_X3 : List Value := [.null, .null, .null, .int 0, .int 0, .int 0, .int 0, .int 0]
def bl_X4 : List Value := [.null, .null, .null, .null]
theorem bl_X0_ok : ∀ j, j < 2 → defaultValue (tyX0 j) = vp_V bl_X0 j := fun j hj => by
  rcases (show j = 0 ∨ j = 1 by omega) with rfl | rfl <;> rfl
theorem bl_X1_ok : ∀ j, j < 3 → defaultValue (tyX1 j) = vp_V bl_X1 j := fun j hj => by
  rcases (show j = 0 ∨ j = 1 ∨ j = 2 by omega) with rfl | rfl | rfl <;> rfl
theorem bl_X2_ok : ∀ j, j < 4 → defaultValue (tyX2 j) = vp_V bl_X2 j := fun j hj => by
  rcases (show j = 0 ∨ j = 1 ∨ j = 2 ∨ j = 3 by omega) with rfl | rfl | rfl | rfl <;> rfl
theorem bl_X3_ok : ∀ j, j < 8 → defaultValue (tyX3 j) = vp_V bl_X3 j := fun j hj => by
  rcases (show j = 0 ∨ j = 1 ∨ j = 2 ∨ j = 3 ∨ j = 4 ∨ j = 5 ∨ j = 6 ∨ j = 7 by omega) with rfl | rfl | rfl | rfl | rfl | rfl | rfl | rfl <;> rfl
theorem bl_X4_ok : ∀ j, j < 4 → defaultValue (tyX4 j) = vp_V bl_X4 j := fun j hj => by
  rcases (show j = 0 ∨ j = 1 ∨ j = 2 ∨ j = 3 by omega) with rfl | rfl | rfl | rfl <;> rfl
/-- a village as it is made: i speakers stand -/
def vgr (E : xEnv) (σ : Sg) (b i : Nat) (fs : List Value) (o18 o19 : Option va_E) : Sg := fun a =>
  if a = b then some (.inr (3, fs))
  else if a = b + 1 then some (.inl (xSp E, 8, .inr (.inr (.inr (.inr (fun k => if k < i then some (b + 2 + 2 * k) else none))))))
  else if b + 2 ≤ a ∧ a < b + 2 + 2 * i then some (if (a - b) % 2 = 0 then .inr (2, [.ref (a + 1), .int 0, .int 0, .int 0]) else .inl (xI E, 84, .inl (fun _ => 0)))
  else if a = b + 18 then o18
  else if a = b + 19 then o19
  else σ a
section GR
variable {E : xEnv} {σ : Sg} {b i : Nat} {fs : List Value} {o18 o19 : Option va_E}
theorem vgr_b : vgr E σ b i fs o18 o19 b = some (.inr (3, fs)) := if_pos rfl
theorem vgr_1 : vgr E σ b i fs o18 o19 (b + 1) = some (.inl (xSp E, 8, .inr (.inr (.inr (.inr (fun k => if k < i then some (b + 2 + 2 * k) else none)))))) := by
  unfold vgr
  rw [if_neg (by omega), if_pos rfl]
theorem vgr_18 (hi : i ≤ 8) : vgr E σ b i fs o18 o19 (b + 18) = o18 := by
  unfold vgr
  rw [if_neg (by omega), if_neg (by omega), if_neg (by omega), if_pos rfl]
theorem vgr_fs {fs2 : List Value} : xup (vgr E σ b i fs o18 o19) b (.inr (3, fs2)) = vgr E σ b i fs2 o18 o19 := by
  funext a
  by_cases h : a = b
  · subst h; rw [xup_s, vgr_b]
  · rw [xup_n h]; unfold vgr; rw [if_neg h, if_neg h]
theorem vgr_o18 (hi : i ≤ 8) {e : va_E} : xup (vgr E σ b i fs o18 o19) (b + 18) e = vgr E σ b i fs (some e) o19 := by
  funext a
  by_cases h : a = b + 18
  · subst h; rw [xup_s, vgr_18 hi]
  · rw [xup_n h]; unfold vgr; rw [if_neg (c := a = b + 18) h, if_neg (c := a = b + 18) h]
theorem vgr_o19 (hi : i ≤ 8) {e : va_E} : xup (vgr E σ b i fs o18 o19) (b + 19) e = vgr E σ b i fs o18 (some e) := by
  funext a
  by_cases h : a = b + 19
  · subst h; rw [xup_s]; unfold vgr; rw [if_neg (by omega), if_neg (by omega), if_neg (by omega), if_neg (by omega), if_pos rfl]
  · rw [xup_n h]; unfold vgr; rw [if_neg (c := a = b + 19) h, if_neg (c := a = b + 19) h]
theorem vgr_0 {σ0 : Sg} (h : σ0 b = some (.inr (3, fs))) : xup σ0 (b + 1) (.inl (xSp E, 8, .inr (.inr (.inr (.inr (fun _ => none)))))) = vgr E σ0 b 0 fs (σ0 (b + 18)) (σ0 (b + 19)) := by
  funext a
  by_cases h1 : a = b + 1
  · subst h1
    rw [xup_s, vgr_1]
    congr 6
  · rw [xup_n h1]
    unfold vgr
    by_cases h2 : a = b
    · subst h2; rw [if_pos rfl, h]
    rw [if_neg h2, if_neg h1, if_neg (by omega)]
    by_cases h3 : a = b + 18
    · subst h3; rw [if_pos rfl]
    rw [if_neg h3]
    by_cases h4 : a = b + 19
    · subst h4; rw [if_pos rfl]
    rw [if_neg h4]
theorem vgr_s (hi : i < 8) : xup (xup (xup (xup (vgr E σ b i fs o18 o19) (b + 2 + 2 * i) (.inr (2, bl_X2))) (b + 2 + 2 * i + 1) (.inl (xI E, 84, .inl (fun _ => 0)))) (b + 2 + 2 * i) (.inr (2, [.ref (b + 2 + 2 * i + 1), .int 0, .int 0, .int 0]))) (b + 1) (.inl (xSp E, 8, .inr (.inr (.inr (.inr (fun k => if k < i + 1 then some (b + 2 + 2 * k) else none)))))) = vgr E σ b (i + 1) fs o18 o19 := by
  funext a
  by_cases h1 : a = b + 1
  · subst h1; rw [xup_s, vgr_1]
  rw [xup_n h1]
  by_cases h2 : a = b + 2 + 2 * i
  · subst h2
    rw [xup_s]
    unfold vgr
    rw [if_neg (by omega), if_neg (by omega), if_pos (by omega), if_pos (by omega)]
  rw [xup_n h2]
  by_cases h3 : a = b + 2 + 2 * i + 1
  · subst h3
    rw [xup_s]
    unfold vgr
    rw [if_neg (by omega), if_neg (by omega), if_pos (by omega), if_neg (by omega)]
  rw [xup_n h3, xup_n h2]
  unfold vgr
  by_cases h4 : a = b
  · rw [if_pos h4, if_pos h4]
  rw [if_neg h4, if_neg h4, if_neg h1, if_neg h1]
  by_cases h5 : b + 2 ≤ a ∧ a < b + 2 + 2 * i
  · rw [if_pos h5, if_pos (show b + 2 ≤ a ∧ a < b + 2 + 2 * (i + 1) by omega)]
  · rw [if_neg h5, if_neg (show ¬ (b + 2 ≤ a ∧ a < b + 2 + 2 * (i + 1)) by omega)]
end GR
/-- a new village's numbers -/
def V0 : Vs := fun r j => if r = 8 then (if j = 0 then 4 else if j = 1 then 1 else if j = 2 then 60 else if j = 3 then 50 else 0) else if r = 9 ∧ j = 0 then 1 else 0
theorem vgr_e {E : xEnv} {σ : Sg} {b : Nat} : xup (vgr E σ b 8 [.ref (b + 1), .ref (b + 18), .ref (b + 19), .int 1, .int 0, .int 0, .int 0, .int 0] (some (.inl (xI E, 4, .inl (V0 8)))) (some (.inl (xI E, 14, .inl (fun _ => 0))))) (b + 1) (.inl (xSp E, 8, .inr (.inr (.inr (.inr (fun k => some (b + 2 + 2 * k))))))) = vput E σ b V0 := by
  funext a
  by_cases h : b ≤ a ∧ a < b + 20
  · obtain ⟨o, rfl⟩ : ∃ o, a = b + o := ⟨a - b, by omega⟩
    rw [vput_in h.1 h.2, Nat.add_sub_cancel_left]
    have ho : o < 20 := by omega
    clear h
    revert o ho
    refine vcases ?_ ?_ ?_ ?_ ?_ ?_
    · rw [xup_n (by omega)]; exact vgr_b
    · rw [xup_s]; rfl
    · rw [xup_n (by omega)]; exact vgr_18 (by decide)
    · rw [xup_n (by omega)]; unfold vgr; rw [if_neg (by omega), if_neg (by omega), if_neg (by omega), if_neg (by omega), if_pos rfl]; rfl
    · intro k hk
      rw [xup_n (by omega), vcell_s hk]
      unfold vgr
      rw [if_neg (by omega), if_neg (by omega), if_pos (by omega), if_pos (by omega)]
      show _ = some ((Sum.inr (2, [.ref (b + 3 + 2 * k), .int (xfl (V0 10 k)), .int (V0 11 k), .int (V0 12 k)])) : va_E)
      rw [show b + (2 + 2 * k) + 1 = b + 3 + 2 * k by omega]
      rfl
    · intro k hk
      rw [xup_n (by omega), vcell_w hk]
      unfold vgr
      rw [if_neg (by omega), if_neg (by omega), if_pos (by omega), if_neg (by omega)]
      congr 5
      funext j
      unfold V0
      rw [if_neg (by omega), if_neg (by omega)]
  · rw [xup_n (by omega), vput_out (by omega)]
    unfold vgr
    rw [if_neg (by omega), if_neg (by omega), if_neg (by omega), if_neg (by omega), if_neg (by omega)]
/-- an array of references: places beyond its length may be told as one likes -/
theorem x_contq {k : xT} {N a b : Nat} {σ : Sg} {pc : Nat} {lv : List (Option Value)} {st : List Value} {a0 n : Nat} {cA : ClassId} {f g : Nat → Option Nat} (he : σ a0 = some (.inl (cA, n, .inr (.inr (.inr (.inr f)))))) (hg : ∀ j, j < n → f j = g j) {σ2 : Sg} (hs : xup σ a0 (.inl (cA, n, .inr (.inr (.inr (.inr g))))) = σ2) (kk : xX k N a b σ2 pc lv st) : xX k N a b σ pc lv st := by
  obtain ⟨p, l0, e, R, s, m, args, below, meth, c, Q, E0, B0, nL0⟩ := k
  subst hs
  intro H locs ls hh hS hl
  refine kk H locs ls (hh.put he rfl (fun _ _ => rfl) ?_) hS hl
  have h := (hh.2.2 a0 _ he).2
  have h2 : H[a0]? = some (vp_cell cA (n, .inr (.inr (.inr (.inr f))))) := h
  show H[a0]? = some (vp_cell cA (n, .inr (.inr (.inr (.inr g)))))
  rw [h2, vp_cell_q, vp_cell_q]
  unfold arrV
  congr 2
  congr 1
  funext j
  show va_rf (f j.val) = va_rf (g j.val)
  rw [hg j.val j.isLt]
theorem x_aast2 {k : xT} {l : Launch} {E : xEnv} {B : Nat} {cc : ByteArray} {nL : Nat} {ret : Option FieldType} {own mn : String} {fr lo ce sl N a b : Nat} {σ : Sg} {pc : Nat} {lv : List (Option Value)} {st : List Value} (C : xC k l E B cc nL ret own mn fr lo ce sl) {a0 n t0 v ci q : Nat} {cA : ClassId} {r : vw_C} {f g : Nat → Option Nat} {vs : List Value} {i : Int32} {σ9 : Sg} (he : σ a0 = some (.inl (cA, n, .inr (.inr (.inr (.inr f)))))) (ht : (xtys E)[t0]? = some (cA, .object r.1)) (hv : σ v = some (.inr (ci, vs))) (hc : vwCl[ci]? = some r) (hi : i = nI q) (hq : q < n) (hn : n < 2 ^ 31) (hg : ∀ j, j < n → va_up f q (some v) j = g j) (hs : xup σ a0 (.inl (cA, n, .inr (.inr (.inr (.inr g))))) = σ9) (d : decode cc pc = .ok (.aastore, 1))
    (kk : xX k N a b σ9 (pc + 1) lv st) : xX k N a b σ pc lv (.ref v :: .int i :: .ref a0 :: st) := by
  subst hi
  exact x_aast C he ht hv hc (vp_in_nI hq hn) (by rw [nI_clamp (by omega)]; exact hg) hs d kk
theorem st_V0 : upd (upd (upd (upd (fun _ => 0) 0 4) 1 1) 2 60) 3 50 = V0 8 := by
  funext j
  unfold V0 upd
  rw [if_pos rfl]
  by_cases h3 : j = 3
  · subst h3; rfl
  by_cases h2 : j = 2
  · subst h2; rfl
  by_cases h1 : j = 1
  · subst h1; rfl
  by_cases h0 : j = 0
  · subst h0; rfl
  simp [h0, h1, h2, h3]
/-- saved states as they are made: i villages stand -/
def sgr (E : xEnv) (σ : Sg) (h i : Nat) (fs : List Value) : Sg := fun a =>
  if a = h then some (.inr (1, fs))
  else if a = h + 1 then some (.inl (xVi E, 6, .inr (.inr (.inr (.inr (fun k => if k < i then some (h + 2 + 20 * k) else none))))))
  else if h + 2 ≤ a ∧ a < h + 2 + 20 * i then some (vcell E (h + 2 + 20 * ((a - (h + 2)) / 20)) V0 ((a - (h + 2)) % 20))
  else σ a
section SR
variable {E : xEnv} {σ : Sg} {h i : Nat} {fs : List Value}
theorem sgr_h : sgr E σ h i fs h = some (.inr (1, fs)) := if_pos rfl
theorem sgr_1 : sgr E σ h i fs (h + 1) = some (.inl (xVi E, 6, .inr (.inr (.inr (.inr (fun k => if k < i then some (h + 2 + 20 * k) else none)))))) := by
  unfold sgr
  rw [if_neg (by omega), if_pos rfl]
theorem sgr_fs {fs2 : List Value} : xup (sgr E σ h i fs) h (.inr (1, fs2)) = sgr E σ h i fs2 := by
  funext a
  by_cases h1 : a = h
  · subst h1; rw [xup_s, sgr_h]
  · rw [xup_n h1]; unfold sgr; rw [if_neg h1, if_neg h1]
theorem sgr_0 {σ0 : Sg} (h0 : σ0 h = some (.inr (1, fs))) : xup σ0 (h + 1) (.inl (xVi E, 6, .inr (.inr (.inr (.inr (fun _ => none)))))) = sgr E σ0 h 0 fs := by
  funext a
  by_cases h1 : a = h + 1
  · subst h1
    rw [xup_s, sgr_1]
    congr 6
  · rw [xup_n h1]
    unfold sgr
    by_cases h2 : a = h
    · subst h2; rw [if_pos rfl, h0]
    rw [if_neg h2, if_neg h1, if_neg (by omega)]
theorem sgr_s {e : va_E} : xup (vput E (xup (sgr E σ h i fs) (h + 2 + 20 * i) e) (h + 2 + 20 * i) V0) (h + 1) (.inl (xVi E, 6, .inr (.inr (.inr (.inr (fun k => if k < i + 1 then some (h + 2 + 20 * k) else none)))))) = sgr E σ h (i + 1) fs := by
  funext a
  by_cases h1 : a = h + 1
  · subst h1; rw [xup_s, sgr_1]
  rw [xup_n h1]
  by_cases h2 : h + 2 + 20 * i ≤ a ∧ a < h + 2 + 20 * i + 20
  · rw [vput_in h2.1 h2.2]
    unfold sgr
    rw [if_neg (by omega), if_neg (by omega), if_pos (by omega), show (a - (h + 2)) / 20 = i by omega, show (a - (h + 2)) % 20 = a - (h + 2 + 20 * i) by omega]
  · rw [vput_out (by omega), xup_n (by omega)]
    unfold sgr
    by_cases h4 : a = h
    · rw [if_pos h4, if_pos h4]
    rw [if_neg h4, if_neg h4, if_neg h1, if_neg h1]
    by_cases h5 : h + 2 ≤ a ∧ a < h + 2 + 20 * i
    · rw [if_pos h5, if_pos (show h + 2 ≤ a ∧ a < h + 2 + 20 * (i + 1) by omega)]
    · rw [if_neg h5, if_neg (show ¬ (h + 2 ≤ a ∧ a < h + 2 + 20 * (i + 1)) by omega)]
end SR
/-- all that a new object of the class has -/
def spt (E : xEnv) (σ : Sg) (h : Nat) : Sg := xup (sgr E σ h 6 [.ref (h + 1), .int 0, .int 0]) (h + 1) (.inl (xVi E, 6, .inr (.inr (.inr (.inr (fun k => some (h + 2 + 20 * k)))))))
theorem spt_out {E : xEnv} {σ : Sg} {h a : Nat} (h1 : a < h ∨ h + 122 ≤ a) : spt E σ h a = σ a := by
  unfold spt
  rw [xup_n (by omega)]
  unfold sgr
  rw [if_neg (by omega), if_neg (by omega), if_neg (by omega)]
theorem cnew {E : xEnv} {σ : Sg} {B : Nat} {e1 e2 e3 e4 e5 : va_E} {f1 f2 f3 : va_E} :
    xup (xup (xup (xup (xup (spt E (xup (xup (vput E (xup (xup (vput E (xup (xup σ B e1) (B + 1) e2) (B + 1) V0) B f1) (B + 21) e3) (B + 21) V0) B f2) (B + 41) e4) (B + 41)) B f3) (B + 163) e5) (B + 164) (.inl (xCh E, 80, .inl (fun _ => 0)))) (B + 163) (.inr (0, [.ref (B + 164), .int 0]))) B (.inr (4, [.ref (B + 1), .ref (B + 21), .ref (B + 41), .ref (B + 163)])) = cput E σ B (fun _ => V0) (nI 0) (nI 0) (nI 0) (fun _ => 0) := by
  funext a
  by_cases h : B ≤ a ∧ a < B + 165
  · obtain ⟨o, rfl⟩ : ∃ o, a = B + o := ⟨a - B, by omega⟩
    rw [cput_in h.1 h.2, Nat.add_sub_cancel_left]
    unfold ccell
    by_cases c0 : o = 0
    · subst c0; rw [if_pos rfl]; exact xup_s
    rw [if_neg c0, xup_n (by omega)]
    by_cases c1 : o = 163
    · subst c1
      rw [xup_s, if_neg (by omega), if_neg (by omega), if_neg (by omega), if_neg (by omega), if_pos rfl]; rfl
    rw [xup_n (by omega)]
    by_cases c2 : o = 164
    · subst c2
      rw [xup_s, if_neg (by omega), if_neg (by omega), if_neg (by omega), if_neg (by omega), if_neg (by omega)]
    rw [xup_n (by omega), xup_n (by omega), xup_n (by omega)]
    by_cases c3 : o < 41
    · rw [if_pos c3, spt_out (by omega), xup_n (by omega), xup_n (by omega)]
      by_cases c4 : o < 21
      · rw [vput_out (by omega), xup_n (by omega), xup_n (by omega), vput_in (by omega) (by omega), show (o - 1) / 20 = 0 by omega, show (o - 1) % 20 = B + o - (B + 1) by omega]
      · rw [vput_in (by omega) (by omega), show (o - 1) / 20 = 1 by omega, show (o - 1) % 20 = B + o - (B + 21) by omega]
    rw [if_neg c3]
    unfold spt
    by_cases c5 : o = 41
    · subst c5
      rw [if_pos rfl, xup_n (by omega)]; exact sgr_h
    rw [if_neg c5]
    by_cases c6 : o = 42
    · subst c6
      rw [if_pos rfl]; exact xup_s
    rw [if_neg c6, if_pos (by omega), xup_n (by omega)]
    unfold sgr
    rw [if_neg (by omega), if_neg (by omega), if_pos (by omega), show B + o - (B + 41 + 2) = o - 43 by omega]
  · rw [xup_n (by omega), xup_n (by omega), xup_n (by omega), xup_n (by omega), xup_n (by omega), spt_out (by omega), xup_n (by omega), xup_n (by omega), vput_out (by omega), xup_n (by omega), xup_n (by omega), vput_out (by omega), xup_n (by omega), xup_n (by omega), cput_out (by omega)]
/-- a new model -/
theorem fl_V0 : ∀ j, j < 705 → upd (upd (upd (upd (upd (fun _ => (0 : Int32)) 0 1) 5 4) 6 1) 7 60) 8 50 j = flat V0 j := by
  refine flcases (fun j h => ?_) (fun j h => ?_) (fun s h => ?_) (fun s h => ?_) (fun s h => ?_) (fun s h j hj => ?_)
  · rw [fl_9 h, pk_un (by omega), pk_un (by omega), pk_un (by omega), pk_un (by omega)]
    by_cases e : j = 0
    · subst e; rfl
    · rw [pk_un e]; unfold V0; rw [if_neg (by omega), if_neg (by omega)]
  · rw [fl_8 h]
    rcases (show j = 0 ∨ j = 1 ∨ j = 2 ∨ j = 3 by omega) with rfl | rfl | rfl | rfl <;> rfl
  · rw [fl_10 h, pk_un (by omega), pk_un (by omega), pk_un (by omega), pk_un (by omega), pk_un (by omega)]; rfl
  · rw [fl_11 h, pk_un (by omega), pk_un (by omega), pk_un (by omega), pk_un (by omega), pk_un (by omega)]; rfl
  · rw [fl_12 h, pk_un (by omega), pk_un (by omega), pk_un (by omega), pk_un (by omega), pk_un (by omega)]; rfl
  · rw [fl_w hj, pk_un (by omega), pk_un (by omega), pk_un (by omega), pk_un (by omega), pk_un (by omega)]
    unfold V0; rw [if_neg (by omega), if_neg (by omega)]
theorem xup_u {σ : Sg} {a : Nat} {e e2 : va_E} : xup (xup σ a e) a e2 = xup σ a e2 := by
  funext q
  by_cases h : q = a
  · subst h; rw [xup_s, xup_s]
  · rw [xup_n h, xup_n h, xup_n h]
theorem mnew {E : xEnv} {σ : Sg} {M : Nat} {e0 e1 e2 e3 : va_E} {a1 : va_E} :
    xup (xup (xup (xup (xup (xup (xup (xup (xup (xup σ M e0) (M + 1) a1) M e1) (M + 2) (.inl (xI E, 705, .inl (fun _ => 0)))) M e2) (M + 3) (.inl (xI E, 4230, .inl (fun _ => 0)))) M e3) (M + 4) (.inl (xI E, 80, .inl (fun _ => 0)))) M (.inr (5, mfs M (fun _ => 0)))) (M + 1) (.inl (xI E, 705, .inl (flat V0))) = mput E σ M V0 (fun _ => 0) (fun _ => 0) (fun _ => 0) (fun _ => 0) := by
  funext a
  by_cases h : M ≤ a ∧ a < M + 5
  · obtain ⟨o, rfl⟩ : ∃ o, a = M + o := ⟨a - M, by omega⟩
    rw [mput_in h.1 h.2, Nat.add_sub_cancel_left]
    rcases (show o = 0 ∨ o = 1 ∨ o = 2 ∨ o = 3 ∨ o = 4 by omega) with rfl | rfl | rfl | rfl | rfl
    · rw [xup_n (by omega)]; exact xup_s
    · rw [xup_s]; rfl
    · rw [xup_n (by omega), xup_n (by omega), xup_n (by omega), xup_n (by omega), xup_n (by omega), xup_n (by omega), xup_s]; rfl
    · rw [xup_n (by omega), xup_n (by omega), xup_n (by omega), xup_n (by omega), xup_s]; rfl
    · rw [xup_n (by omega), xup_n (by omega), xup_s]; rfl
  · rw [xup_n (by omega), xup_n (by omega), xup_n (by omega), xup_n (by omega), xup_n (by omega), xup_n (by omega), xup_n (by omega), xup_n (by omega), xup_n (by omega), xup_n (by omega), mput_out (by omega)]
theorem va_grow {n i : Nat} (g : Nat → Nat) : ∀ j, j < n → va_up (fun k => if k < i then some (g k) else none) i (some (g i)) j = (fun k => if k < i + 1 then some (g k) else none) j := fun j _ => by
  by_cases h : j = i
  · subst h
    show (if j = j then some (g j) else _) = if j < j + 1 then some (g j) else none
    rw [if_pos rfl, if_pos (by omega)]
  · show (if j = i then some (g i) else if j < i then some (g j) else none) = if j < i + 1 then some (g j) else none
    rw [if_neg h]
    by_cases h2 : j < i
    · rw [if_pos h2, if_pos (by omega)]
    · rw [if_neg h2, if_neg (by omega)]
end
section
set_option maxRecDepth 100000 in
set_option maxHeartbeats 1000000 in
theorem c_X2_init {l : Launch} {E : xEnv} {B : Nat} {N h : Nat} {σ : Sg} (hn : h ≠ N) (h0 : σ h = some (.inr (2, bl_X2))) : xM l yX2_init cX2_init 1 none 1 20 1 84 E B [.ref h] N σ (N + 1) (xup (xup σ N (.inl (xI E, 84, .inl (fun _ => 0)))) h (.inr (2, [.ref N, .int 0, .int 0, .int 0]))) none := by
  refine xM_of [some (.ref _)] (by decide +kernel) (Nat.le_of_ble_eq_true rfl) rfl (fun k0 C Z => ?_)
  refine x_aload_n C dX2_init_0 rfl ?_
  refine x_obj C kl_X2_3 kz_oi kz_oc dX2_init_1 (Nat.le_of_ble_eq_true rfl) (Nat.le_of_ble_eq_true rfl) ?_
  refine x_aload_n C dX2_init_4 rfl ?_
  refine x_bipush (v := 84) C dX2_init_5 (by decide) ?_
  refine x_newi (n2 := 84) C ka_int (by decide) rfl (Nat.le_of_ble_eq_true rfl) (Nat.le_of_ble_eq_true rfl) (Nat.le_of_ble_eq_true rfl) rfl dX2_init_7 ?_
  refine x_putF (ty := (.array .int)) C rfl kf_X2_9 (by rw [xup_n hn]; exact h0) rfl rfl kfw_X2_9 (by decide +kernel) rfl rfl (Nat.le_of_ble_eq_true rfl) rfl dX2_init_9 ?_
  exact x_vret C Z dX2_init_12 (Nat.le_of_ble_eq_true rfl) (Nat.le_of_ble_eq_true rfl) rfl rfl
set_option maxRecDepth 100000 in
set_option maxHeartbeats 1000000 in
theorem c_X0_init {l : Launch} {E : xEnv} {B : Nat} {h : Nat} {σ : Sg} (h0 : σ h = some (.inr (0, bl_X0))) : xM l yX0_init cX0_init 1 none 1 20 1 80 E B [.ref h] (h + 1) σ (h + 2) (xup (xup σ (h + 1) (.inl (xCh E, 80, .inl (fun _ => 0)))) h (.inr (0, [.ref (h + 1), .int 0]))) none := by
  refine xM_of [some (.ref _)] (by decide +kernel) (Nat.le_of_ble_eq_true rfl) rfl (fun k0 C Z => ?_)
  refine x_aload_n C dX0_init_0 rfl ?_
  refine x_obj C kl_X0_3 kz_oi kz_oc dX0_init_1 (Nat.le_of_ble_eq_true rfl) (Nat.le_of_ble_eq_true rfl) ?_
  refine x_aload_n C dX0_init_4 rfl ?_
  refine x_bipush (v := 80) C dX0_init_5 (by decide) ?_
  refine x_newc (n2 := 80) C ka_char (by decide) rfl (Nat.le_of_ble_eq_true rfl) (Nat.le_of_ble_eq_true rfl) (Nat.le_of_ble_eq_true rfl) rfl dX0_init_7 ?_
  refine x_putF (ty := (.array .char)) C rfl kf_X0_9 (by rw [xup_n (by omega)]; exact h0) rfl rfl kfw_X0_9 (by decide +kernel) rfl rfl (Nat.le_of_ble_eq_true rfl) rfl dX0_init_9 ?_
  exact x_vret C Z dX0_init_12 (Nat.le_of_ble_eq_true rfl) (Nat.le_of_ble_eq_true rfl) rfl rfl
set_option maxRecDepth 100000 in
set_option maxHeartbeats 1000000 in
theorem c_X3_init {l : Launch} {E : xEnv} {B : Nat} {b : Nat} {σ : Sg} (h0 : σ b = some (.inr (3, bl_X3))) : xM l yX3_init cX3_init 2 none 2 40 19 730 E B [.ref b] (b + 1) σ (b + 20) (vput E σ b V0) none := by
  refine xM_of [some (.ref _), none] (by decide +kernel) (Nat.le_of_ble_eq_true rfl) rfl (fun k0 C Z => ?_)
  have hl : ∀ i, i ≤ 8 → xX k0 (b + 2 + 2 * i) (1 + 2 * i) (8 + 88 * i) (vgr E σ b i (bl_X3.set 0 (.ref (b + 1))) (σ (b + 18)) (σ (b + 19))) 15 [some (.ref b), some (.int (nI i))] [] := by
    refine x_for 8 ?_ ?_
    · refine x_iload_n C dX3_init_15 rfl ?_
      refine x_bipush (v := 8) C dX3_init_16 (by decide) ?_
      refine x_ic_ge C 40 dX3_init_18 (by decide) (fun _ => ?_) (fun h => absurd (nI_le (a := 8) (Nat.le_refl _) (by omega)) h)
      refine xX.nn ?_ (show b + 2 + 2 * 8 = b + 18 from by omega) (Nat.le_refl _) (Nat.le_refl _)
      refine x_aload_n C dX3_init_40 rfl ?_
      refine x_iconst (v := 4) C dX3_init_41 (by decide) ?_
      refine x_newi (n2 := 4) C ka_int (by decide) rfl (Nat.le_of_ble_eq_true rfl) (by omega) (by omega) (vgr_o18 (by decide)) dX3_init_42 ?_
      refine x_putF (ty := (.array .int)) C rfl kf_X3_18 vgr_b rfl rfl kfw_X3_18 (by decide +kernel) rfl rfl (Nat.le_of_ble_eq_true rfl) vgr_fs dX3_init_44 ?_
      refine xX.nn ?_ (show b + 18 + 1 = b + 19 from rfl) (Nat.le_refl _) (Nat.le_refl _)
      refine x_aload_n C dX3_init_47 rfl ?_
      refine x_bipush (v := 14) C dX3_init_48 (by decide) ?_
      refine x_newi (n2 := 14) C ka_int (by decide) rfl (Nat.le_of_ble_eq_true rfl) (by omega) (by omega) (vgr_o19 (by decide)) dX3_init_50 ?_
      refine x_putF (ty := (.array .int)) C rfl kf_X3_22 vgr_b rfl rfl kfw_X3_22 (by decide +kernel) rfl rfl (Nat.le_of_ble_eq_true rfl) vgr_fs dX3_init_52 ?_
      refine x_aload_n C dX3_init_55 rfl ?_
      refine x_get C kf_X3_18 vgr_b rfl dX3_init_56 ?_
      refine x_iconst (v := 0) C dX3_init_59 (by decide) ?_
      refine x_iconst (v := 4) C dX3_init_60 (by decide) ?_
      refine x_iast2 C (vgr_18 (by decide)) (show (0 : Int32) = nI 0 from rfl) (by decide) (by decide) (fun _ _ => rfl) (vgr_o18 (by decide)) dX3_init_61 ?_
      refine x_aload_n C dX3_init_62 rfl ?_
      refine x_get C kf_X3_18 vgr_b rfl dX3_init_63 ?_
      refine x_iconst (v := 1) C dX3_init_66 (by decide) ?_
      refine x_iconst (v := 1) C dX3_init_67 (by decide) ?_
      refine x_iast2 C (vgr_18 (by decide)) (show (1 : Int32) = nI 1 from rfl) (by decide) (by decide) (fun _ _ => rfl) (vgr_o18 (by decide)) dX3_init_68 ?_
      refine x_aload_n C dX3_init_69 rfl ?_
      refine x_get C kf_X3_18 vgr_b rfl dX3_init_70 ?_
      refine x_iconst (v := 2) C dX3_init_73 (by decide) ?_
      refine x_bipush (v := 60) C dX3_init_74 (by decide) ?_
      refine x_iast2 C (vgr_18 (by decide)) (show (2 : Int32) = nI 2 from rfl) (by decide) (by decide) (fun _ _ => rfl) (vgr_o18 (by decide)) dX3_init_76 ?_
      refine x_aload_n C dX3_init_77 rfl ?_
      refine x_get C kf_X3_18 vgr_b rfl dX3_init_78 ?_
      refine x_iconst (v := 3) C dX3_init_81 (by decide) ?_
      refine x_bipush (v := 50) C dX3_init_82 (by decide) ?_
      refine x_iast2 C (vgr_18 (by decide)) (show (3 : Int32) = nI 3 from rfl) (by decide) (by decide) (fun _ _ => rfl) (vgr_o18 (by decide)) dX3_init_84 ?_
      refine x_aload_n C dX3_init_85 rfl ?_
      refine x_iconst (v := 1) C dX3_init_86 (by decide) ?_
      refine x_put (ty := .int) C kf_X3_25 vgr_b rfl (by decide +kernel) rfl rfl (Nat.le_of_ble_eq_true rfl) vgr_fs dX3_init_87 ?_
      rw [st_V0]
      refine x_contq vgr_1 (fun j hj => if_pos hj) vgr_e ?_
      refine xX.nn ?_ (show b + 19 + 1 = b + 20 from rfl) (Nat.le_refl _) (Nat.le_refl _)
      exact x_vret C Z dX3_init_90 (Nat.le_of_ble_eq_true rfl) (Nat.le_of_ble_eq_true rfl) rfl rfl
    · intro i hi ih
      refine x_iload_n C dX3_init_15 rfl ?_
      refine x_bipush (v := 8) C dX3_init_16 (by decide) ?_
      refine x_ic_ge C 40 dX3_init_18 (by decide) (fun h => absurd h (nI_ge (b := 8) hi (by omega))) (fun _ => ?_)
      refine x_aload_n C dX3_init_21 rfl ?_
      refine x_get C kf_X3_11 vgr_b rfl dX3_init_22 ?_
      refine x_iload_n C dX3_init_25 rfl ?_
      refine x_new (ci := 2) (q := (RX2, TX2, 4)) (fs := bl_X2) C rfl kc_X2 tyX2 tyX2_ok kcl_X3_9 kn_X2 ki_X2 bl_X2_ok (by omega) (by dsimp only; omega) rfl dX3_init_26 ?_
      refine xX.nn (b2 := _ + 4) ?_ rfl (Nat.le_refl _) (Nat.le_refl _)
      refine x_dup C dX3_init_29 rfl ?_
      refine x_callI C (c_X2_init (by omega) xup_s) kj_X2_init kl_X3_17 dX3_init_30 rfl rfl rfl rfl (Nat.le_of_ble_eq_true rfl) (Nat.le_of_ble_eq_true rfl) (Nat.le_of_ble_eq_true rfl) (by omega) (by omega) ?_
      refine x_aast2 (t0 := 2) C (by rw [xup_n (by omega), xup_n (by omega), xup_n (by omega)]; exact vgr_1) rfl xup_s rfl rfl hi (by decide) (va_grow (fun k => b + 2 + 2 * k)) (vgr_s hi) dX3_init_33 ?_
      refine x_iinc C dX3_init_34 rfl (nI_inc _) (by decide) rfl ?_
      refine x_goto C 15 dX3_init_37 (by decide) ?_
      refine xX.cl2 ih (by omega) (by omega) (by omega) rfl (And.intro rfl (And.intro rfl trivial)) rfl
  refine x_aload_n C dX3_init_0 rfl ?_
  refine x_obj C kl_X3_3 kz_oi kz_oc dX3_init_1 (Nat.le_of_ble_eq_true rfl) (Nat.le_of_ble_eq_true rfl) ?_
  refine x_aload_n C dX3_init_4 rfl ?_
  refine x_bipush (v := 8) C dX3_init_5 (by decide) ?_
  refine x_newq (n2 := 8) (t0 := 2) (Cn := RX2) C kcl_X3_9 ka_X2 rfl (by decide) rfl (Nat.le_of_ble_eq_true rfl) (Nat.le_of_ble_eq_true rfl) (Nat.le_of_ble_eq_true rfl) (vgr_0 h0) dX3_init_7 ?_
  refine x_putF (ty := (.array (.object "GesturePidgin$Speaker"))) C rfl kf_X3_11 vgr_b rfl rfl kfw_X3_11 (by decide +kernel) rfl rfl (Nat.le_of_ble_eq_true rfl) vgr_fs dX3_init_10 ?_
  refine x_iconst (v := 0) C dX3_init_13 (by decide) ?_
  refine x_istore_n C dX3_init_14 (by decide) rfl ?_
  refine xX.cl2 (hl 0 (by omega)) (by omega) (by omega) (by omega) rfl (And.intro rfl (And.intro rfl trivial)) rfl
set_option maxRecDepth 100000 in
set_option maxHeartbeats 1000000 in
theorem c_X1_init {l : Launch} {E : xEnv} {B : Nat} {h : Nat} {σ : Sg} (h0 : σ h = some (.inr (1, bl_X1))) : xM l yX1_init cX1_init 2 none 3 61 121 4434 E B [.ref h] (h + 1) σ (h + 122) (spt E σ h) none := by
  refine xM_of [some (.ref _), none] (by decide +kernel) (Nat.le_of_ble_eq_true rfl) rfl (fun k0 C Z => ?_)
  have hl : ∀ i, i ≤ 6 → xX k0 (h + 2 + 20 * i) (1 + 20 * i) (6 + 738 * i) (sgr E σ h i (bl_X1.set 0 (.ref (h + 1)))) 15 [some (.ref h), some (.int (nI i))] [] := by
    refine x_for 6 ?_ ?_
    · refine x_iload_n C dX1_init_15 rfl ?_
      refine x_bipush (v := 6) C dX1_init_16 (by decide) ?_
      refine x_ic_ge C 40 dX1_init_18 (by decide) (fun _ => ?_) (fun h => absurd (nI_le (a := 6) (Nat.le_refl _) (by omega)) h)
      refine x_contq sgr_1 (fun j hj => if_pos hj) rfl ?_
      refine xX.nn ?_ (show h + 2 + 20 * 6 = h + 122 from by omega) (Nat.le_refl _) (Nat.le_refl _)
      exact x_vret C Z dX1_init_40 (Nat.le_of_ble_eq_true rfl) (Nat.le_of_ble_eq_true rfl) rfl rfl
    · intro i hi ih
      refine x_iload_n C dX1_init_15 rfl ?_
      refine x_bipush (v := 6) C dX1_init_16 (by decide) ?_
      refine x_ic_ge C 40 dX1_init_18 (by decide) (fun h => absurd h (nI_ge (b := 6) hi (by omega))) (fun _ => ?_)
      refine x_aload_n C dX1_init_21 rfl ?_
      refine x_get C kf_X1_11 sgr_h rfl dX1_init_22 ?_
      refine x_iload_n C dX1_init_25 rfl ?_
      refine x_new (ci := 3) (q := (RX3, TX3, 8)) (fs := bl_X3) C rfl kc_X3 tyX3 tyX3_ok kcl_X1_9 kn_X3 ki_X3 bl_X3_ok (by omega) (by dsimp only; omega) rfl dX1_init_26 ?_
      refine xX.nn (b2 := _ + 8) ?_ rfl (Nat.le_refl _) (Nat.le_refl _)
      refine x_dup C dX1_init_29 rfl ?_
      refine x_callI C (c_X3_init xup_s) kj_X3_init kl_X1_17 dX1_init_30 rfl rfl rfl rfl (Nat.le_of_ble_eq_true rfl) (Nat.le_of_ble_eq_true rfl) (Nat.le_of_ble_eq_true rfl) (by omega) (by omega) ?_
      refine x_aast2 (t0 := 3) C (by rw [vput_out (by omega), xup_n (by omega)]; exact sgr_1) rfl vput_0 rfl rfl hi (by decide) (va_grow (fun k => h + 2 + 20 * k)) sgr_s dX1_init_33 ?_
      refine x_iinc C dX1_init_34 rfl (nI_inc _) (by decide) rfl ?_
      refine x_goto C 15 dX1_init_37 (by decide) ?_
      refine xX.cl2 ih (by omega) (by omega) (by omega) rfl (And.intro rfl (And.intro rfl trivial)) rfl
  refine x_aload_n C dX1_init_0 rfl ?_
  refine x_obj C kl_X1_3 kz_oi kz_oc dX1_init_1 (Nat.le_of_ble_eq_true rfl) (Nat.le_of_ble_eq_true rfl) ?_
  refine x_aload_n C dX1_init_4 rfl ?_
  refine x_bipush (v := 6) C dX1_init_5 (by decide) ?_
  refine x_newq (n2 := 6) (t0 := 3) (Cn := RX3) C kcl_X1_9 ka_X3 rfl (by decide) rfl (Nat.le_of_ble_eq_true rfl) (Nat.le_of_ble_eq_true rfl) (Nat.le_of_ble_eq_true rfl) (sgr_0 h0) dX1_init_7 ?_
  refine x_putF (ty := (.array (.object "GesturePidgin$Village"))) C rfl kf_X1_11 sgr_h rfl rfl kfw_X1_11 (by decide +kernel) rfl rfl (Nat.le_of_ble_eq_true rfl) sgr_fs dX1_init_10 ?_
  refine x_iconst (v := 0) C dX1_init_13 (by decide) ?_
  refine x_istore_n C dX1_init_14 (by decide) rfl ?_
  refine xX.cl2 (hl 0 (by omega)) (by omega) (by omega) (by omega) rfl (And.intro rfl (And.intro rfl trivial)) rfl
set_option maxRecDepth 100000 in
set_option maxHeartbeats 1000000 in
theorem c_X4_init {l : Launch} {E : xEnv} {B : Nat} {σ : Sg} : xM l yX4_init cX4_init 1 none 4 82 164 5995 E B [.ref B] (B + 1) (xup σ B (.inr (4, bl_X4))) (B + 165) (cput E σ B (fun _ => V0) (nI 0) (nI 0) (nI 0) (fun _ => 0)) none := by
  refine xM_of [some (.ref _)] (by decide +kernel) (Nat.le_of_ble_eq_true rfl) rfl (fun k0 C Z => ?_)
  refine x_aload_n C dX4_init_0 rfl ?_
  refine x_obj C kl_X4_1 kz_oi kz_oc dX4_init_1 (Nat.le_of_ble_eq_true rfl) (Nat.le_of_ble_eq_true rfl) ?_
  refine x_aload_n C dX4_init_4 rfl ?_
  refine x_new (ci := 3) (q := (RX3, TX3, 8)) (fs := bl_X3) C rfl kc_X3 tyX3 tyX3_ok kcl_X4_7 kn_X3 ki_X3 bl_X3_ok (Nat.le_of_ble_eq_true rfl) (Nat.le_of_ble_eq_true rfl) rfl dX4_init_5 ?_
  refine x_dup C dX4_init_8 rfl ?_
  refine x_callI C (c_X3_init xup_s) kj_X3_init kl_X4_9 dX4_init_9 rfl rfl rfl rfl (Nat.le_of_ble_eq_true rfl) (Nat.le_of_ble_eq_true rfl) (Nat.le_of_ble_eq_true rfl) (Nat.le_of_ble_eq_true rfl) (Nat.le_of_ble_eq_true rfl) ?_
  refine x_putF (ty := (.object "GesturePidgin$Village")) C rfl kf_X4_10 (by rw [vput_out (by omega), xup_n (by omega)]; exact xup_s) rfl rfl kfw_X4_10 (by decide +kernel) rfl rfl (Nat.le_of_ble_eq_true rfl) rfl dX4_init_12 ?_
  refine x_aload_n C dX4_init_15 rfl ?_
  refine xX.nn ?_ (show B + 1 + 20 = B + 21 from rfl) (Nat.le_refl _) (Nat.le_refl _)
  refine x_new (ci := 3) (q := (RX3, TX3, 8)) (fs := bl_X3) C rfl kc_X3 tyX3 tyX3_ok kcl_X4_7 kn_X3 ki_X3 bl_X3_ok (Nat.le_of_ble_eq_true rfl) (Nat.le_of_ble_eq_true rfl) rfl dX4_init_16 ?_
  refine x_dup C dX4_init_19 rfl ?_
  refine x_callI C (c_X3_init xup_s) kj_X3_init kl_X4_9 dX4_init_20 rfl rfl rfl rfl (Nat.le_of_ble_eq_true rfl) (Nat.le_of_ble_eq_true rfl) (Nat.le_of_ble_eq_true rfl) (Nat.le_of_ble_eq_true rfl) (Nat.le_of_ble_eq_true rfl) ?_
  refine x_putF (ty := (.object "GesturePidgin$Village")) C rfl kf_X4_16 (by rw [vput_out (by omega), xup_n (by omega)]; exact xup_s) rfl rfl kfw_X4_16 (by decide +kernel) rfl rfl (Nat.le_of_ble_eq_true rfl) rfl dX4_init_23 ?_
  refine x_aload_n C dX4_init_26 rfl ?_
  refine xX.nn ?_ (show B + 21 + 20 = B + 41 from rfl) (Nat.le_refl _) (Nat.le_refl _)
  refine x_new (ci := 1) (q := (RX1, TX1, 3)) (fs := bl_X1) C rfl kc_X1 tyX1 tyX1_ok kcl_X4_19 kn_X1 ki_X1 bl_X1_ok (Nat.le_of_ble_eq_true rfl) (Nat.le_of_ble_eq_true rfl) rfl dX4_init_27 ?_
  refine x_dup C dX4_init_30 rfl ?_
  refine x_callI C (c_X1_init xup_s) kj_X1_init kl_X4_21 dX4_init_31 rfl rfl rfl rfl (Nat.le_of_ble_eq_true rfl) (Nat.le_of_ble_eq_true rfl) (Nat.le_of_ble_eq_true rfl) (Nat.le_of_ble_eq_true rfl) (Nat.le_of_ble_eq_true rfl) ?_
  refine x_putF (ty := (.object "GesturePidgin$SavedStates")) C rfl kf_X4_22 (by rw [spt_out (by omega), xup_n (by omega)]; exact xup_s) rfl rfl kfw_X4_22 (by decide +kernel) rfl rfl (Nat.le_of_ble_eq_true rfl) rfl dX4_init_34 ?_
  refine x_aload_n C dX4_init_37 rfl ?_
  refine xX.nn ?_ (show B + 41 + 122 = B + 163 from rfl) (Nat.le_refl _) (Nat.le_refl _)
  refine x_new (ci := 0) (q := (RX0, TX0, 2)) (fs := bl_X0) C rfl kc_X0 tyX0 tyX0_ok kcl_X4_26 kn_X0 ki_X0 bl_X0_ok (Nat.le_of_ble_eq_true rfl) (Nat.le_of_ble_eq_true rfl) rfl dX4_init_38 ?_
  refine x_dup C dX4_init_41 rfl ?_
  refine x_callI C (c_X0_init xup_s) kj_X0_init kl_X4_28 dX4_init_42 rfl rfl rfl rfl (Nat.le_of_ble_eq_true rfl) (Nat.le_of_ble_eq_true rfl) (Nat.le_of_ble_eq_true rfl) (Nat.le_of_ble_eq_true rfl) (Nat.le_of_ble_eq_true rfl) ?_
  refine x_putF (ty := (.object "GesturePidgin$HabitText")) C rfl kf_X4_29 (by rw [xup_n (by omega), xup_n (by omega), xup_n (by omega)]; exact xup_s) rfl rfl kfw_X4_29 (by decide +kernel) rfl rfl (Nat.le_of_ble_eq_true rfl) rfl dX4_init_45 ?_
  refine xX.nn ?_ (show B + 163 + 2 = B + 165 from rfl) (Nat.le_refl _) (Nat.le_refl _)
  exact x_vret C Z dX4_init_48 (Nat.le_of_ble_eq_true rfl) (Nat.le_of_ble_eq_true rfl) rfl cnew
end
section
/-! lemmas of the village, as whole has them -/
theorem cl_lo {v : Int32} (h : ¬ 0 ≤ v) : clS v = 0 := by
  unfold clS
  have h1 : v < 0 := Int32.not_le.mp h
  have h2 : v < 99 := Int32.lt_trans h1 (by decide)
  rw [if_pos h2, if_neg (fun z => h (Int32.le_of_lt z))]
theorem cl_mid {v : Int32} (h : 0 ≤ v) (h2 : v ≤ 99) : clS v = v := by
  unfold clS
  by_cases e : v < 99
  · rw [if_pos e]
    by_cases e2 : 0 < v
    · rw [if_pos e2]
    · rw [if_neg e2]; exact Int32.le_antisymm h (Int32.not_lt.mp e2)
  · rw [if_neg e, if_pos (by decide)]; exact Int32.le_antisymm (Int32.not_lt.mp e) h2
theorem cl_hi {v : Int32} (h2 : ¬ v ≤ 99) : clS v = 99 := by
  unfold clS
  have e : ¬ v < 99 := fun z => h2 (Int32.le_of_lt z)
  rw [if_neg e, if_pos (by decide)]
theorem cl_rg (x : Int32) : 0 ≤ clS x ∧ clS x ≤ 99 := by
  by_cases h : 0 ≤ x
  · by_cases h2 : x ≤ 99
    · rw [cl_mid h h2]; exact ⟨h, h2⟩
    · rw [cl_hi h2]; exact ⟨by decide, by decide⟩
  · rw [cl_lo h]; exact ⟨by decide, by decide⟩
theorem cl_cl (x : Int32) : clS (clS x) = clS x := cl_mid (cl_rg x).1 (cl_rg x).2
theorem cl_n (x : Int32) : ∃ a, a ≤ 99 ∧ clS x = nI a := by
  have h := cl_rg x
  rcases pk_ix (clS x) (n := 100) (by decide) with h1 | h1 | ⟨a, h1, h2⟩
  · exact absurd h1 (Int32.not_lt.mpr h.1)
  · exact absurd (Int32.le_trans h1 h.2) (by decide)
  · exact ⟨a, by omega, h2⟩
theorem cl_nI {a : Nat} (h : a ≤ 99) : clS (nI a) = nI a := cl_mid (nI_pos' (by omega)) (nI_le (b := 99) h (by decide))
/-- weights and share are in their ranges -/
def rgW (U : Vs) : Prop := (∀ t, t < 8 → ∀ j, j < 84 → clS (U t j) = U t j) ∧ ∃ b, b ≤ 100 ∧ U 8 3 = nI b
theorem rg_sh {U : Vs} (h : rgW U) {t j : Nat} (ht : t < 8) (hj : j < 84) : clS (U t j * U 8 3 / 100) = U t j * U 8 3 / 100 := by
  obtain ⟨h1, b, hb, e⟩ := h
  obtain ⟨a, ha, e2⟩ := cl_n (U t j)
  rw [h1 t ht j hj] at e2
  have hab : a * b ≤ 99 * 100 := Nat.mul_le_mul ha hb
  rw [e, e2, pk_mul, show (100 : Int32) = nI 100 from rfl, pk_div (by omega) (by decide) (by decide)]
  exact cl_nI (by omega)
theorem blS_q {U : Vs} {c r : Nat} {t : Option Nat} {sh : Int32} (h : r ≠ c) (h1 : r ≠ 11) (h2 : r ≠ 12) : blS U c t sh r = U r := by
  funext j
  unfold blS blL
  rw [if_neg (fun z => h1 z.1), if_neg (fun z => h2 z.1), if_neg (fun z => h z.1)]
theorem byK_rg {W : Vs} {i : Nat} (hi : i < 8) (h : rgW W) : rgW (byK W i) := by
  unfold byK
  by_cases hc : W 10 i = 1 ∧ ¬ W 11 i ≤ W 8 2
  · rw [if_pos hc]
    refine ⟨fun t ht j hj => ?_, ?_⟩
    · rw [up2_r (show t ≠ 9 by omega)]
      unfold blS blL
      rw [if_neg (by omega), if_neg (by omega)]
      by_cases h3 : t = i ∧ j < 84
      · rw [if_pos h3, cl_cl]
      · rw [if_neg h3]; exact h.1 t ht j hj
    · rw [up2_r (show (8 : Nat) ≠ 9 by decide), blS_q (by omega) (by decide) (by decide)]
      exact h.2
  · rw [if_neg hc]; exact h
theorem agL_rg {W : Vs} {i : Nat} (h : rgW W) : rgW (agL W i) := by
  refine ⟨fun t ht j hj => ?_, ?_⟩
  · rw [agL_10 (show t ≠ 11 by omega)]; exact h.1 t ht j hj
  · rw [agL_10 (show (8 : Nat) ≠ 11 by decide)]; exact h.2
theorem byL_rg {W : Vs} (h : rgW W) : ∀ n, n ≤ 8 → rgW (byL W n)
  | 0, _ => h
  | n + 1, hn => byK_rg (by omega) (byL_rg h n (by omega))
theorem yrL_rg {U : Vs} (h : rgW U) : ∀ n, rgW (yrL U n)
  | 0 => h
  | n + 1 => by
    have g := yrL_rg h n
    show rgW (yrS (yrL U n))
    unfold yrS
    refine byL_rg (agL_rg ⟨fun t ht j hj => ?_, ?_⟩) 8 (Nat.le_refl _)
    · rw [up2_r (show t ≠ 9 by omega)]; exact g.1 t ht j hj
    · rw [up2_r (show (8 : Nat) ≠ 9 by decide)]; exact g.2
def inS (r j : Nat) : Prop := r < 9 ∨ (r = 9 ∧ j < 5) ∨ ((r = 10 ∨ r = 11 ∨ r = 12) ∧ j < 8)
theorem cp_in {V W : Vs} {r j : Nat} (h : inS r j) : cpV V W r j = W r j := by
  rcases h with h | ⟨rfl, h⟩ | ⟨h, hj⟩
  · by_cases e8 : r = 8
    · subst e8; rw [cpV_8]
    · rw [cpV_w (by omega)]
  · exact cpV_9 h
  · exact cpV_k h hj
theorem smL_cg {f g : Fn} : ∀ {n : Nat}, (∀ j, j < n → f j = g j) → smL f n = smL g n
  | 0, _ => rfl
  | n + 1, h => by rw [smL, smL, smL_cg (fun j hj => h j (by omega)), h n (by omega)]
theorem smL_add (g : Fn) (a : Nat) : ∀ b, smL g (a + b) = smL g a + smL (fun q => g (a + q)) b
  | 0 => by rw [Nat.add_zero]; exact (Int32.add_zero _).symm
  | b + 1 => by
    show smL g (a + b) + g (a + b) = smL g a + (smL (fun q => g (a + q)) b + g (a + b))
    rw [smL_add g a b, Int32.add_assoc]
theorem smL_z {g : Fn} : ∀ {n : Nat}, (∀ j, j < n → g j = 0) → smL g n = 0
  | 0, _ => rfl
  | n + 1, h => by rw [smL, smL_z (fun j hj => h j (by omega)), h n (by omega)]; rfl
/-- the agreement, counted by words and by meanings -/
def awX (V : Vs) (a b n : Nat) : Nat → Nat
  | 0 => 0
  | w + 1 => awX V a b n w + (if wfS (V a) n = some w ∧ wfS (V b) n = some w then 1 else 0)
theorem awX_e {V : Vs} {a b n : Nat} : ∀ W, awX V a b n W = if ∃ w, w < W ∧ wfS (V a) n = some w ∧ wfS (V b) n = some w then 1 else 0
  | 0 => by
    rw [if_neg (by rintro ⟨w, h, -⟩; omega)]
    rfl
  | W + 1 => by
    rw [awX, awX_e W]
    by_cases h : wfS (V a) n = some W ∧ wfS (V b) n = some W
    · rw [if_pos h, if_pos (show ∃ w, w < W + 1 ∧ wfS (V a) n = some w ∧ wfS (V b) n = some w from ⟨W, by omega, h⟩), if_neg]
      rintro ⟨w, h1, h2, -⟩
      rw [h.1] at h2
      cases h2
      omega
    · rw [if_neg h]
      by_cases g : ∃ w, w < W ∧ wfS (V a) n = some w ∧ wfS (V b) n = some w
      · rw [if_pos g, if_pos]
        obtain ⟨w, h1, h2⟩ := g
        exact ⟨w, by omega, h2⟩
      · rw [if_neg g, if_neg]
        rintro ⟨w, h1, h2⟩
        by_cases e : w = W
        · subst e; exact h h2
        · exact g ⟨w, by omega, h2⟩
theorem aw_s {V : Vs} {a b : Nat} : ∀ W, awN V a b W = awX V a b 0 W + awX V a b 1 W + awX V a b 2 W + awX V a b 3 W + awX V a b 4 W + awX V a b 5 W
  | 0 => rfl
  | W + 1 => by
    have e : awI V a b W 6 = 0 + (if wfS (V a) 0 = some W ∧ wfS (V b) 0 = some W then 1 else 0) + (if wfS (V a) 1 = some W ∧ wfS (V b) 1 = some W then 1 else 0) + (if wfS (V a) 2 = some W ∧ wfS (V b) 2 = some W then 1 else 0) + (if wfS (V a) 3 = some W ∧ wfS (V b) 3 = some W then 1 else 0) + (if wfS (V a) 4 = some W ∧ wfS (V b) 4 = some W then 1 else 0) + (if wfS (V a) 5 = some W ∧ wfS (V b) 5 = some W then 1 else 0) := rfl
    rw [awN, aw_s W, e, awX, awX, awX, awX, awX, awX]
    omega
theorem aw_t {V : Vs} {a b n : Nat} : awX V a b n 14 = if wfS (V a) n ≠ none ∧ wfS (V a) n = wfS (V b) n then 1 else 0 := by
  rw [awX_e]
  by_cases g : ∃ w, w < 14 ∧ wfS (V a) n = some w ∧ wfS (V b) n = some w
  · rw [if_pos g]
    obtain ⟨w, -, h1, h2⟩ := g
    rw [if_pos]
    rw [h1, h2]
    exact ⟨by simp, rfl⟩
  · rw [if_neg g, if_neg]
    rintro ⟨h1, h2⟩
    cases h : wfS (V a) n with
    | none => exact h1 h
    | some w => exact g ⟨w, wfS_in h, h, by rw [← h2]; exact h⟩
theorem aw_e {V : Vs} {a b : Nat} : awN V a b 14 = agN V a b 6 := by
  rw [aw_s, aw_t, aw_t, aw_t, aw_t, aw_t, aw_t]
  have e : agN V a b 6 = 0 + (if wfS (V a) 0 ≠ none ∧ wfS (V a) 0 = wfS (V b) 0 then 1 else 0) + (if wfS (V a) 1 ≠ none ∧ wfS (V a) 1 = wfS (V b) 1 then 1 else 0) + (if wfS (V a) 2 ≠ none ∧ wfS (V a) 2 = wfS (V b) 2 then 1 else 0) + (if wfS (V a) 3 ≠ none ∧ wfS (V a) 3 = wfS (V b) 3 then 1 else 0) + (if wfS (V a) 4 ≠ none ∧ wfS (V a) 4 = wfS (V b) 4 then 1 else 0) + (if wfS (V a) 5 ≠ none ∧ wfS (V a) 5 = wfS (V b) 5 then 1 else 0) := rfl
  rw [e, Nat.zero_add]
/-- the model's ranges are kept -/
def IU (U : Vs) : Prop := rgW U ∧ sok U
theorem rg_up {U : Vs} {r j : Nat} {x : Int32} (hr : 9 ≤ r) (h : rgW U) : rgW (up2 U r j x) := by
  refine ⟨fun t ht q hq => ?_, ?_⟩
  · rw [up2_r (show t ≠ r by omega)]; exact h.1 t ht q hq
  · rw [up2_r (show 8 ≠ r by omega)]; exact h.2
theorem sk_up {U : Vs} {r j : Nat} {x : Int32} (hr : ¬ (r = 9 ∧ j = 0)) (h : sok U) : sok (up2 U r j x) := by
  obtain ⟨q, hq, e⟩ := h
  exact ⟨q, hq, by rw [up2_n (by omega)]; exact e⟩
theorem iu_up {U : Vs} {r j : Nat} {x : Int32} (hr : 9 ≤ r) (h2 : ¬ (r = 9 ∧ j = 0)) (h : IU U) : IU (up2 U r j x) := ⟨rg_up hr h.1, sk_up h2 h.2⟩
theorem rg_of {U U2 : Vs} (h : rgW U) (h8 : U2 8 = U 8) (hc : ∀ t, t < 8 → ∀ j, j < 84 → (∃ x, U2 t j = clS x) ∨ U2 t j = U t j) : rgW U2 := by
  refine ⟨fun t ht j hj => ?_, by rw [h8]; exact h.2⟩
  rcases hc t ht j hj with ⟨x, e⟩ | e
  · rw [e, cl_cl]
  · rw [e]; exact h.1 t ht j hj
theorem rg_pr {U : Vs} {k m w : Nat} {a x : Int32} (hk : k < 8) (h : rgW U) : rgW (prS U k m w a x) := by
  refine rg_of h (prS_r (by omega)) (fun t _ j _ => ?_)
  unfold prS prL
  by_cases h1 : t = k ∧ j = 14 * m + w
  · rw [if_pos h1]; exact Or.inl ⟨_, rfl⟩
  · rw [if_neg h1]
    by_cases h2 : t = k ∧ 14 * m ≤ j ∧ j < 14 * m + 14
    · rw [if_pos h2]; exact Or.inl ⟨_, rfl⟩
    · rw [if_neg h2]; exact Or.inr rfl
theorem rg_fm {U : Vs} {k m w : Nat} {x : Int32} (hk : k < 8) (h : rgW U) : rgW (fmS U k m w x) := by
  refine rg_of h (fmS_r (by omega)) (fun t _ j _ => ?_)
  unfold fmS fmL
  by_cases h1 : t = k ∧ j % 14 = w ∧ j / 14 < 6 ∧ j / 14 ≠ m
  · rw [if_pos h1]; exact Or.inl ⟨_, rfl⟩
  · rw [if_neg h1]; exact Or.inr rfl
theorem rg_w {U : Vs} {k q : Nat} {x : Int32} (hk : k < 8) (hx : clS x = x) (h : rgW U) : rgW (up2 U k q x) := by
  refine rg_of h (up2_r (by omega)) (fun t _ j _ => ?_)
  by_cases h1 : t = k ∧ j = q
  · rw [h1.1, h1.2, up2_s]; exact Or.inl ⟨x, hx.symm⟩
  · rw [up2_n h1]; exact Or.inr rfl
theorem rg_ch {U : Vs} {k m w : Nat} {d : Int32} (hk : k < 8) (h : rgW U) : rgW (chS U k m w d) := rg_w hk (cl_cl _) h
theorem rg_dr {U : Vs} (h : rgW U) : rgW (drV U) := rg_up (Nat.le_refl _) h
theorem rg_mt {U : Vs} {k1 k2 m : Nat} (h1 : k1 < 8) (h2 : k2 < 8) (h : rgW U) : rgW (mtV U k1 k2 m) := by
  have a : rgW (wdN U k1 m).1 := by
    unfold wdN
    split
    · exact rg_dr h
    · exact h
  have b : rgW (mt1 U k1 k2 m).1 := by
    dsimp only [mt1]
    generalize (wdN U k1 m).1 = A at a
    unfold hdN
    split
    · exact rg_dr a
    · exact a
  unfold mtV
  generalize (mt1 U k1 k2 m).1 = A at b
  have c : rgW (mtC A k1 k2) := rg_up (by decide) (rg_up (by decide) (rg_up (by decide) b))
  unfold mtF
  split
  · exact rg_fm h2 (rg_pr h2 (rg_pr h1 (rg_up (by decide) c)))
  · exact rg_ch h2 (rg_ch h2 (rg_ch h1 c))
theorem iu_mt {U : Vs} {k1 k2 m : Nat} (h1 : k1 < 8) (h2 : k2 < 8) (h : IU U) : IU (mtV U k1 k2 m) := ⟨rg_mt h1 h2 h.1, mtV_ok h1 h2 h.2⟩
theorem by90 {W : Vs} : ∀ n, n ≤ 8 → byL W n 9 0 = W 9 0
  | 0, _ => rfl
  | n + 1, hn => by
    rw [byL]
    unfold byK
    split
    · rw [up2_n (by omega), blS_q (by omega) (by decide) (by decide), by90 n (by omega)]
    · exact by90 n (by omega)
theorem iu_yr {U : Vs} (h : IU U) : ∀ n, IU (yrL U n)
  | 0 => h
  | n + 1 => by
    refine ⟨yrL_rg h.1 (n + 1), ?_⟩
    obtain ⟨q, hq, e⟩ := (iu_yr h n).2
    refine ⟨q, hq, ?_⟩
    show yrS (yrL U n) 9 0 = nI q
    unfold yrS
    rw [by90 8 (Nat.le_refl _), agL_10 (by decide), up2_n (by omega), e]
end
section
/-! rows that this law wants beside the kit's own; the script seen by a callee; the law's own arrays -/
section XN
variable {k : xT} {l : Launch} {E : xEnv} {B : Nat} {cc : ByteArray} {nL : Nat} {ret : Option FieldType} {own mn : String} {fr lo ce sl N a b : Nat} {σ : Sg} {pc : Nat} {lv : List (Option Value)} {st : List Value}
theorem x_land (C : xC k l E B cc nL ret own mn fr lo ce sl) {x y : Int64} (d : decode cc pc = .ok (.land, 1))
    (kk : xX k N a b σ (pc + 1) lv (.long (x &&& y) :: st)) : xX k N a b σ pc lv (.long y :: .long x :: st) := by
  obtain ⟨p, l0, e, R, s, m, args, below, meth, c, Q, E0, B0, nL0⟩ := k
  obtain ⟨rfl, rfl, rfl, rfl, hx, hb, hml, hown, hts, hk, ⟨hR1, hR2, hR3, hR4⟩, hr, hlk, hmn, hBs⟩ := C
  intro H locs ls hh hS hl
  exact lv_land hx hb d (kk H locs ls hh hS hl)
theorem x_l2i (C : xC k l E B cc nL ret own mn fr lo ce sl) {x : Int64} (d : decode cc pc = .ok (.l2i, 1))
    (kk : xX k N a b σ (pc + 1) lv (.int x.toInt32 :: st)) : xX k N a b σ pc lv (.long x :: st) := by
  obtain ⟨p, l0, e, R, s, m, args, below, meth, c, Q, E0, B0, nL0⟩ := k
  obtain ⟨rfl, rfl, rfl, rfl, hx, hb, hml, hown, hts, hk, ⟨hR1, hR2, hR3, hR4⟩, hr, hlk, hmn, hBs⟩ := C
  intro H locs ls hh hS hl
  exact lv_l2i hx hb d rfl (kk H locs ls hh hS hl)
theorem x_areta {at1 : FieldType} {N2 : Nat} {σ2 : Sg} (C : xC k l E B cc nL (some (.array at1)) own mn fr lo ce sl) {v v2 : Value} (Z : xZ k ce sl N2 σ2 (some v2)) (d : decode cc pc = .ok (.areturn, 1)) (hvr : v = .null ∨ ∃ a, v = .ref a) (ha : a ≤ ce) (hb2 : b ≤ sl) (hN : N = N2) (hs : σ = σ2) (hv : v = v2) : xX k N a b σ pc lv [v] := by
  obtain ⟨p, l0, e, R, s, m, args, below, meth, c, Q, E0, B0, nL0⟩ := k
  obtain ⟨rfl, rfl, rfl, rfl, hx, hb, hml, hown, hts, hk, ⟨hR1, hR2, hR3, hR4⟩, hr, hlk, hmn, hBs⟩ := C
  subst hN; subst hs; subst hv
  have Z : Q = _ := Z
  subst Z
  intro H locs ls hh hS hl
  refine W.widen ha hb2 ?_
  exact W.aret hx hb hr (Or.inr ⟨_, rfl⟩) hvr (fun t ht hW => ⟨rfl, by rw [ht]; exact hh, xk.moved hW hk, hS.F ht⟩) hS.2.2 d hlk
/-- cells that are no longer asked -/
theorem xX.fg {σ2 : Sg} (h : ∀ q e, σ2 q = some e → σ q = some e) (kk : xX k N a b σ2 pc lv st) : xX k N a b σ pc lv st := by
  obtain ⟨p, l0, e, R, s, m, args, below, meth, c, Q, E0, B0, nL0⟩ := k
  intro H locs ls hh hS hl
  exact kk H locs ls ⟨hh.1, hh.2.1, fun q e z => hh.2.2 q e (h q e z)⟩ hS hl
/-- two ways that meet at pc M with one value on the stack -/
theorem xX.mrg (M : Nat) (v : Int32) (hm : xX k N a b σ M lv (.int v :: st) → xX k N a b σ pc lv st) (kk : xX k N a b σ M lv (.int v :: st)) : xX k N a b σ pc lv st := hm kk
theorem xX.vl {v v2 : Int32} (kk : xX k N a b σ pc lv (.int v :: st)) (h : v = v2) : xX k N a b σ pc lv (.int v2 :: st) := h ▸ kk
end XN
def xScr (k : xT) (bb L : Nat) (xs : Nat → Int32) : Prop := match k with
  | (_, _, _, _, s, _, _, _, _, _, _, _, B, _) => va_X bb L xs s s.heap ∧ bb < B
section XL
variable {k : xT} {l : Launch} {E : xEnv} {B : Nat} {cc : ByteArray} {nL : Nat} {ret : Option FieldType} {own mn : String} {fr lo ce sl N a b : Nat} {σ : Sg} {pc : Nat} {lv : List (Option Value)} {st : List Value} {bb L : Nat} {xs : Nat → Int32}
theorem x_sld (C : xC k l E B cc nL ret own mn fr lo ce sl) (hX : xScr k bb L xs) {i : Int32} {q : Nat} (hi : i = nI q) (hq : q < L) (hL : L < 2 ^ 31) (d : decode cc pc = .ok (.iaload, 1))
    (kk : xX k N a b σ (pc + 1) lv (.int (xs q) :: st)) : xX k N a b σ pc lv (.int i :: .ref bb :: st) := by
  obtain ⟨p, l0, e, R, s, m, args, below, meth, c, Q, E0, B0, nL0⟩ := k
  obtain ⟨rfl, rfl, rfl, rfl, hx, hb, hml, hown, hts, hk, ⟨hR1, hR2, hR3, hR4⟩, hr, hlk, hmn, hBs⟩ := C
  obtain ⟨X1, X2⟩ := hX
  subst hi
  intro H locs ls hh hS hl
  refine va_sld hx hb X1 (Nat.lt_of_lt_of_le X2 hBs) (Nat.not_le.mpr X2) hS (vp_in_nI hq hL) d ?_
  rw [nI_clamp (by omega)]
  exact kk H locs ls hh hS hl
theorem x_slen (C : xC k l E B cc nL ret own mn fr lo ce sl) (hX : xScr k bb L xs) (d : decode cc pc = .ok (.arraylength, 1))
    (kk : xX k N a b σ (pc + 1) lv (.int (nI L) :: st)) : xX k N a b σ pc lv (.ref bb :: st) := by
  obtain ⟨p, l0, e, R, s, m, args, below, meth, c, Q, E0, B0, nL0⟩ := k
  obtain ⟨rfl, rfl, rfl, rfl, hx, hb, hml, hown, hts, hk, ⟨hR1, hR2, hR3, hR4⟩, hr, hlk, hmn, hBs⟩ := C
  obtain ⟨X1, X2⟩ := hX
  intro H locs ls hh hS hl
  exact va_slen hx hb X1 (Nat.lt_of_lt_of_le X2 hBs) (Nat.not_le.mpr X2) hS d (kk H locs ls hh hS hl)
end XL
/-- a contract of a method that reads the script -/
def xMs (l : Launch) (y : MethodName) (cc : ByteArray) (nL : Nat) (ret : Option FieldType) (fr lo ce sl : Nat) (E : xEnv) (B : Nat) (bb L : Nat) (xs : Nat → Int32) (av : List Value) (N : Nat) (σ : Sg) (N2 : Nat) (σ2 : Sg) (oc : Option Value) : Prop :=
  Met l y (.code y cc nL ret :: xG) { frames := fr, cells := ce, slots := sl, locals := lo } (va_Pc av (fun U => (xh E B N σ U.heap ∧ xk E U) ∧ va_X bb L xs U U.heap)) (xQc E B N2 σ2 oc) ce sl (fun q => B ≤ q)
theorem xMs_of {l : Launch} {y : MethodName} {cc : ByteArray} {nL : Nat} {ret : Option FieldType} {fr lo ce sl : Nat} {E : xEnv} {B bb L : Nat} {xs : Nat → Int32} {av : List Value} {N : Nat} {σ : Sg} {N2 : Nat} {σ2 : Sg} {oc : Option Value} (hbb : bb < B) (lv0 : List (Option Value)) (hy : plainName y.cls = true) (hlen : (lg_sl av).length ≤ nL) (ha : xL 0 lv0 = lv_args 0 av)
    (body : ∀ k : xT, xC k l E B cc nL ret y.cls y.name fr lo ce sl → xZ k ce sl N2 σ2 oc → xScr k bb L xs → xX k N 0 0 σ 0 lv0 []) : xMs l y cc nL ret fr lo ce sl E B bb L xs av N σ N2 σ2 oc := by
  refine Met.ofW (cc := cc) (maxL := nL) (ret := ret) hy rfl ?_
  intro p e s m args below meth c s₁ Bd hml hv
  obtain ⟨rfl, ⟨hh, hk⟩, hX⟩ := hv
  have hts := atoms_spec (ws := .code y cc nL ret :: xG) Bd.pre
  have h := body (p, l, e, { frames := fr, cells := ce, slots := sl, locals := lo }, s, m, av.toArray, below, meth, c, MQ below (xQc E B N2 σ2 oc) av.toArray s ce sl (fun q => B ≤ q), E, B, nL) ⟨rfl, rfl, rfl, rfl, Bd.exec, Bd.bytes, hml, findClass_of_methodNamed Bd.named, fun w hw => hts w (List.mem_cons_of_mem _ hw), hk, ⟨rfl, rfl, rfl, rfl⟩, Bd.returns, Bd.notSynchronized, (name_of_methodNamed Bd.named Bd.method).1, by rw [hh.1]; exact hh.2.1⟩ rfl ⟨hX, hbb⟩
  rw [lg_entry_eq]
  have hl := lv_entry av (n := nL) hlen
  rw [← ha] at hl
  exact h s.heap [] _ hh va_S.rf hl
theorem x_pres {E : xEnv} {B N bb L : Nat} {xs : Nat → Int32} {σ : Sg} {av : List Value} : FrameBlind (va_Pc av (fun U => (xh E B N σ U.heap ∧ xk E U) ∧ va_X bb L xs U U.heap)) := fun a U g mk q => ⟨q.1, ⟨q.2.1.1, xk.same (u := U) (U := U.calling g mk a) rfl q.2.1.2⟩, va_X.moved (u := U) (U := U.calling g mk a) (Vm.Alike.refl _) q.2.2⟩
section XRS
variable {k : xT} {l : Launch} {E : xEnv} {B : Nat} {cc : ByteArray} {nL : Nat} {ret : Option FieldType} {own mn : String} {fr lo ce sl N a b : Nat} {σ : Sg} {pc : Nat} {lv : List (Option Value)} {st : List Value}
variable {y : MethodName} {cc2 : ByteArray} {nL2 : Nat} {ret2 : Option FieldType} {fr2 lo2 ce2 sl2 : Nat} {As : List Value} {N2 : Nat} {σ1 σ2 σ3 : Sg} {oc : Option Value} {idx n b0 : Nat} {st0 : List Value}
theorem x_callSs {bb L : Nat} {xs : Nat → Int32} (C : xC k l E B cc nL ret own mn fr lo ce sl) (hX : xScr k bb L xs) (hM : xMs l y cc2 nL2 ret2 fr2 lo2 ce2 sl2 E B bb L xs As N σ1 N2 σ2 oc) (hY : xYs y cc2 nL2 ret2 n) (hl0 : xLk own idx y) (d : decode cc pc = .ok (.invokestatic idx, 3)) (hs1 : σ = σ1) (hs2 : σ2 = σ3) (hn : As.length = n) (hst : st0 = As.reverse ++ st) (hcat : (st.map fun v => v.category).sum ≤ 8) (hr1 : fr2 + 1 ≤ fr) (hr2 : 8 + (nL2 + 11) + lo2 ≤ lo) (hr3 : a + ce2 ≤ ce) (hr4 : b + sl2 ≤ sl)
    (kk : xX k N2 (a + ce2) (b + sl2) σ3 (pc + 3) lv (oc.toList ++ st)) : xX k N a b σ pc lv st0 := by
  obtain ⟨p, l0, e, R, s, m, args, below, meth, c, Q, E0, B0, nL0⟩ := k
  obtain ⟨rfl, rfl, rfl, rfl, hx, hb, hml, hown, hts, hk, ⟨hR1, hR2, hR3, hR4⟩, hr, hlk, hmn, hBs⟩ := C
  obtain ⟨X1, X2⟩ := hX
  subst hs1; subst hs2; subst hst
  obtain ⟨w1, w3, w4, w5, w6, w7⟩ := hY
  intro H locs ls hh hS hl
  have hpv : PreS s H (va_Pc As (fun U => (xh E0 B0 N σ U.heap ∧ xk E0 U) ∧ va_X bb L xs U U.heap)) As := ⟨x_pres, fun U hU hW => ⟨rfl, ⟨by rw [hU]; exact hh, xk.moved hW hk⟩, by rw [hU]; exact va_X.moved hW.alike (X1.kept (hS.2.1 bb (Nat.lt_of_lt_of_le X2 hBs) (Nat.not_le.mpr X2)))⟩⟩
  have hlen : ∀ sig, parseMethodDescriptor y.desc = some sig → n = sig.parameters.length := fun sig h => by
    rw [h] at w7
    exact (Option.some.inj w7).symm
  rcases hl0 with h | ⟨host, h⟩
  · have hrun := va_runS (e := e) (meth := meth) (below := below) (H := H) (locs := locs) (cells := a) (slots := b) (rest := st) (g := F0 m pc ls (As.reverse ++ st)) ⟨hx, hb, hml, hown, hts⟩ hM (index := idx) ⟨⟨rfl, rfl, by rw [hR1]; exact hr1, by rw [hR2]; exact hr2, x_ws hts w3, List.mem_cons_self, hts _ w3, hts _ w4, ⟨w5, w6⟩, hlen, hts _ h⟩, hts _ w1⟩ hpv rfl hn hl.1 rfl (lv_room hcat) d ⟨by rw [hR3]; exact hr3, by rw [hR4]; exact hr4⟩
    exact x_run hk rfl hrun hS hl hBs kk
  · have hrun := va_runSN (e := e) (meth := meth) (below := below) (H := H) (locs := locs) (cells := a) (slots := b) (rest := st) (g := F0 m pc ls (As.reverse ++ st)) ⟨hx, hb, hml, hown, hts⟩ hM (index := idx) (host := host) ⟨⟨⟨rfl, rfl, by rw [hR1]; exact hr1, by rw [hR2]; exact hr2, x_ws hts w3, List.mem_cons_self⟩, hts _ w3, hts _ w4, ⟨w5, w6⟩, hlen, va_Nw.use rfl (hk.2 _ h)⟩, hts _ w1, trivial⟩ hpv rfl hn hl.1 rfl (lv_room hcat) d ⟨by rw [hR3]; exact hr3, by rw [hR4]; exact hr4⟩
    exact x_run hk rfl hrun hS hl hBs kk
end XRS
/-- the law's own village: its numbers at A (17), its four rows of weights behind (60 each) -/
def wput (E : xEnv) (σ : Sg) (A : Nat) (Q : Fn) (R : Nat → Fn) : Sg := fun a => if a = A then some (.inl (xI E, 17, .inl Q)) else if A < a ∧ a < A + 5 then some (.inl (xI E, 60, .inl (R (a - A - 1)))) else σ a
def upR (R : Nat → Fn) (w : Nat) (g : Fn) : Nat → Fn := fun t => if t = w then g else R t
theorem upR_s {R : Nat → Fn} {w : Nat} {g : Fn} : upR R w g w = g := if_pos rfl
theorem upR_n {R : Nat → Fn} {w t : Nat} {g : Fn} (h : t ≠ w) : upR R w g t = R t := if_neg h
theorem upR_u {R : Nat → Fn} {w : Nat} {f g : Fn} : upR (upR R w f) w g = upR R w g := by
  funext t
  by_cases h : t = w
  · subst h; rw [upR_s, upR_s]
  · rw [upR_n h, upR_n h, upR_n h]
theorem upR_e {R : Nat → Fn} {w : Nat} : upR R w (R w) = R := by
  funext t
  by_cases h : t = w
  · subst h; exact upR_s
  · exact upR_n h
section WP
variable {E : xEnv} {σ : Sg} {A w : Nat} {Q : Fn} {R : Nat → Fn}
theorem wput_q : wput E σ A Q R A = some (.inl (xI E, 17, .inl Q)) := if_pos rfl
theorem wput_r (hw : w < 4) : wput E σ A Q R (A + 1 + w) = some (.inl (xI E, 60, .inl (R w))) := by
  unfold wput
  rw [if_neg (by omega), if_pos (by omega), show A + 1 + w - A - 1 = w by omega]
theorem wput_out {a : Nat} (h : a < A ∨ A + 5 ≤ a) : wput E σ A Q R a = σ a := by
  unfold wput
  rw [if_neg (by omega), if_neg (by omega)]
theorem wput_uq {g : Fn} : xup (wput E σ A Q R) A (.inl (xI E, 17, .inl g)) = wput E σ A g R := by
  funext a
  by_cases h : a = A
  · subst h; rw [xup_s, wput_q]
  · rw [xup_n h]
    unfold wput
    rw [if_neg h, if_neg h]
theorem wput_ur (hw : w < 4) {g : Fn} : xup (wput E σ A Q R) (A + 1 + w) (.inl (xI E, 60, .inl g)) = wput E σ A Q (upR R w g) := by
  funext a
  by_cases h : a = A + 1 + w
  · subst h; rw [xup_s, wput_r hw, upR_s]
  · rw [xup_n h]
    unfold wput
    by_cases h1 : a = A
    · rw [if_pos h1, if_pos h1]
    · rw [if_neg h1, if_neg h1]
      by_cases h2 : A < a ∧ a < A + 5
      · rw [if_pos h2, if_pos h2, upR_n (by omega)]
      · rw [if_neg h2, if_neg h2]
theorem wput_c {B : Nat} {VV : Cs} {nx sz len : Int32} {tx : Fn} (h : B + 165 ≤ A) : wput E (cput E σ B VV nx sz len tx) A Q R = cput E (wput E σ A Q R) B VV nx sz len tx := by
  funext a
  by_cases h1 : B ≤ a ∧ a < B + 165
  · rw [wput_out (by omega), cput_in h1.1 h1.2, cput_in h1.1 h1.2]
  · rw [cput_out (by omega)]
    unfold wput
    rw [cput_out (by omega)]
theorem wput_0 {B : Nat} {VV : Cs} {nx sz len : Int32} {tx : Fn} : wput E (cput E σ B VV nx sz len tx) (B + 165) Q R B = some (.inr (4, [.ref (B + 1), .ref (B + 21), .ref (B + 41), .ref (B + 163)])) := (wput_out (Or.inl (by omega))).trans cput_0
/-- an array made behind all, and forgotten -/
theorem wput_fg {n : Nat} {e : va_E} (hn : σ n = none) : ∀ q e2, σ q = some e2 → xup σ n e q = some e2 := by
  intro q e2 h
  by_cases hq : q = n
  · subst hq; rw [hn] at h; cases h
  · rw [xup_n hq]; exact h
end WP
/-- a loop that counts down -/
theorem x_down {P : Nat → Prop} (n : Nat) (h0 : P 0) (hs : ∀ i, i < n → P i → P (i + 1)) : ∀ i, i ≤ n → P i
  | 0, _ => h0
  | i + 1, h => hs i (by omega) (x_down n h0 hs i (by omega))
theorem nI_dec (n : Nat) : nI (n + 1) + Int32.ofInt (-1) = nI n := pk_m1 n
theorem nI_p1 (n : Nat) : nI (n + 1) - 1 = nI n := nI_pred n
theorem nI_m (n : Nat) : nI n + Int32.ofInt (-1) = nI n - 1 := by
  rw [Int32.sub_eq_add_neg]; rfl
theorem ix10 (a b : Nat) : 10 * nI a + nI b = nI (10 * a + b) := by
  rw [show (10 : Int32) = nI 10 from rfl, pk_mul, nI_add]
theorem ix9 (a : Nat) : 9 + nI a = nI (9 + a) := by
  rw [show (9 : Int32) = nI 9 from rfl, nI_add]
theorem ix13 (a : Nat) : 13 + nI a = nI (13 + a) := by
  rw [show (13 : Int32) = nI 13 from rfl, nI_add]
theorem ix5 (a : Nat) : 5 + nI a = nI (5 + a) := by
  rw [show (5 : Int32) = nI 5 from rfl, nI_add]
theorem ix2 (a : Nat) : 2 * nI a = nI (2 * a) := by
  rw [show (2 : Int32) = nI 2 from rfl, pk_mul]
/-- what is drawn -/
theorem l_and {n : Nat} : lN n &&& 65535 = lN (n % 65536) := by
  apply Int64.toBitVec_inj.mp
  apply BitVec.eq_of_toNat_eq
  rw [Int64.toBitVec_and, BitVec.toNat_and, show (65535 : Int64).toBitVec.toNat = 2 ^ 16 - 1 from rfl, Nat.and_two_pow_sub_one_eq_mod]
  show (BitVec.ofNat 64 n).toNat % 2 ^ 16 = (BitVec.ofNat 64 _).toNat
  rw [BitVec.toNat_ofNat, BitVec.toNat_ofNat]
  omega
theorem l_dr {s : Nat} (h : s < 65536) : ((25173 * (nI s).toInt64 + 13849) &&& (65535 : Int64)).toInt32 = nI (sdN (nI s)) := by
  unfold sdN
  rw [nI_l (by omega), nI_clamp (by omega), show (25173 : Int64) = lN 25173 from rfl, show (13849 : Int64) = lN 13849 from rfl, lN_mul, lN_add, l_and, lN_i]
def lwN2 (x : Int32) (n : Nat) : Nat := x.toBitVec.toNat % 2 ^ 31 % n
theorem lw_lt {x : Int32} {n : Nat} (h : 0 < n) : lwN2 x n < n := Nat.mod_lt _ h
theorem lw_e {x : Int32} {n : Nat} (h : 0 < n) (hn : n < 2 ^ 31) : (x &&& 2147483647) - (x &&& 2147483647) / nI n * nI n = nI (lwN2 x n) := by
  rw [pk_and x 31 (by decide), pk_rem (by have := Nat.mod_lt x.toBitVec.toNat (show 0 < 2 ^ 31 by decide); omega) h hn]
  rfl
end
section
/-! what the law's own loops find: the best one by a key, the first of several -/
def isT (P : Nat → Prop) (f : Nat → Int) (lo hi : Nat) (o : Option Nat) : Prop := match o with
  | none => ∀ i, lo ≤ i → i < hi → ¬ P i
  | some b => lo ≤ b ∧ b < hi ∧ P b ∧ (∀ i, lo ≤ i → i < hi → P i → f b ≤ f i) ∧ (∀ i, lo ≤ i → i < b → P i → f b < f i)
section IT
variable {P : Nat → Prop} {f : Nat → Int} {lo hi n t b : Nat} {o u : Option Nat}
theorem isT_uq (h : isT P f lo hi o) (h2 : isT P f lo hi u) : o = u := by
  cases o with
  | none =>
    cases u with
    | none => rfl
    | some b => exact absurd h2.2.2.1 (h b h2.1 h2.2.1)
  | some a =>
    cases u with
    | none => exact absurd h.2.2.1 (h2 a h.1 h.2.1)
    | some b =>
      obtain ⟨a1, a2, a3, a4, a5⟩ := h
      obtain ⟨b1, b2, b3, b4, b5⟩ := h2
      by_cases hab : a < b
      · have x := b5 a a1 hab a3
        have y := a4 b b1 b2 b3
        omega
      · by_cases hba : b < a
        · have x := a5 b b1 hba b3
          have y := b4 a a1 a2 a3
          omega
        · rw [show a = b by omega]
theorem isT_0 : isT P f n n none := fun i h1 h2 => by omega
theorem isT_dsk (hp : ¬ P t) (h : isT P f (t + 1) hi o) : isT P f t hi o := by
  cases o with
  | none =>
    intro i h1 h2
    by_cases e : i = t
    · subst e; exact hp
    · exact h i (by omega) h2
  | some b =>
    obtain ⟨a1, a2, a3, a4, a5⟩ := h
    refine ⟨by omega, a2, a3, fun i h1 h2 h3 => ?_, fun i h1 h2 h3 => ?_⟩
    · exact a4 i (by have : i ≠ t := (fun e => hp (e ▸ h3)); omega) h2 h3
    · exact a5 i (by have : i ≠ t := (fun e => hp (e ▸ h3)); omega) h2 h3
theorem isT_dtk (hp : P t) (ht : t < hi) (hb : ∀ b, o = some b → f t ≤ f b) (h : isT P f (t + 1) hi o) : isT P f t hi (some t) := by
  refine ⟨Nat.le_refl _, ht, hp, fun i h1 h2 h3 => ?_, fun i h1 h2 _ => by omega⟩
  by_cases e : i = t
  · subst e; exact Int.le_refl _
  · cases o with
    | none => exact absurd h3 (h i (by omega) h2)
    | some b =>
      have x := h.2.2.2.1 i (by omega) h2 h3
      have y := hb b rfl
      omega
theorem isT_dkp (hb : f b < f t) (h : isT P f (t + 1) hi (some b)) : isT P f t hi (some b) := by
  obtain ⟨a1, a2, a3, a4, a5⟩ := h
  refine ⟨by omega, a2, a3, fun i h1 h2 h3 => ?_, fun i h1 h2 h3 => ?_⟩
  · by_cases e : i = t
    · subst e; omega
    · exact a4 i (by omega) h2 h3
  · by_cases e : i = t
    · subst e; exact hb
    · exact a5 i (by omega) h2 h3
theorem isT_usk (hp : ¬ P n) (h : isT P f lo n o) : isT P f lo (n + 1) o := by
  cases o with
  | none =>
    intro i h1 h2
    by_cases e : i = n
    · subst e; exact hp
    · exact h i h1 (by omega)
  | some b =>
    obtain ⟨a1, a2, a3, a4, a5⟩ := h
    refine ⟨a1, by omega, a3, fun i h1 h2 h3 => ?_, a5⟩
    exact a4 i h1 (by have : i ≠ n := (fun e => hp (e ▸ h3)); omega) h3
theorem isT_utk (hp : P n) (hl : lo ≤ n) (hb : ∀ b, o = some b → f n < f b) (h : isT P f lo n o) : isT P f lo (n + 1) (some n) := by
  have key : ∀ i, lo ≤ i → i < n → P i → f n < f i := fun i h1 h2 h3 => by
    cases o with
    | none => exact absurd h3 (h i h1 h2)
    | some b =>
      have x := h.2.2.2.1 i h1 h2 h3
      have y := hb b rfl
      omega
  refine ⟨hl, by omega, hp, fun i h1 h2 h3 => ?_, key⟩
  by_cases e : i = n
  · subst e; exact Int.le_refl _
  · have := key i h1 (by omega) h3; omega
theorem isT_ukp (hb : f b ≤ f n) (h : isT P f lo n (some b)) : isT P f lo (n + 1) (some b) := by
  obtain ⟨a1, a2, a3, a4, a5⟩ := h
  refine ⟨a1, by omega, a3, fun i h1 h2 h3 => ?_, a5⟩
  by_cases e : i = n
  · subst e; exact hb
  · exact a4 i h1 (by omega) h3
theorem isT_cg {P2 : Nat → Prop} {f2 : Nat → Int} (hP : ∀ i, lo ≤ i → i < hi → (P i ↔ P2 i)) (hf : ∀ i, lo ≤ i → i < hi → P i → f i = f2 i) (h : isT P f lo hi o) : isT P2 f2 lo hi o := by
  cases o with
  | none => exact fun i h1 h2 h3 => h i h1 h2 ((hP i h1 h2).mpr h3)
  | some b =>
    obtain ⟨a1, a2, a3, a4, a5⟩ := h
    refine ⟨a1, a2, (hP b a1 a2).mp a3, fun i h1 h2 h3 => ?_, fun i h1 h2 h3 => ?_⟩
    · have q := (hP i h1 h2).mpr h3
      rw [← hf b a1 a2 a3, ← hf i h1 h2 q]; exact a4 i h1 h2 q
    · have q := (hP i h1 (by omega)).mpr h3
      rw [← hf b a1 a2 a3, ← hf i h1 (by omega) q]; exact a5 i h1 h2 q
end IT
/-- by the greatest value above 0 -/
abbrev isG (g : Fn) (lo hi : Nat) (o : Option Nat) : Prop := isT (fun i => 0 < g i) (fun i => -(g i).toInt) lo hi o
theorem wfL_g {g : Fn} : ∀ n, isG g 0 n (wfL g n).1 ∧ (wfL g n).2 = (match (wfL g n).1 with | none => 0 | some b => g b)
  | 0 => ⟨isT_0, rfl⟩
  | n + 1 => by
    obtain ⟨h1, h2⟩ := wfL_g (g := g) n
    rw [wfL]
    by_cases hc : g n ≤ (wfL g n).2
    · rw [if_pos hc]
      refine ⟨?_, h2⟩
      cases ho : (wfL g n).1 with
      | none =>
        rw [ho] at h1 h2
        have h3 : (wfL g n).2 = 0 := h2
        rw [h3] at hc
        exact isT_usk (fun z => absurd z (Int32.not_lt.mpr hc)) h1
      | some b =>
        rw [ho] at h1 h2
        have h3 : (wfL g n).2 = g b := h2
        rw [h3] at hc
        refine isT_ukp ?_ h1
        have : (g n).toInt ≤ (g b).toInt := Int32.le_iff_toInt_le.mp hc
        show -(g b).toInt ≤ -(g n).toInt
        omega
    · rw [if_neg hc]
      refine ⟨?_, rfl⟩
      cases ho : (wfL g n).1 with
      | none =>
        rw [ho] at h1 h2
        have h3 : (wfL g n).2 = 0 := h2
        rw [h3] at hc
        exact isT_utk (Int32.not_le.mp hc) (Nat.zero_le _) (fun b z => by cases z) h1
      | some b =>
        rw [ho] at h1 h2
        have h3 : (wfL g n).2 = g b := h2
        rw [h3] at hc
        have hlt : g b < g n := Int32.not_le.mp hc
        have hb := h1.2.2.1
        have x := Int32.lt_iff_toInt_lt.mp hlt
        refine isT_utk (Int32.lt_trans hb hlt) (Nat.zero_le _) (fun b2 z => ?_) h1
        cases z
        show -(g n).toInt < -(g b).toInt
        omega
theorem isG_e {g : Fn} {n : Nat} {o : Option Nat} (h : isG g 0 n o) : o = (wfL g n).1 := isT_uq h (wfL_g n).1
/-- a row of the law's village beside one of the class's -/
def WR1 (f r : Fn) : Prop := (∀ m w, m < 6 → w < 10 → f (10 * m + w) = r (14 * m + w)) ∧ ∀ m w, m < 6 → 10 ≤ w → w < 14 → r (14 * m + w) = 0
def wdS (f : Fn) (m : Nat) : Option Nat := (wfL (fun w => f (10 * m + w)) 10).1
def hdS (f : Fn) (w : Nat) : Option Nat := (wfL (fun m => f (10 * m + w)) 6).1
theorem wfL_z {g : Fn} {n : Nat} : ∀ d, (∀ i, n ≤ i → i < n + d → g i = 0) → (wfL g (n + d)).1 = (wfL g n).1
  | 0, _ => rfl
  | d + 1, h => by
    rw [← wfL_z d (fun i h1 h2 => h i h1 (by omega))]
    have h0 := h (n + d) (by omega) (by omega)
    have h2 := (wfL_g (g := g) (n + d)).2
    have h1 := (wfL_g (g := g) (n + d)).1
    show (wfL g (n + d + 1)).1 = _
    rw [wfL, if_pos]
    rw [h0, h2]
    cases ho : (wfL g (n + d)).1 with
    | none => exact Int32.le_refl _
    | some b =>
      rw [ho] at h1
      exact Int32.le_of_lt h1.2.2.1
theorem wd_e {f r : Fn} {m : Nat} (h : WR1 f r) (hm : m < 6) : wdS f m = wfS r m := by
  unfold wdS wfS
  rw [wfL_z (g := fun w => r (14 * m + w)) (n := 10) 4 (fun i h1 h2 => h.2 m i hm h1 (by omega)), wfL_cg (g := fun w => r (14 * m + w)) (fun j hj => h.1 m j hm hj)]
theorem hd_e {f r : Fn} {w : Nat} (h : WR1 f r) (hw : w < 10) : hdS f w = haS r w := by
  unfold hdS haS
  rw [wfL_cg (g := fun m => r (14 * m + w)) (fun j hj => h.1 j w hj hw)]
theorem hd_z {f r : Fn} {w : Nat} (h : WR1 f r) (h1 : 10 ≤ w) (h2 : w < 14) : haS r w = none := by
  unfold haS
  have := wfL_z (g := fun m => r (14 * m + w)) (n := 0) 6 (fun i _ hi => h.2 i w (by omega) h1 h2)
  exact this
theorem wd_in {f : Fn} {m w : Nat} (h : wdS f m = some w) : w < 10 := wfL_in _ _ _ h
theorem hd_in {f : Fn} {w m : Nat} (h : hdS f w = some m) : m < 6 := wfL_in _ _ _ h
theorem wf_10 {f r : Fn} {m w : Nat} (h : WR1 f r) (hm : m < 6) (e : wfS r m = some w) : w < 10 := wd_in ((wd_e h hm).trans e)
theorem oI_neg {o : Option Nat} (h : ∀ i, o = some i → i < 2 ^ 31) : oI o < 0 ↔ o = none := by
  cases o with
  | none => exact ⟨fun _ => rfl, fun _ => by decide⟩
  | some i => simpa [oI] using nI_pos (h i rfl)
theorem oI_nn {o : Option Nat} (e : o = none) : oI o < 0 := by subst e; decide
theorem oI_ns {o : Option Nat} {i : Nat} (e : o = some i) (h : i < 2 ^ 31) : ¬ oI o < 0 := by subst e; exact nI_pos h
/-! the law's rows, changed -/
def chF (f : Fn) (m w : Nat) (x : Int32) : Fn := upd f (10 * m + w) (clS (f (10 * m + w) + x))
def prF (f : Fn) (m w : Nat) (a x : Int32) (n : Nat) : Fn := fun j => if 10 * m ≤ j ∧ j < 10 * m + n then clS (f j + (if j = 10 * m + w then a else -x)) else f j
def fmF (f : Fn) (m w : Nat) (x : Int32) (n : Nat) : Fn := fun j => if j % 10 = w ∧ j / 10 < n ∧ j / 10 ≠ m then clS (f j + -x) else f j
theorem prF_0 {f : Fn} {m w : Nat} {a x : Int32} : prF f m w a x 0 = f := by
  funext j
  unfold prF
  rw [if_neg (by omega)]
theorem prF_s {f : Fn} {m w n : Nat} {a x : Int32} : chF (prF f m w a x n) m n (if n = w then a else -x) = prF f m w a x (n + 1) := by
  funext j
  unfold chF
  by_cases h : j = 10 * m + n
  · subst h
    have e1 : prF f m w a x n (10 * m + n) = f (10 * m + n) := by
      unfold prF
      exact if_neg (by omega)
    have e2 : prF f m w a x (n + 1) (10 * m + n) = clS (f (10 * m + n) + (if 10 * m + n = 10 * m + w then a else -x)) := by
      unfold prF
      exact if_pos (by omega)
    rw [pk_us, e1, e2]
    congr 2
    by_cases e : n = w
    · rw [if_pos e, if_pos (by omega)]
    · rw [if_neg e, if_neg (by omega)]
  · rw [pk_un h]
    by_cases h2 : 10 * m ≤ j ∧ j < 10 * m + n
    · unfold prF
      exact (if_pos h2).trans (if_pos (by omega)).symm
    · unfold prF
      exact (if_neg h2).trans (if_neg (by omega)).symm
theorem fmF_0 {f : Fn} {m w : Nat} {x : Int32} : fmF f m w x 0 = f := by
  funext j
  unfold fmF
  rw [if_neg (by omega)]
theorem fmF_s {f : Fn} {m w n : Nat} {x : Int32} (hw : w < 10) (h : n ≠ m) : chF (fmF f m w x n) n w (-x) = fmF f m w x (n + 1) := by
  funext j
  unfold chF
  by_cases e : j = 10 * n + w
  · subst e
    rw [pk_us]
    unfold fmF
    rw [if_neg (by omega), if_pos (by omega)]
  · rw [pk_un e]
    unfold fmF
    by_cases h2 : j % 10 = w ∧ j / 10 < n ∧ j / 10 ≠ m
    · rw [if_pos h2, if_pos (by omega)]
    · rw [if_neg h2, if_neg (by omega)]
theorem fmF_e {f : Fn} {m w : Nat} {x : Int32} : fmF f m w x m = fmF f m w x (m + 1) := by
  funext j
  unfold fmF
  by_cases h2 : j % 10 = w ∧ j / 10 < m ∧ j / 10 ≠ m
  · rw [if_pos h2, if_pos (by omega)]
  · rw [if_neg h2, if_neg (by omega)]
theorem cl_if (x : Int32) : (if x < 0 then 0 else if ¬ x ≤ 99 then 99 else x) = clS x := by
  unfold clS
  by_cases h : x < 0
  · rw [if_pos h, if_pos (show x < 99 from Int32.lt_trans h (by decide)), if_neg (fun z => absurd (Int32.lt_trans h z) Int32.lt_irrefl)]
  · rw [if_neg h]
    by_cases h2 : x ≤ 99
    · rw [if_neg (fun z => z h2)]
      by_cases h3 : x < 99
      · rw [if_pos h3]
        by_cases h4 : 0 < x
        · rw [if_pos h4]
        · rw [if_neg h4]
          exact Int32.le_antisymm (Int32.not_lt.mp h4) (Int32.not_lt.mp h)
      · rw [if_neg h3, if_pos (by decide)]
        exact Int32.le_antisymm h2 (Int32.not_lt.mp h3)
    · rw [if_pos h2, if_neg (fun z => h2 (Int32.le_of_lt z)), if_pos (by decide)]
theorem cl_a {x : Int32} (h : x < 0) : (0 : Int32) = clS x := by rw [← cl_if, if_pos h]
theorem cl_b {x : Int32} (h : ¬ x < 0) (h2 : ¬ x ≤ 99) : (99 : Int32) = clS x := by rw [← cl_if, if_neg h, if_pos h2]
theorem cl_c {x : Int32} (h : ¬ x < 0) (h2 : x ≤ 99) : x = clS x := by rw [← cl_if, if_neg h, if_neg (fun z => z h2)]
end
section
set_option maxRecDepth 100000 in
set_option maxHeartbeats 1000000 in
theorem c_L_low {l : Launch} {E : xEnv} {B N : Nat} {σ : Sg} (x : Int32) {n : Nat} (h0 : 0 < n) (hn : n < 2 ^ 31) : xM l yL_low cL_low 2 (some .int) 0 0 0 0 E B [.int x, .int (nI n)] N σ N σ (some (.int (nI (lwN2 x n)))) := by
  refine xM_of [some (.int _), some (.int _)] (by decide +kernel) (Nat.le_of_ble_eq_true rfl) rfl (fun k0 C Z => ?_)
  refine x_iload_n C dL_low_0 rfl ?_
  refine x_ldc C kk_L_9 dL_low_1 ?_
  refine x_iand C dL_low_3 ?_
  refine x_iload_n C dL_low_4 rfl ?_
  refine x_irem C dL_low_5 (nI_ne0 h0 hn) ?_
  exact x_zret C Z dL_low_6 rfl (Nat.le_of_ble_eq_true rfl) (Nat.le_of_ble_eq_true rfl) rfl rfl (lw_e h0 hn)
set_option maxRecDepth 100000 in
set_option maxHeartbeats 1000000 in
theorem c_L_row0 {l : Launch} {E : xEnv} {B N : Nat} {σ : Sg} {a b c d : Nat} : xM l yL_row cL_row 5 (some (.array .int)) 0 0 0 0 E B [.int (nI 0), .ref a, .ref b, .ref c, .ref d] N σ N σ (some (.ref a)) := by
  refine xM_of [some (.int _), some (.ref _), some (.ref _), some (.ref _), some (.ref _)] (by decide +kernel) (Nat.le_of_ble_eq_true rfl) rfl (fun k0 C Z => ?_)
  refine x_iload_n C dL_row_0 rfl ?_
  refine x_if_ne C 8 dL_row_1 (by decide) (fun h => absurd (by decide) h) (fun _ => ?_)
  refine x_aload_n C dL_row_4 rfl ?_
  refine x_goto C 28 dL_row_5 (by decide) ?_
  exact x_areta C Z dL_row_28 (Or.inr ⟨_, rfl⟩) (Nat.le_of_ble_eq_true rfl) (Nat.le_of_ble_eq_true rfl) rfl rfl rfl
set_option maxRecDepth 100000 in
set_option maxHeartbeats 1000000 in
theorem c_L_row1 {l : Launch} {E : xEnv} {B N : Nat} {σ : Sg} {a b c d : Nat} : xM l yL_row cL_row 5 (some (.array .int)) 0 0 0 0 E B [.int (nI 1), .ref a, .ref b, .ref c, .ref d] N σ N σ (some (.ref b)) := by
  refine xM_of [some (.int _), some (.ref _), some (.ref _), some (.ref _), some (.ref _)] (by decide +kernel) (Nat.le_of_ble_eq_true rfl) rfl (fun k0 C Z => ?_)
  refine x_iload_n C dL_row_0 rfl ?_
  refine x_if_ne C 8 dL_row_1 (by decide) (fun _ => ?_) (fun h => absurd h (by decide))
  refine x_iload_n C dL_row_8 rfl ?_
  refine x_iconst (v := 1) C dL_row_9 (by decide) ?_
  refine x_ic_ne C 17 dL_row_10 (by decide) (fun h => absurd (by decide) h) (fun _ => ?_)
  refine x_aload_n C dL_row_13 rfl ?_
  refine x_goto C 28 dL_row_14 (by decide) ?_
  exact x_areta C Z dL_row_28 (Or.inr ⟨_, rfl⟩) (Nat.le_of_ble_eq_true rfl) (Nat.le_of_ble_eq_true rfl) rfl rfl rfl
set_option maxRecDepth 100000 in
set_option maxHeartbeats 1000000 in
theorem c_L_row2 {l : Launch} {E : xEnv} {B N : Nat} {σ : Sg} {a b c d : Nat} : xM l yL_row cL_row 5 (some (.array .int)) 0 0 0 0 E B [.int (nI 2), .ref a, .ref b, .ref c, .ref d] N σ N σ (some (.ref c)) := by
  refine xM_of [some (.int _), some (.ref _), some (.ref _), some (.ref _), some (.ref _)] (by decide +kernel) (Nat.le_of_ble_eq_true rfl) rfl (fun k0 C Z => ?_)
  refine x_iload_n C dL_row_0 rfl ?_
  refine x_if_ne C 8 dL_row_1 (by decide) (fun _ => ?_) (fun h => absurd h (by decide))
  refine x_iload_n C dL_row_8 rfl ?_
  refine x_iconst (v := 1) C dL_row_9 (by decide) ?_
  refine x_ic_ne C 17 dL_row_10 (by decide) (fun _ => ?_) (fun h => absurd h (by decide))
  refine x_iload_n C dL_row_17 rfl ?_
  refine x_iconst (v := 2) C dL_row_18 (by decide) ?_
  refine x_ic_ne C 26 dL_row_19 (by decide) (fun h => absurd (by decide) h) (fun _ => ?_)
  refine x_aload_n C dL_row_22 rfl ?_
  refine x_goto C 28 dL_row_23 (by decide) ?_
  exact x_areta C Z dL_row_28 (Or.inr ⟨_, rfl⟩) (Nat.le_of_ble_eq_true rfl) (Nat.le_of_ble_eq_true rfl) rfl rfl rfl
set_option maxRecDepth 100000 in
set_option maxHeartbeats 1000000 in
theorem c_L_row3 {l : Launch} {E : xEnv} {B N : Nat} {σ : Sg} {a b c d : Nat} : xM l yL_row cL_row 5 (some (.array .int)) 0 0 0 0 E B [.int (nI 3), .ref a, .ref b, .ref c, .ref d] N σ N σ (some (.ref d)) := by
  refine xM_of [some (.int _), some (.ref _), some (.ref _), some (.ref _), some (.ref _)] (by decide +kernel) (Nat.le_of_ble_eq_true rfl) rfl (fun k0 C Z => ?_)
  refine x_iload_n C dL_row_0 rfl ?_
  refine x_if_ne C 8 dL_row_1 (by decide) (fun _ => ?_) (fun h => absurd h (by decide))
  refine x_iload_n C dL_row_8 rfl ?_
  refine x_iconst (v := 1) C dL_row_9 (by decide) ?_
  refine x_ic_ne C 17 dL_row_10 (by decide) (fun _ => ?_) (fun h => absurd h (by decide))
  refine x_iload_n C dL_row_17 rfl ?_
  refine x_iconst (v := 2) C dL_row_18 (by decide) ?_
  refine x_ic_ne C 26 dL_row_19 (by decide) (fun _ => ?_) (fun h => absurd h (by decide))
  refine x_aload C dL_row_26 rfl ?_
  exact x_areta C Z dL_row_28 (Or.inr ⟨_, rfl⟩) (Nat.le_of_ble_eq_true rfl) (Nat.le_of_ble_eq_true rfl) rfl rfl rfl
theorem c_L_row {l : Launch} {E : xEnv} {B N : Nat} {σ : Sg} {A w : Nat} (hw : w < 4) : xM l yL_row cL_row 5 (some (.array .int)) 0 0 0 0 E B [.int (nI w), .ref (A + 1), .ref (A + 2), .ref (A + 3), .ref (A + 4)] N σ N σ (some (.ref (A + 1 + w))) := by
  rcases (show w = 0 ∨ w = 1 ∨ w = 2 ∨ w = 3 by omega) with rfl | rfl | rfl | rfl
  · exact c_L_row0
  · exact c_L_row1
  · exact c_L_row2
  · exact c_L_row3
set_option maxRecDepth 100000 in
set_option maxHeartbeats 1000000 in
theorem c_L_draw {l : Launch} {E : xEnv} {B N : Nat} {σ σ2 : Sg} {a0 n s : Nat} {Q : Fn} (he : σ a0 = some (.inl (xI E, 17, .inl Q))) (hq : Q 0 = nI s) (h6 : s < 65536) (h0 : 0 < n) (hn : n < 2 ^ 31) (hs2 : xup σ a0 (.inl (xI E, 17, .inl (upd Q 0 (nI (sdN (nI s)))))) = σ2) : xM l yL_draw cL_draw 2 (some .int) 0 0 0 0 E B [.int (nI n), .ref a0] N σ N σ2 (some (.int (nI (sdN (nI s) / 16 % n)))) := by
  refine xM_of [some (.int _), some (.ref _)] (by decide +kernel) (Nat.le_of_ble_eq_true rfl) rfl (fun k0 C Z => ?_)
  refine x_aload_n C dL_draw_0 rfl ?_
  refine x_iconst (v := 0) C dL_draw_1 (by decide) ?_
  refine x_ldc2 C kk_L_10 dL_draw_2 ?_
  refine x_aload_n C dL_draw_5 rfl ?_
  refine x_iconst (v := 0) C dL_draw_6 (by decide) ?_
  refine x_iald2 C he (show (0 : Int32) = nI 0 from rfl) (by decide) (by decide) dL_draw_7 ?_
  refine x_i2l C dL_draw_8 ?_
  refine x_lmul C dL_draw_9 ?_
  refine x_ldc2 C kk_L_12 dL_draw_10 ?_
  refine x_ladd C dL_draw_13 ?_
  refine x_ldc2 C kk_L_14 dL_draw_14 ?_
  refine x_land C dL_draw_17 ?_
  refine x_l2i C dL_draw_18 ?_
  rw [hq, l_dr h6]
  refine x_iast2 C he (show (0 : Int32) = nI 0 from rfl) (by decide) (by decide) (fun _ _ => rfl) hs2 dL_draw_19 ?_
  have he2 : σ2 a0 = some (.inl (xI E, 17, .inl (upd Q 0 (nI (sdN (nI s)))))) := by rw [← hs2]; exact xup_s
  refine x_aload_n C dL_draw_20 rfl ?_
  refine x_iconst (v := 0) C dL_draw_21 (by decide) ?_
  refine x_iald2 C he2 (show (0 : Int32) = nI 0 from rfl) (by decide) (by decide) dL_draw_22 ?_
  rw [pk_us]
  refine x_iconst (v := 4) C dL_draw_23 (by decide) ?_
  refine x_ishr C dL_draw_24 ?_
  rw [pk_shrN (by have := sdN_lt (x := nI s); omega) _ 4 rfl]
  refine x_iload_n C dL_draw_25 rfl ?_
  refine x_irem C dL_draw_26 (nI_ne0 h0 hn) ?_
  exact x_zret C Z dL_draw_27 rfl (Nat.le_of_ble_eq_true rfl) (Nat.le_of_ble_eq_true rfl) rfl rfl (pk_rem (by have := sdN_lt (x := nI s); omega) h0 hn)
set_option maxRecDepth 100000 in
set_option maxHeartbeats 1000000 in
theorem c_L_word {l : Launch} {E : xEnv} {B N : Nat} {σ : Sg} {a0 m : Nat} {f : Fn} (he : σ a0 = some (.inl (xI E, 60, .inl f))) (hm : m < 6) : xM l yL_word cL_word 4 (some .int) 0 0 0 0 E B [.int (nI m), .ref a0] N σ N σ (some (.int (oI (wdS f m)))) := by
  refine xM_of [some (.int (nI m)), some (.ref _), none, none] (by decide +kernel) (Nat.le_of_ble_eq_true rfl) rfl (fun k0 C Z => ?_)
  have hl : ∀ t, t ≤ 10 → ∀ o, isG (fun i => f (10 * m + i)) t 10 o → xX k0 N 0 0 σ 6 [some (.int (nI m)), some (.ref a0), some (.int (oI o)), some (.int (nI t - 1))] [] := by
    refine x_down 10 ?_ ?_
    · intro o ho
      refine x_iload_n C dL_word_6 rfl ?_
      refine x_if_lt C 52 dL_word_7 (by decide) (fun _ => ?_) (fun h => absurd (by decide) h)
      refine x_iload_n C dL_word_52 rfl ?_
      exact x_zret C Z dL_word_53 rfl (Nat.le_of_ble_eq_true rfl) (Nat.le_of_ble_eq_true rfl) rfl rfl (congrArg oI (isG_e ho))
    · intro t ht ih o ho
      rw [nI_p1]
      refine x_iload_n C dL_word_6 rfl ?_
      refine x_if_lt C 52 dL_word_7 (by decide) (fun h => absurd h (nI_pos (by omega))) (fun _ => ?_)
      refine x_aload_n C dL_word_10 rfl ?_
      refine x_bipush (v := 10) C dL_word_11 (by decide) ?_
      refine x_iload_n C dL_word_13 rfl ?_
      refine x_imul C dL_word_14 ?_
      refine x_iload_n C dL_word_15 rfl ?_
      refine x_iadd C dL_word_16 ?_
      refine x_iald2 C he (ix10 m t) (by omega) (by decide) dL_word_17 ?_
      refine x_if_le C 46 dL_word_18 (by decide) (fun h18 => ?_) (fun h18 => ?_)
      · refine x_iinc C dL_word_46 rfl (nI_m t) (by decide) rfl ?_
        refine x_goto C 6 dL_word_49 (by decide) ?_
        exact ih o (isT_dsk (fun z => absurd z (Int32.not_lt.mpr h18)) ho)
      · refine x_iload_n C dL_word_21 rfl ?_
        cases o with
        | none =>
          refine x_if_lt C 44 dL_word_22 (by decide) (fun _ => ?_) (fun h => absurd (by decide) h)
          refine x_iload_n C dL_word_44 rfl ?_
          refine x_istore_n C dL_word_45 (by decide) rfl ?_
          refine x_iinc C dL_word_46 rfl (nI_m t) (by decide) rfl ?_
          refine x_goto C 6 dL_word_49 (by decide) ?_
          exact ih (some t) (isT_dtk (Int32.not_le.mp h18) (by omega) (fun b2 z => by cases z) ho)
        | some b2 =>
          have hb2 : b2 < 10 := ho.2.1
          refine x_if_lt C 44 dL_word_22 (by decide) (fun h => absurd h (nI_pos (n := b2) (by omega))) (fun _ => ?_)
          refine x_aload_n C dL_word_25 rfl ?_
          refine x_bipush (v := 10) C dL_word_26 (by decide) ?_
          refine x_iload_n C dL_word_28 rfl ?_
          refine x_imul C dL_word_29 ?_
          refine x_iload_n C dL_word_30 rfl ?_
          refine x_iadd C dL_word_31 ?_
          refine x_iald2 C he (ix10 m t) (by omega) (by decide) dL_word_32 ?_
          refine x_aload_n C dL_word_33 rfl ?_
          refine x_bipush (v := 10) C dL_word_34 (by decide) ?_
          refine x_iload_n C dL_word_36 rfl ?_
          refine x_imul C dL_word_37 ?_
          refine x_iload_n C dL_word_38 rfl ?_
          refine x_iadd C dL_word_39 ?_
          refine x_iald2 C he (ix10 m b2) (by omega) (by decide) dL_word_40 ?_
          refine x_ic_lt C 46 dL_word_41 (by decide) (fun h41 => ?_) (fun h41 => ?_)
          · refine x_iinc C dL_word_46 rfl (nI_m t) (by decide) rfl ?_
            refine x_goto C 6 dL_word_49 (by decide) ?_
            exact ih (some b2) (isT_dkp (by have := Int32.lt_iff_toInt_lt.mp h41; show -(f (10 * m + b2)).toInt < -(f (10 * m + t)).toInt; omega) ho)
          · refine x_iload_n C dL_word_44 rfl ?_
            refine x_istore_n C dL_word_45 (by decide) rfl ?_
            refine x_iinc C dL_word_46 rfl (nI_m t) (by decide) rfl ?_
            refine x_goto C 6 dL_word_49 (by decide) ?_
            exact ih (some t) (isT_dtk (Int32.not_le.mp h18) (by omega) (fun b3 z => by cases z; have := Int32.not_lt.mp h41; have := Int32.le_iff_toInt_le.mp this; show -(f (10 * m + t)).toInt ≤ -(f (10 * m + b2)).toInt; omega) ho)
  refine x_bipush (v := (-6)) C dL_word_0 (by decide) ?_
  refine x_istore_n C dL_word_2 (by decide) rfl ?_
  refine x_bipush (v := 9) C dL_word_3 (by decide) ?_
  refine x_istore_n C dL_word_5 (by decide) rfl ?_
  exact hl 10 (Nat.le_refl _) none isT_0
set_option maxRecDepth 100000 in
set_option maxHeartbeats 1000000 in
theorem c_L_heard {l : Launch} {E : xEnv} {B N : Nat} {σ : Sg} {a0 w : Nat} {f : Fn} (he : σ a0 = some (.inl (xI E, 60, .inl f))) (hw : w < 10) : xM l yL_heard cL_heard 4 (some .int) 0 0 0 0 E B [.int (nI w), .ref a0] N σ N σ (some (.int (oI (hdS f w)))) := by
  refine xM_of [some (.int (nI w)), some (.ref _), none, none] (by decide +kernel) (Nat.le_of_ble_eq_true rfl) rfl (fun k0 C Z => ?_)
  have hl : ∀ t, t ≤ 6 → ∀ o, isG (fun i => f (10 * i + w)) t 6 o → xX k0 N 0 0 σ 5 [some (.int (nI w)), some (.ref a0), some (.int (oI o)), some (.int (nI t - 1))] [] := by
    refine x_down 6 ?_ ?_
    · intro o ho
      refine x_iload_n C dL_heard_5 rfl ?_
      refine x_if_lt C 57 dL_heard_6 (by decide) (fun _ => ?_) (fun h => absurd (by decide) h)
      refine x_iload_n C dL_heard_57 rfl ?_
      exact x_zret C Z dL_heard_58 rfl (Nat.le_of_ble_eq_true rfl) (Nat.le_of_ble_eq_true rfl) rfl rfl (congrArg oI (isG_e ho))
    · intro t ht ih o ho
      rw [nI_p1]
      refine x_iload_n C dL_heard_5 rfl ?_
      refine x_if_lt C 57 dL_heard_6 (by decide) (fun h => absurd h (nI_pos (by omega))) (fun _ => ?_)
      refine x_iload_n C dL_heard_9 rfl ?_
      refine x_bipush (v := 10) C dL_heard_10 (by decide) ?_
      refine x_ic_ge C 57 dL_heard_12 (by decide) (fun h => absurd h (nI_ge (b := 10) (by omega) (by decide))) (fun _ => ?_)
      refine x_aload_n C dL_heard_15 rfl ?_
      refine x_bipush (v := 10) C dL_heard_16 (by decide) ?_
      refine x_iload_n C dL_heard_18 rfl ?_
      refine x_imul C dL_heard_19 ?_
      refine x_iload_n C dL_heard_20 rfl ?_
      refine x_iadd C dL_heard_21 ?_
      refine x_iald2 C he (ix10 t w) (by omega) (by decide) dL_heard_22 ?_
      refine x_if_le C 51 dL_heard_23 (by decide) (fun h23 => ?_) (fun h23 => ?_)
      · refine x_iinc C dL_heard_51 rfl (nI_m t) (by decide) rfl ?_
        refine x_goto C 5 dL_heard_54 (by decide) ?_
        exact ih o (isT_dsk (fun z => absurd z (Int32.not_lt.mpr h23)) ho)
      · refine x_iload_n C dL_heard_26 rfl ?_
        cases o with
        | none =>
          refine x_if_lt C 49 dL_heard_27 (by decide) (fun _ => ?_) (fun h => absurd (by decide) h)
          refine x_iload_n C dL_heard_49 rfl ?_
          refine x_istore_n C dL_heard_50 (by decide) rfl ?_
          refine x_iinc C dL_heard_51 rfl (nI_m t) (by decide) rfl ?_
          refine x_goto C 5 dL_heard_54 (by decide) ?_
          exact ih (some t) (isT_dtk (Int32.not_le.mp h23) (by omega) (fun b2 z => by cases z) ho)
        | some b2 =>
          have hb2 : b2 < 6 := ho.2.1
          refine x_if_lt C 49 dL_heard_27 (by decide) (fun h => absurd h (nI_pos (n := b2) (by omega))) (fun _ => ?_)
          refine x_aload_n C dL_heard_30 rfl ?_
          refine x_bipush (v := 10) C dL_heard_31 (by decide) ?_
          refine x_iload_n C dL_heard_33 rfl ?_
          refine x_imul C dL_heard_34 ?_
          refine x_iload_n C dL_heard_35 rfl ?_
          refine x_iadd C dL_heard_36 ?_
          refine x_iald2 C he (ix10 t w) (by omega) (by decide) dL_heard_37 ?_
          refine x_aload_n C dL_heard_38 rfl ?_
          refine x_bipush (v := 10) C dL_heard_39 (by decide) ?_
          refine x_iload_n C dL_heard_41 rfl ?_
          refine x_imul C dL_heard_42 ?_
          refine x_iload_n C dL_heard_43 rfl ?_
          refine x_iadd C dL_heard_44 ?_
          refine x_iald2 C he (ix10 b2 w) (by omega) (by decide) dL_heard_45 ?_
          refine x_ic_lt C 51 dL_heard_46 (by decide) (fun h46 => ?_) (fun h46 => ?_)
          · refine x_iinc C dL_heard_51 rfl (nI_m t) (by decide) rfl ?_
            refine x_goto C 5 dL_heard_54 (by decide) ?_
            exact ih (some b2) (isT_dkp (by have := Int32.lt_iff_toInt_lt.mp h46; show -(f (10 * b2 + w)).toInt < -(f (10 * t + w)).toInt; omega) ho)
          · refine x_iload_n C dL_heard_49 rfl ?_
            refine x_istore_n C dL_heard_50 (by decide) rfl ?_
            refine x_iinc C dL_heard_51 rfl (nI_m t) (by decide) rfl ?_
            refine x_goto C 5 dL_heard_54 (by decide) ?_
            exact ih (some t) (isT_dtk (Int32.not_le.mp h23) (by omega) (fun b3 z => by cases z; have := Int32.not_lt.mp h46; have := Int32.le_iff_toInt_le.mp this; show -(f (10 * t + w)).toInt ≤ -(f (10 * b2 + w)).toInt; omega) ho)
  refine x_bipush (v := (-6)) C dL_heard_0 (by decide) ?_
  refine x_istore_n C dL_heard_2 (by decide) rfl ?_
  refine x_iconst (v := 5) C dL_heard_3 (by decide) ?_
  refine x_istore_n C dL_heard_4 (by decide) rfl ?_
  exact hl 6 (Nat.le_refl _) none isT_0
set_option maxRecDepth 100000 in
set_option maxHeartbeats 1000000 in
theorem c_L_heard_z {l : Launch} {E : xEnv} {B N : Nat} {σ : Sg} {a0 w : Nat} (hw : 10 ≤ w) (hw2 : w < 2 ^ 31) : xM l yL_heard cL_heard 4 (some .int) 0 0 0 0 E B [.int (nI w), .ref a0] N σ N σ (some (.int (-6))) := by
  refine xM_of [some (.int _), some (.ref _), none, none] (by decide +kernel) (Nat.le_of_ble_eq_true rfl) rfl (fun k0 C Z => ?_)
  refine x_bipush (v := (-6)) C dL_heard_0 (by decide) ?_
  refine x_istore_n C dL_heard_2 (by decide) rfl ?_
  refine x_iconst (v := 5) C dL_heard_3 (by decide) ?_
  refine x_istore_n C dL_heard_4 (by decide) rfl ?_
  refine x_iload_n C dL_heard_5 rfl ?_
  refine x_if_lt C 57 dL_heard_6 (by decide) (fun h => absurd h (by decide)) (fun _ => ?_)
  refine x_iload_n C dL_heard_9 rfl ?_
  refine x_bipush (v := 10) C dL_heard_10 (by decide) ?_
  refine x_ic_ge C 57 dL_heard_12 (by decide) (fun _ => ?_) (fun h => absurd (nI_le (a := 10) hw hw2) h)
  refine x_iload_n C dL_heard_57 rfl ?_
  exact x_zret C Z dL_heard_58 rfl (Nat.le_of_ble_eq_true rfl) (Nat.le_of_ble_eq_true rfl) rfl rfl rfl
set_option maxRecDepth 100000 in
set_option maxHeartbeats 1000000 in
theorem c_L_add {l : Launch} {E : xEnv} {B N : Nat} {σ σ2 : Sg} {a0 m w : Nat} {f : Fn} (he : σ a0 = some (.inl (xI E, 60, .inl f))) (hm : m < 6) (hw : w < 10) (x : Int32) (hs2 : xup σ a0 (.inl (xI E, 60, .inl (chF f m w x))) = σ2) : xM l yL_add cL_add 5 none 0 0 0 0 E B [.int (nI m), .int (nI w), .int x, .ref a0] N σ N σ2 none := by
  refine xM_of [some (.int _), some (.int _), some (.int _), some (.ref _), none] (by decide +kernel) (Nat.le_of_ble_eq_true rfl) rfl (fun k0 C Z => ?_)
  refine x_aload_n C dL_add_0 rfl ?_
  refine x_bipush (v := 10) C dL_add_1 (by decide) ?_
  refine x_iload_n C dL_add_3 rfl ?_
  refine x_imul C dL_add_4 ?_
  refine x_iload_n C dL_add_5 rfl ?_
  refine x_iadd C dL_add_6 ?_
  refine x_iald2 C he (ix10 m w) (by omega) (by decide) dL_add_7 ?_
  refine x_iload_n C dL_add_8 rfl ?_
  refine x_iadd C dL_add_9 ?_
  refine x_istore C dL_add_10 (by decide) rfl ?_
  refine x_aload_n C dL_add_12 rfl ?_
  refine x_bipush (v := 10) C dL_add_13 (by decide) ?_
  refine x_iload_n C dL_add_15 rfl ?_
  refine x_imul C dL_add_16 ?_
  refine x_iload_n C dL_add_17 rfl ?_
  refine x_iadd C dL_add_18 ?_
  refine x_iload C dL_add_19 rfl ?_
  refine x_if_ge C 28 dL_add_21 (by decide) (fun h21 => ?_) (fun h21 => ?_)
  · refine x_iload C dL_add_28 rfl ?_
    refine x_bipush (v := 99) C dL_add_30 (by decide) ?_
    refine x_ic_le C 40 dL_add_32 (by decide) (fun h32 => ?_) (fun h32 => ?_)
    · refine x_iload C dL_add_40 rfl ?_
      refine x_iast2 C he (ix10 m w) (by omega) (by decide) (fun j _ => by rw [chF, ← cl_c (Int32.not_lt.mpr h21) h32]) hs2 dL_add_42 ?_
      exact x_vret C Z dL_add_43 (Nat.le_of_ble_eq_true rfl) (Nat.le_of_ble_eq_true rfl) rfl rfl
    · refine x_bipush (v := 99) C dL_add_35 (by decide) ?_
      refine x_goto C 42 dL_add_37 (by decide) ?_
      refine x_iast2 C he (ix10 m w) (by omega) (by decide) (fun j _ => by rw [chF, ← cl_b (Int32.not_lt.mpr h21) h32]) hs2 dL_add_42 ?_
      exact x_vret C Z dL_add_43 (Nat.le_of_ble_eq_true rfl) (Nat.le_of_ble_eq_true rfl) rfl rfl
  · refine x_iconst (v := 0) C dL_add_24 (by decide) ?_
    refine x_goto C 42 dL_add_25 (by decide) ?_
    refine x_iast2 C he (ix10 m w) (by omega) (by decide) (fun j _ => by rw [chF, ← cl_a (Int32.not_le.mp h21)]) hs2 dL_add_42 ?_
    exact x_vret C Z dL_add_43 (Nat.le_of_ble_eq_true rfl) (Nat.le_of_ble_eq_true rfl) rfl rfl
set_option maxRecDepth 100000 in
set_option maxHeartbeats 1000000 in
theorem c_L_learns {l : Launch} {E : xEnv} {B N : Nat} {σ : Sg} {a0 w : Nat} {Q : Fn} (he : σ a0 = some (.inl (xI E, 17, .inl Q))) (hw : w < 4) : xM l yL_learns cL_learns 3 (some .int) 0 0 0 0 E B [.int (nI w), .ref a0] N σ N σ (some (.int (lnS (Q (9 + w)) (Q 5)))) := by
  refine xM_of [some (.int _), some (.ref _), none] (by decide +kernel) (Nat.le_of_ble_eq_true rfl) rfl (fun k0 C Z => ?_)
  refine x_aload_n C dL_learns_0 rfl ?_
  refine x_iconst (v := 5) C dL_learns_1 (by decide) ?_
  refine x_iald2 C he (show (5 : Int32) = nI 5 from rfl) (by decide) (by decide) dL_learns_2 ?_
  refine x_aload_n C dL_learns_3 rfl ?_
  refine x_bipush (v := 9) C dL_learns_4 (by decide) ?_
  refine x_iload_n C dL_learns_6 rfl ?_
  refine x_iadd C dL_learns_7 ?_
  refine x_iald2 C he (ix9 w) (by omega) (by decide) dL_learns_8 ?_
  refine x_bipush (v := 20) C dL_learns_9 (by decide) ?_
  refine x_idiv C dL_learns_11 (by decide) ?_
  refine x_isub C dL_learns_12 ?_
  refine x_istore_n C dL_learns_13 (by decide) rfl ?_
  refine x_iload_n C dL_learns_14 rfl ?_
  refine x_iconst (v := 1) C dL_learns_15 (by decide) ?_
  refine x_ic_le C 23 dL_learns_16 (by decide) (fun h16 => ?_) (fun h16 => ?_)
  · refine x_iconst (v := 1) C dL_learns_23 (by decide) ?_
    exact x_zret C Z dL_learns_24 rfl (Nat.le_of_ble_eq_true rfl) (Nat.le_of_ble_eq_true rfl) rfl rfl (if_neg (Int32.not_lt.mpr h16)).symm
  · refine x_iload_n C dL_learns_19 rfl ?_
    refine x_goto C 24 dL_learns_20 (by decide) ?_
    exact x_zret C Z dL_learns_24 rfl (Nat.le_of_ble_eq_true rfl) (Nat.le_of_ble_eq_true rfl) rfl rfl (if_pos (Int32.not_le.mp h16)).symm
def cvS (xs : Nat → Int32) (L q : Nat) : Int32 := if q < L then xs q else 1000308051 * (nI q + 1) + 751363239
set_option maxRecDepth 100000 in
set_option maxHeartbeats 1000000 in
theorem c_L_cell_in {l : Launch} {E : xEnv} {B N bb L : Nat} {xs : Nat → Int32} {σ : Sg} {q : Nat} (hbb : bb < B) (hq : q < L) (hL : L < 2 ^ 31) : xMs l yL_cell cL_cell 2 (some .int) 0 0 0 0 E B bb L xs [.ref bb, .int (nI q)] N σ N σ (some (.int (cvS xs L q))) := by
  refine xMs_of hbb [some (.ref _), some (.int _)] (by decide +kernel) (Nat.le_of_ble_eq_true rfl) rfl (fun k0 C Z hX => ?_)
  refine x_iload_n C dL_cell_0 rfl ?_
  refine x_aload_n C dL_cell_1 rfl ?_
  refine x_slen C hX dL_cell_2 ?_
  refine x_ic_ge C 12 dL_cell_3 (by decide) (fun h => absurd h (nI_ge hq hL)) (fun _ => ?_)
  refine x_aload_n C dL_cell_6 rfl ?_
  refine x_iload_n C dL_cell_7 rfl ?_
  refine x_sld C hX rfl hq hL dL_cell_8 ?_
  refine x_goto C 21 dL_cell_9 (by decide) ?_
  exact x_zret C Z dL_cell_21 rfl (Nat.le_of_ble_eq_true rfl) (Nat.le_of_ble_eq_true rfl) rfl rfl (if_pos hq).symm
set_option maxRecDepth 100000 in
set_option maxHeartbeats 1000000 in
theorem c_L_cell_out {l : Launch} {E : xEnv} {B N bb L : Nat} {xs : Nat → Int32} {σ : Sg} {q : Nat} (hbb : bb < B) (hq : ¬ q < L) (hq2 : q < 2 ^ 31) : xMs l yL_cell cL_cell 2 (some .int) 0 0 0 0 E B bb L xs [.ref bb, .int (nI q)] N σ N σ (some (.int (cvS xs L q))) := by
  refine xMs_of hbb [some (.ref _), some (.int _)] (by decide +kernel) (Nat.le_of_ble_eq_true rfl) rfl (fun k0 C Z hX => ?_)
  refine x_iload_n C dL_cell_0 rfl ?_
  refine x_aload_n C dL_cell_1 rfl ?_
  refine x_slen C hX dL_cell_2 ?_
  refine x_ic_ge C 12 dL_cell_3 (by decide) (fun _ => ?_) (fun h => absurd (nI_le (by omega) hq2) h)
  refine x_ldc C kk_L_7 dL_cell_12 ?_
  refine x_iload_n C dL_cell_14 rfl ?_
  refine x_iconst (v := 1) C dL_cell_15 (by decide) ?_
  refine x_iadd C dL_cell_16 ?_
  refine x_imul C dL_cell_17 ?_
  refine x_ldc C kk_L_8 dL_cell_18 ?_
  refine x_iadd C dL_cell_20 ?_
  exact x_zret C Z dL_cell_21 rfl (Nat.le_of_ble_eq_true rfl) (Nat.le_of_ble_eq_true rfl) rfl rfl (if_neg hq).symm
theorem c_L_cell {l : Launch} {E : xEnv} {B N bb L : Nat} {xs : Nat → Int32} {σ : Sg} {q : Nat} (hbb : bb < B) (hL : L < 2 ^ 31) (hq2 : q < 2 ^ 31) : xMs l yL_cell cL_cell 2 (some .int) 0 0 0 0 E B bb L xs [.ref bb, .int (nI q)] N σ N σ (some (.int (cvS xs L q))) := by
  by_cases h : q < L
  · exact c_L_cell_in hbb h hL
  · exact c_L_cell_out hbb h hq2
end
section
/-! the law's meeting: two rows at once -/
def rr (R : Nat → Fn) (k1 k2 : Nat) (F G : Fn) : Nat → Fn := fun t => if t = k1 then F else if t = k2 then G else R t
section RR
variable {R : Nat → Fn} {k1 k2 : Nat} {F G F2 : Fn}
theorem rr_1 : rr R k1 k2 F G k1 = F := if_pos rfl
theorem rr_2 (h : k1 ≠ k2) : rr R k1 k2 F G k2 = G := by
  unfold rr
  rw [if_neg (fun z => h z.symm), if_pos rfl]
theorem rr_n {t : Nat} (h : t ≠ k1) (h2 : t ≠ k2) : rr R k1 k2 F G t = R t := by
  unfold rr
  rw [if_neg h, if_neg h2]
theorem rr_u1 : upR (rr R k1 k2 F G) k1 F2 = rr R k1 k2 F2 G := by
  funext t
  by_cases h : t = k1
  · subst h; rw [upR_s, rr_1]
  · rw [upR_n h]
    unfold rr
    rw [if_neg h, if_neg h]
theorem rr_u2 (h0 : k1 ≠ k2) : upR (rr R k1 k2 F G) k2 F2 = rr R k1 k2 F F2 := by
  funext t
  by_cases h : t = k2
  · subst h; rw [upR_s, rr_2 h0]
  · rw [upR_n h]
    unfold rr
    by_cases h2 : t = k1
    · rw [if_pos h2, if_pos h2]
    · rw [if_neg h2, if_neg h2, if_neg h, if_neg h]
theorem rr_e : rr R k1 k2 (R k1) (R k2) = R := by
  funext t
  unfold rr
  by_cases h : t = k1
  · rw [if_pos h, h]
  · rw [if_neg h]
    by_cases h2 : t = k2
    · rw [if_pos h2, h2]
    · rw [if_neg h2]
end RR
section RW
variable {E : xEnv} {σ : Sg} {A k1 k2 : Nat} {Q : Fn} {R : Nat → Fn} {F G F2 : Fn}
theorem we_1 (hk : k1 < 4) : wput E σ A Q (rr R k1 k2 F G) (A + 1 + k1) = some (.inl (xI E, 60, .inl F)) := by rw [wput_r hk, rr_1]
theorem we_2 (hk : k2 < 4) (h : k1 ≠ k2) : wput E σ A Q (rr R k1 k2 F G) (A + 1 + k2) = some (.inl (xI E, 60, .inl G)) := by rw [wput_r hk, rr_2 h]
theorem ws_1 (hk : k1 < 4) : xup (wput E σ A Q (rr R k1 k2 F G)) (A + 1 + k1) (.inl (xI E, 60, .inl F2)) = wput E σ A Q (rr R k1 k2 F2 G) := by rw [wput_ur hk, rr_u1]
theorem ws_2 (hk : k2 < 4) (h : k1 ≠ k2) : xup (wput E σ A Q (rr R k1 k2 F G)) (A + 1 + k2) (.inl (xI E, 60, .inl F2)) = wput E σ A Q (rr R k1 k2 F F2) := by rw [wput_ur hk, rr_u2 h]
end RW
def mqC (Q : Fn) (k1 k2 : Nat) : Fn := upd (upd (upd Q 1 (Q 1 + 1)) (13 + k1) (upd Q 1 (Q 1 + 1) (13 + k1) + 1)) (13 + k2) (upd (upd Q 1 (Q 1 + 1)) (13 + k1) (upd Q 1 (Q 1 + 1) (13 + k1) + 1) (13 + k2) + 1)
def mqF (Q : Fn) (k1 k2 m h : Nat) : Fn := mqC (if h = m then upd Q 2 (Q 2 + 1) else Q) k1 k2
def mrF (R : Nat → Fn) (Q : Fn) (k1 k2 m w h : Nat) : Nat → Fn := if h = m then rr R k1 k2 (prF (R k1) m w (lnS (Q (9 + k1)) (Q 5)) (Q 6) 10) (fmF (prF (R k2) m w (lnS (Q (9 + k2)) (Q 5)) (Q 6) 10) m w (Q 6) 6) else rr R k1 k2 (chF (R k1) m w (-(Q 6))) (chF (chF (R k2) m w 1) h w (-(Q 6)))
/-- the seed, and the meaning as which it is heard -/
def mq0 (Q f : Fn) (w : Nat) : Fn := match hdS f w with
  | none => upd Q 0 (nI (sdN (Q 0)))
  | some _ => Q
def mh0 (Q f : Fn) (w : Nat) : Nat := match hdS f w with
  | none => sdN (Q 0) / 16 % 6
  | some h => h
theorem mh0_lt {Q f : Fn} {w : Nat} : mh0 Q f w < 6 := by
  unfold mh0
  split
  · exact Nat.mod_lt _ (by decide)
  · rename_i h e; exact hd_in e
theorem mq0_n {Q f : Fn} {w : Nat} (e : hdS f w = none) : mq0 Q f w = upd Q 0 (nI (sdN (Q 0))) := by unfold mq0; rw [e]
theorem mq0_s {Q f : Fn} {w h : Nat} (e : hdS f w = some h) : mq0 Q f w = Q := by unfold mq0; rw [e]
theorem mh0_n {Q f : Fn} {w : Nat} (e : hdS f w = none) : mh0 Q f w = sdN (Q 0) / 16 % 6 := by unfold mh0; rw [e]
theorem mh0_s {Q f : Fn} {w h : Nat} (e : hdS f w = some h) : mh0 Q f w = h := by unfold mh0; rw [e]
theorem wput_sg {E : xEnv} {σ : Sg} {A : Nat} {Q Q2 : Fn} {R R2 : Nat → Fn} (h : Q = Q2) (h2 : R = R2) : wput E σ A Q R = wput E σ A Q2 R2 := by rw [h, h2]
set_option maxRecDepth 100000 in
set_option maxHeartbeats 1000000 in
theorem lm_C {k0 : xT} {l : Launch} {E : xEnv} {B N : Nat} {σ : Sg} {A k1 k2 m w h : Nat} {Q : Fn} {R : Nat → Fn} (hk1 : k1 < 4) (hk2 : k2 < 4) (hne : k1 ≠ k2) (hm : m < 6) (hw : w < 10) (hh : h < 6) (C : xC k0 l E B cL_meet 9 (some .int) yL_meet.cls yL_meet.name 1 24 0 0) (Z : xZ k0 0 0 N (wput E σ A (mqC Q k1 k2) R) (some (.int (10 * nI w + nI h)))) : xX k0 N 0 0 (wput E σ A Q R) 190 [some (.int (nI k1)), some (.int (nI k2)), some (.int (nI m)), some (.ref A), some (.ref (A + 1 + k1)), some (.ref (A + 1 + k2)), some (.int (nI w)), some (.int (nI h)), none] [] := by
  refine x_aload_n C dL_meet_190 rfl ?_
  refine x_iconst (v := 1) C dL_meet_191 (by decide) ?_
  refine x_dup2 C dL_meet_192 rfl rfl ?_
  refine x_iald2 C wput_q (show (1 : Int32) = nI 1 from rfl) (by decide) (by decide) dL_meet_193 ?_
  refine x_iconst (v := 1) C dL_meet_194 (by decide) ?_
  refine x_iadd C dL_meet_195 ?_
  refine x_iast2 C wput_q (show (1 : Int32) = nI 1 from rfl) (by decide) (by decide) (fun _ _ => rfl) wput_uq dL_meet_196 ?_
  refine x_aload_n C dL_meet_197 rfl ?_
  refine x_bipush (v := 13) C dL_meet_198 (by decide) ?_
  refine x_iload_n C dL_meet_200 rfl ?_
  refine x_iadd C dL_meet_201 ?_
  refine x_dup2 C dL_meet_202 rfl rfl ?_
  refine x_iald2 C wput_q (ix13 k1) (by omega) (by decide) dL_meet_203 ?_
  refine x_iconst (v := 1) C dL_meet_204 (by decide) ?_
  refine x_iadd C dL_meet_205 ?_
  refine x_iast2 C wput_q (ix13 k1) (by omega) (by decide) (fun _ _ => rfl) wput_uq dL_meet_206 ?_
  refine x_aload_n C dL_meet_207 rfl ?_
  refine x_bipush (v := 13) C dL_meet_208 (by decide) ?_
  refine x_iload_n C dL_meet_210 rfl ?_
  refine x_iadd C dL_meet_211 ?_
  refine x_dup2 C dL_meet_212 rfl rfl ?_
  refine x_iald2 C wput_q (ix13 k2) (by omega) (by decide) dL_meet_213 ?_
  refine x_iconst (v := 1) C dL_meet_214 (by decide) ?_
  refine x_iadd C dL_meet_215 ?_
  refine x_iast2 C wput_q (ix13 k2) (by omega) (by decide) (fun _ _ => rfl) wput_uq dL_meet_216 ?_
  refine x_bipush (v := 10) C dL_meet_217 (by decide) ?_
  refine x_iload C dL_meet_219 rfl ?_
  refine x_imul C dL_meet_221 ?_
  refine x_iload C dL_meet_222 rfl ?_
  refine x_iadd C dL_meet_224 ?_
  exact x_zret C Z dL_meet_225 rfl (Nat.le_of_ble_eq_true rfl) (Nat.le_of_ble_eq_true rfl) rfl rfl rfl
set_option maxRecDepth 100000 in
set_option maxHeartbeats 1000000 in
theorem lm_F {k0 : xT} {l : Launch} {E : xEnv} {B N : Nat} {σ : Sg} {A k1 k2 m w h : Nat} {Q : Fn} {R : Nat → Fn} (hk1 : k1 < 4) (hk2 : k2 < 4) (hne : k1 ≠ k2) (hm : m < 6) (hw : w < 10) (hh : h < 6) (hc : ¬ h = m) (C : xC k0 l E B cL_meet 9 (some .int) yL_meet.cls yL_meet.name 1 24 0 0) (Z : xZ k0 0 0 N (wput E σ A (mqF Q k1 k2 m h) (mrF R Q k1 k2 m w h)) (some (.int (10 * nI w + nI h)))) : xX k0 N 0 0 (wput E σ A Q R) 154 [some (.int (nI k1)), some (.int (nI k2)), some (.int (nI m)), some (.ref A), some (.ref (A + 1 + k1)), some (.ref (A + 1 + k2)), some (.int (nI w)), some (.int (nI h)), none] [] := by
  refine xX.sg (wput_sg rfl (rr_e (k1 := k1) (k2 := k2)).symm) ?_
  refine x_iload_n C dL_meet_154 rfl ?_
  refine x_iload C dL_meet_155 rfl ?_
  refine x_aload_n C dL_meet_157 rfl ?_
  refine x_bipush (v := 6) C dL_meet_158 (by decide) ?_
  refine x_iald2 C wput_q (show (6 : Int32) = nI 6 from rfl) (by decide) (by decide) dL_meet_160 ?_
  refine x_ineg C dL_meet_161 ?_
  refine x_aload C dL_meet_162 rfl ?_
  refine x_callS C (c_L_add (we_1 hk1) hm hw (-(Q 6)) (ws_1 hk1)) ks_L_add kl_L_31 dL_meet_164 rfl rfl rfl rfl (Nat.le_of_ble_eq_true rfl) (Nat.le_of_ble_eq_true rfl) (Nat.le_of_ble_eq_true rfl) (Nat.le_of_ble_eq_true rfl) (Nat.le_of_ble_eq_true rfl) ?_
  refine x_iload_n C dL_meet_167 rfl ?_
  refine x_iload C dL_meet_168 rfl ?_
  refine x_iconst (v := 1) C dL_meet_170 (by decide) ?_
  refine x_aload C dL_meet_171 rfl ?_
  refine x_callS C (c_L_add (we_2 hk2 hne) hm hw (1) (ws_2 hk2 hne)) ks_L_add kl_L_31 dL_meet_173 rfl rfl rfl rfl (Nat.le_of_ble_eq_true rfl) (Nat.le_of_ble_eq_true rfl) (Nat.le_of_ble_eq_true rfl) (Nat.le_of_ble_eq_true rfl) (Nat.le_of_ble_eq_true rfl) ?_
  refine x_iload C dL_meet_176 rfl ?_
  refine x_iload C dL_meet_178 rfl ?_
  refine x_aload_n C dL_meet_180 rfl ?_
  refine x_bipush (v := 6) C dL_meet_181 (by decide) ?_
  refine x_iald2 C wput_q (show (6 : Int32) = nI 6 from rfl) (by decide) (by decide) dL_meet_183 ?_
  refine x_ineg C dL_meet_184 ?_
  refine x_aload C dL_meet_185 rfl ?_
  refine x_callS C (c_L_add (we_2 hk2 hne) hh hw (-(Q 6)) (ws_2 hk2 hne)) ks_L_add kl_L_31 dL_meet_187 rfl rfl rfl rfl (Nat.le_of_ble_eq_true rfl) (Nat.le_of_ble_eq_true rfl) (Nat.le_of_ble_eq_true rfl) (Nat.le_of_ble_eq_true rfl) (Nat.le_of_ble_eq_true rfl) ?_
  refine lm_C hk1 hk2 hne hm hw hh C ?_
  unfold mqF mrF at Z
  rw [if_neg hc, if_neg hc] at Z
  exact Z
set_option maxRecDepth 100000 in
set_option maxHeartbeats 1000000 in
theorem lm_S {k0 : xT} {l : Launch} {E : xEnv} {B N : Nat} {σ : Sg} {A k1 k2 m w h : Nat} {Q : Fn} {R : Nat → Fn} (hk1 : k1 < 4) (hk2 : k2 < 4) (hne : k1 ≠ k2) (hm : m < 6) (hw : w < 10) (hh : h < 6) (hc : h = m) (C : xC k0 l E B cL_meet 9 (some .int) yL_meet.cls yL_meet.name 1 24 0 0) (Z : xZ k0 0 0 N (wput E σ A (mqF Q k1 k2 m h) (mrF R Q k1 k2 m w h)) (some (.int (10 * nI w + nI h)))) : xX k0 N 0 0 (wput E σ A Q R) 36 [some (.int (nI k1)), some (.int (nI k2)), some (.int (nI m)), some (.ref A), some (.ref (A + 1 + k1)), some (.ref (A + 1 + k2)), some (.int (nI w)), some (.int (nI h)), none] [] := by
  have hl2 : ∀ i, i ≤ 6 → xX k0 N 0 0 (wput E σ A Q (rr R k1 k2 (prF (R k1) m w (lnS (Q (9 + k1)) (Q 5)) (Q 6) 10) (fmF (prF (R k2) m w (lnS (Q (9 + k2)) (Q 5)) (Q 6) 10) m w (Q 6) i))) 111 [some (.int (nI k1)), some (.int (nI k2)), some (.int (nI m)), some (.ref A), some (.ref (A + 1 + k1)), some (.ref (A + 1 + k2)), some (.int (nI w)), some (.int (nI h)), some (.int (nI i))] [] := by
    refine x_for 6 ?_ ?_
    · refine x_iload C dL_meet_111 rfl ?_
      refine x_bipush (v := 6) C dL_meet_113 (by decide) ?_
      refine x_ic_ge C 144 dL_meet_115 (by decide) (fun _ => ?_) (fun h => absurd (nI_le (a := 6) (Nat.le_refl _) (by decide)) h)
      refine x_aload_n C dL_meet_144 rfl ?_
      refine x_iconst (v := 2) C dL_meet_145 (by decide) ?_
      refine x_dup2 C dL_meet_146 rfl rfl ?_
      refine x_iald2 C wput_q (show (2 : Int32) = nI 2 from rfl) (by decide) (by decide) dL_meet_147 ?_
      refine x_iconst (v := 1) C dL_meet_148 (by decide) ?_
      refine x_iadd C dL_meet_149 ?_
      refine x_iast2 C wput_q (show (2 : Int32) = nI 2 from rfl) (by decide) (by decide) (fun _ _ => rfl) wput_uq dL_meet_150 ?_
      refine x_goto C 190 dL_meet_151 (by decide) ?_
      refine xX.cl (lm_C hk1 hk2 hne hm hw hh C (Q := upd Q 2 (Q 2 + 1)) (R := rr R k1 k2 (prF (R k1) m w (lnS (Q (9 + k1)) (Q 5)) (Q 6) 10) (fmF (prF (R k2) m w (lnS (Q (9 + k2)) (Q 5)) (Q 6) 10) m w (Q 6) 6)) ?_) rfl (And.intro rfl (And.intro rfl (And.intro rfl (And.intro rfl (And.intro rfl (And.intro rfl (And.intro rfl (And.intro rfl trivial)))))))) rfl
      unfold mqF mrF at Z
      rw [if_pos hc, if_pos hc] at Z
      exact Z
    · intro i hi ih
      by_cases hq : i = m
      · refine x_iload C dL_meet_111 rfl ?_
        refine x_bipush (v := 6) C dL_meet_113 (by decide) ?_
        refine x_ic_ge C 144 dL_meet_115 (by decide) (fun h => absurd h (nI_ge (b := 6) hi (by decide))) (fun _ => ?_)
        refine x_iload C dL_meet_118 rfl ?_
        refine x_iload_n C dL_meet_120 rfl ?_
        refine x_ic_eq C 138 dL_meet_121 (by decide) (fun _ => ?_) (fun h => absurd (congrArg nI hq) h)
        refine x_iinc C dL_meet_138 rfl (nI_inc _) (by decide) rfl ?_
        refine x_goto C 111 dL_meet_141 (by decide) ?_
        refine xX.cl ih (wput_sg rfl (congrArg (rr R k1 k2 _) (by rw [hq]; exact fmF_e))) (And.intro rfl (And.intro rfl (And.intro rfl (And.intro rfl (And.intro rfl (And.intro rfl (And.intro rfl (And.intro rfl (And.intro rfl trivial))))))))) rfl
      · refine x_iload C dL_meet_111 rfl ?_
        refine x_bipush (v := 6) C dL_meet_113 (by decide) ?_
        refine x_ic_ge C 144 dL_meet_115 (by decide) (fun h => absurd h (nI_ge (b := 6) hi (by decide))) (fun _ => ?_)
        refine x_iload C dL_meet_118 rfl ?_
        refine x_iload_n C dL_meet_120 rfl ?_
        refine x_ic_eq C 138 dL_meet_121 (by decide) (fun h => absurd h (nI_neL (by omega) (by omega) hq)) (fun _ => ?_)
        refine x_iload C dL_meet_124 rfl ?_
        refine x_iload C dL_meet_126 rfl ?_
        refine x_aload_n C dL_meet_128 rfl ?_
        refine x_bipush (v := 6) C dL_meet_129 (by decide) ?_
        refine x_iald2 C wput_q (show (6 : Int32) = nI 6 from rfl) (by decide) (by decide) dL_meet_131 ?_
        refine x_ineg C dL_meet_132 ?_
        refine x_aload C dL_meet_133 rfl ?_
        refine x_callS C (c_L_add (we_2 hk2 hne) hi hw (-(Q 6)) (ws_2 hk2 hne)) ks_L_add kl_L_31 dL_meet_135 rfl rfl rfl rfl (Nat.le_of_ble_eq_true rfl) (Nat.le_of_ble_eq_true rfl) (Nat.le_of_ble_eq_true rfl) (Nat.le_of_ble_eq_true rfl) (Nat.le_of_ble_eq_true rfl) ?_
        refine x_iinc C dL_meet_138 rfl (nI_inc _) (by decide) rfl ?_
        refine x_goto C 111 dL_meet_141 (by decide) ?_
        refine xX.cl ih (wput_sg rfl (congrArg (rr R k1 k2 _) (fmF_s hw hq))) (And.intro rfl (And.intro rfl (And.intro rfl (And.intro rfl (And.intro rfl (And.intro rfl (And.intro rfl (And.intro rfl (And.intro rfl trivial))))))))) rfl
  have hl1 : ∀ i, i ≤ 10 → xX k0 N 0 0 (wput E σ A Q (rr R k1 k2 (prF (R k1) m w (lnS (Q (9 + k1)) (Q 5)) (Q 6) i) (prF (R k2) m w (lnS (Q (9 + k2)) (Q 5)) (Q 6) i))) 39 [some (.int (nI k1)), some (.int (nI k2)), some (.int (nI m)), some (.ref A), some (.ref (A + 1 + k1)), some (.ref (A + 1 + k2)), some (.int (nI w)), some (.int (nI h)), some (.int (nI i))] [] := by
    refine x_for 10 ?_ ?_
    · refine x_iload C dL_meet_39 rfl ?_
      refine x_bipush (v := 10) C dL_meet_41 (by decide) ?_
      refine x_ic_ge C 108 dL_meet_43 (by decide) (fun _ => ?_) (fun h => absurd (nI_le (a := 10) (Nat.le_refl _) (by decide)) h)
      refine x_iconst (v := 0) C dL_meet_108 (by decide) ?_
      refine x_istore C dL_meet_109 (by decide) rfl ?_
      refine xX.cl (hl2 0 (by omega)) (wput_sg rfl (congrArg (rr R k1 k2 _) fmF_0.symm)) (And.intro rfl (And.intro rfl (And.intro rfl (And.intro rfl (And.intro rfl (And.intro rfl (And.intro rfl (And.intro rfl (And.intro rfl trivial))))))))) rfl
    · intro i hi ih
      refine x_iload C dL_meet_39 rfl ?_
      refine x_bipush (v := 10) C dL_meet_41 (by decide) ?_
      refine x_ic_ge C 108 dL_meet_43 (by decide) (fun h => absurd h (nI_ge (b := 10) hi (by decide))) (fun _ => ?_)
      refine x_iload_n C dL_meet_46 rfl ?_
      refine x_iload C dL_meet_47 rfl ?_
      refine xX.mrg 69 (if i = w then (lnS (Q (9 + k1)) (Q 5)) else -(Q 6)) (fun hk69 => ?_) ?_
      · refine x_iload C dL_meet_49 rfl ?_
        refine x_iload C dL_meet_51 rfl ?_
        refine x_ic_ne C 64 dL_meet_53 (by decide) (fun h53 => ?_) (fun h53 => ?_)
        · refine x_aload_n C dL_meet_64 rfl ?_
          refine x_bipush (v := 6) C dL_meet_65 (by decide) ?_
          refine x_iald2 C wput_q (show (6 : Int32) = nI 6 from rfl) (by decide) (by decide) dL_meet_67 ?_
          refine x_ineg C dL_meet_68 ?_
          exact xX.vl hk69 (if_neg (fun z => h53 (congrArg nI z)))
        · refine x_iload_n C dL_meet_56 rfl ?_
          refine x_aload_n C dL_meet_57 rfl ?_
          refine x_callS C (c_L_learns wput_q hk1) ks_L_learns kl_L_28 dL_meet_58 rfl rfl rfl rfl (Nat.le_of_ble_eq_true rfl) (Nat.le_of_ble_eq_true rfl) (Nat.le_of_ble_eq_true rfl) (Nat.le_of_ble_eq_true rfl) (Nat.le_of_ble_eq_true rfl) ?_
          refine x_goto C 69 dL_meet_61 (by decide) ?_
          exact xX.vl hk69 (if_pos ((nI_eq (by omega) (by omega)).mp h53))
      refine x_aload C dL_meet_69 rfl ?_
      refine x_callS C (c_L_add (we_1 hk1) hm hi (if i = w then (lnS (Q (9 + k1)) (Q 5)) else -(Q 6)) (ws_1 hk1)) ks_L_add kl_L_31 dL_meet_71 rfl rfl rfl rfl (Nat.le_of_ble_eq_true rfl) (Nat.le_of_ble_eq_true rfl) (Nat.le_of_ble_eq_true rfl) (Nat.le_of_ble_eq_true rfl) (Nat.le_of_ble_eq_true rfl) ?_
      refine x_iload_n C dL_meet_74 rfl ?_
      refine x_iload C dL_meet_75 rfl ?_
      refine xX.mrg 97 (if i = w then (lnS (Q (9 + k2)) (Q 5)) else -(Q 6)) (fun hk97 => ?_) ?_
      · refine x_iload C dL_meet_77 rfl ?_
        refine x_iload C dL_meet_79 rfl ?_
        refine x_ic_ne C 92 dL_meet_81 (by decide) (fun h81 => ?_) (fun h81 => ?_)
        · refine x_aload_n C dL_meet_92 rfl ?_
          refine x_bipush (v := 6) C dL_meet_93 (by decide) ?_
          refine x_iald2 C wput_q (show (6 : Int32) = nI 6 from rfl) (by decide) (by decide) dL_meet_95 ?_
          refine x_ineg C dL_meet_96 ?_
          exact xX.vl hk97 (if_neg (fun z => h81 (congrArg nI z)))
        · refine x_iload_n C dL_meet_84 rfl ?_
          refine x_aload_n C dL_meet_85 rfl ?_
          refine x_callS C (c_L_learns wput_q hk2) ks_L_learns kl_L_28 dL_meet_86 rfl rfl rfl rfl (Nat.le_of_ble_eq_true rfl) (Nat.le_of_ble_eq_true rfl) (Nat.le_of_ble_eq_true rfl) (Nat.le_of_ble_eq_true rfl) (Nat.le_of_ble_eq_true rfl) ?_
          refine x_goto C 97 dL_meet_89 (by decide) ?_
          exact xX.vl hk97 (if_pos ((nI_eq (by omega) (by omega)).mp h81))
      refine x_aload C dL_meet_97 rfl ?_
      refine x_callS C (c_L_add (we_2 hk2 hne) hm hi (if i = w then (lnS (Q (9 + k2)) (Q 5)) else -(Q 6)) (ws_2 hk2 hne)) ks_L_add kl_L_31 dL_meet_99 rfl rfl rfl rfl (Nat.le_of_ble_eq_true rfl) (Nat.le_of_ble_eq_true rfl) (Nat.le_of_ble_eq_true rfl) (Nat.le_of_ble_eq_true rfl) (Nat.le_of_ble_eq_true rfl) ?_
      refine x_iinc C dL_meet_102 rfl (nI_inc _) (by decide) rfl ?_
      refine x_goto C 39 dL_meet_105 (by decide) ?_
      refine xX.cl ih (wput_sg rfl (by rw [prF_s, prF_s])) (And.intro rfl (And.intro rfl (And.intro rfl (And.intro rfl (And.intro rfl (And.intro rfl (And.intro rfl (And.intro rfl (And.intro rfl trivial))))))))) rfl
  refine x_iconst (v := 0) C dL_meet_36 (by decide) ?_
  refine x_istore C dL_meet_37 (by decide) rfl ?_
  refine xX.cl (hl1 0 (by omega)) (wput_sg rfl (by rw [prF_0, prF_0]; exact rr_e.symm)) (And.intro rfl (And.intro rfl (And.intro rfl (And.intro rfl (And.intro rfl (And.intro rfl (And.intro rfl (And.intro rfl (And.intro rfl trivial))))))))) rfl
set_option maxRecDepth 100000 in
set_option maxHeartbeats 1000000 in
theorem c_L_meet {l : Launch} {E : xEnv} {B N : Nat} {σ : Sg} {A k1 k2 m w s : Nat} {Q : Fn} {R : Nat → Fn} (hk1 : k1 < 4) (hk2 : k2 < 4) (hne : k1 ≠ k2) (hm : m < 6) (hwd : wdS (R k1) m = some w) (hq : Q 0 = nI s) (h6 : s < 65536) : xM l yL_meet cL_meet 9 (some .int) 1 24 0 0 E B [.int (nI k1), .int (nI k2), .int (nI m), .ref A, .ref (A + 1 + k1), .ref (A + 1 + k2)] N (wput E σ A Q R) N (wput E σ A (mqF (mq0 Q (R k2) w) k1 k2 m (mh0 Q (R k2) w)) (mrF R (mq0 Q (R k2) w) k1 k2 m w (mh0 Q (R k2) w))) (some (.int (10 * nI w + nI (mh0 Q (R k2) w)))) := by
  refine xM_of [some (.int _), some (.int _), some (.int _), some (.ref _), some (.ref _), some (.ref _), none, none, none] (by decide +kernel) (Nat.le_of_ble_eq_true rfl) rfl (fun k0 C Z => ?_)
  have hw : w < 10 := wd_in hwd
  have hh : mh0 Q (R k2) w < 6 := mh0_lt
  have hB : xX k0 N 0 0 (wput E σ A (mq0 Q (R k2) w) R) 30 [some (.int (nI k1)), some (.int (nI k2)), some (.int (nI m)), some (.ref A), some (.ref (A + 1 + k1)), some (.ref (A + 1 + k2)), some (.int (nI w)), some (.int (nI (mh0 Q (R k2) w))), none] [] := by
    by_cases hc : (mh0 Q (R k2) w) = m
    · refine x_iload C dL_meet_30 rfl ?_
      refine x_iload_n C dL_meet_32 rfl ?_
      refine x_ic_ne C 154 dL_meet_33 (by decide) (fun h => absurd (congrArg nI hc) h) (fun _ => ?_)
      exact lm_S hk1 hk2 hne hm hw hh hc C Z
    · refine x_iload C dL_meet_30 rfl ?_
      refine x_iload_n C dL_meet_32 rfl ?_
      refine x_ic_ne C 154 dL_meet_33 (by decide) (fun _ => ?_) (fun h => absurd h (nI_neL (by omega) (by omega) hc))
      exact lm_F hk1 hk2 hne hm hw hh hc C Z
  refine x_iload_n C dL_meet_0 rfl ?_
  refine x_aload C dL_meet_1 rfl ?_
  refine x_callS C (c_L_word (wput_r hk1) hm) ks_L_word kl_L_16 dL_meet_3 rfl rfl rfl rfl (Nat.le_of_ble_eq_true rfl) (Nat.le_of_ble_eq_true rfl) (Nat.le_of_ble_eq_true rfl) (Nat.le_of_ble_eq_true rfl) (Nat.le_of_ble_eq_true rfl) ?_
  rw [hwd]
  refine x_istore C dL_meet_6 (by decide) rfl ?_
  refine x_iload C dL_meet_8 rfl ?_
  refine x_aload C dL_meet_10 rfl ?_
  refine x_callS C (c_L_heard (wput_r hk2) hw) ks_L_heard kl_L_22 dL_meet_12 rfl rfl rfl rfl (Nat.le_of_ble_eq_true rfl) (Nat.le_of_ble_eq_true rfl) (Nat.le_of_ble_eq_true rfl) (Nat.le_of_ble_eq_true rfl) (Nat.le_of_ble_eq_true rfl) ?_
  refine x_istore C dL_meet_15 (by decide) rfl ?_
  cases ho : hdS (R k2) w with
  | none =>
    rw [mq0_n ho, mh0_n ho] at hB
    refine x_iload C dL_meet_17 rfl ?_
    refine x_if_ge C 30 dL_meet_19 (by decide) (fun h => absurd h (by decide)) (fun _ => ?_)
    refine x_bipush (v := 6) C dL_meet_22 (by decide) ?_
    refine x_aload_n C dL_meet_24 rfl ?_
    refine x_callS C (c_L_draw wput_q hq h6 (n := 6) (by decide) (by decide) wput_uq) ks_L_draw kl_L_25 dL_meet_25 rfl rfl rfl rfl (Nat.le_of_ble_eq_true rfl) (Nat.le_of_ble_eq_true rfl) (Nat.le_of_ble_eq_true rfl) (Nat.le_of_ble_eq_true rfl) (Nat.le_of_ble_eq_true rfl) ?_
    refine x_istore C dL_meet_28 (by decide) rfl ?_
    rw [hq] at hB
    exact hB
  | some b2 =>
    have hb2 : b2 < 6 := hd_in ho
    rw [mq0_s ho, mh0_s ho] at hB
    refine x_iload C dL_meet_17 rfl ?_
    refine x_if_ge C 30 dL_meet_19 (by decide) (fun _ => ?_) (fun h => absurd (nI_pos' (n := b2) (by omega)) h)
    exact hB
end
section
/-! the class's village V beside the law's: numbers Q, rows R; A bounds the ages; c children and y years are not yet counted -/
def SR (V : Vs) (Q f : Fn) (A k : Nat) : Prop := (V 10 k = 1 ∧ (∃ a, a ≤ A ∧ V 11 k = nI a) ∧ Q (9 + k) = V 11 k ∧ Q (13 + k) = V 12 k ∧ WR1 f (V k)) ∨ (¬ V 10 k = 1 ∧ Q (9 + k) = -1 ∧ ∀ j, j < 60 → f j = 0)
def LR (V : Vs) (Q : Fn) (R : Nat → Fn) (A : Nat) (c y : Int32) : Prop :=
  IU V ∧ ((∃ x, x ≤ 9 ∧ V 8 1 = nI x) ∧ ∃ x, x ≤ 99 ∧ V 8 2 = nI x) ∧ (Q 0 = V 9 0 ∧ Q 1 = V 9 1 ∧ Q 2 = V 9 2 ∧ Q 3 + c = V 9 3 ∧ Q 4 + y = V 9 4) ∧ (∀ j, j < 4 → Q (5 + j) = V 8 j) ∧ (∀ k, k < 4 → SR V Q (R k) A k) ∧ (∀ k, 4 ≤ k → k < 8 → ¬ V 10 k = 1)
theorem SR_cg {V V2 : Vs} {Q Q2 f f2 : Fn} {A k : Nat} (h10 : V2 10 k = V 10 k) (h11 : V2 11 k = V 11 k) (h12 : V2 12 k = V 12 k) (hk : V2 k = V k) (q9 : Q2 (9 + k) = Q (9 + k)) (q13 : Q2 (13 + k) = Q (13 + k)) (hf : ∀ j, j < 60 → f2 j = f j) (H : SR V Q f A k) : SR V2 Q2 f2 A k := by
  unfold SR
  rw [h10, h11, h12, hk, q9, q13]
  rcases H with ⟨a1, a2, a3, a4, a5⟩ | ⟨a1, a2, a3⟩
  · exact Or.inl ⟨a1, a2, a3, a4, fun m w hm hw => (hf _ (by omega)).trans (a5.1 m w hm hw), a5.2⟩
  · exact Or.inr ⟨a1, a2, fun j hj => (hf j hj).trans (a3 j hj)⟩
theorem SR.is {V : Vs} {Q f : Fn} {A k : Nat} (H : SR V Q f A k) (hp : V 10 k = 1) : (∃ a, a ≤ A ∧ V 11 k = nI a) ∧ Q (9 + k) = V 11 k ∧ Q (13 + k) = V 12 k ∧ WR1 f (V k) := by
  rcases H with ⟨a1, a2⟩ | ⟨a1, a2, a3⟩
  · exact a2
  · exact absurd hp a1
theorem SR.no {V : Vs} {Q f : Fn} {A k : Nat} (H : SR V Q f A k) (hp : ¬ V 10 k = 1) : Q (9 + k) = -1 ∧ ∀ j, j < 60 → f j = 0 := by
  rcases H with ⟨a1, a2⟩ | ⟨a1, a2, a3⟩
  · exact absurd a1 hp
  · exact ⟨a2, a3⟩
section LRA
variable {V : Vs} {Q : Fn} {R : Nat → Fn} {A k : Nat} {c y : Int32}
theorem LR.sr (H : LR V Q R A c y) (hk : k < 4) : SR V Q (R k) A k := H.2.2.2.2.1 k hk
theorem LR.hi (H : LR V Q R A c y) (h4 : 4 ≤ k) (h8 : k < 8) : ¬ V 10 k = 1 := H.2.2.2.2.2 k h4 h8
theorem LR.q5 (H : LR V Q R A c y) {j : Nat} (hj : j < 4) : Q (5 + j) = V 8 j := H.2.2.2.1 j hj
theorem LR.sk (H : LR V Q R A c y) : sok V := H.1.2
theorem LR.age (H : LR V Q R A c y) (hk : k < 4) (hp : V 10 k = 1) : ∃ a, a ≤ A ∧ V 11 k = nI a ∧ Q (9 + k) = nI a := by
  obtain ⟨⟨a, h1, h2⟩, h3, -⟩ := (H.sr hk).is hp
  exact ⟨a, h1, h2, h3.trans h2⟩
theorem LR.row (H : LR V Q R A c y) (hk : k < 4) (hp : V 10 k = 1) : WR1 (R k) (V k) := ((H.sr hk).is hp).2.2.2
/-- who is there, by the law's numbers -/
theorem LR.neg (H : LR V Q R A c y) (hA : A < 2 ^ 31) (hk : k < 4) : Q (9 + k) < 0 ↔ ¬ V 10 k = 1 := by
  by_cases hp : V 10 k = 1
  · obtain ⟨a, h1, h2, h3⟩ := H.age hk hp
    rw [h3]
    exact ⟨fun z => absurd z (nI_pos (by omega)), fun z => absurd hp z⟩
  · rw [((H.sr hk).no hp).1]
    exact ⟨fun _ => hp, fun _ => by decide⟩
theorem LR.pos (H : LR V Q R A c y) (hA : A < 2 ^ 31) (hk : k < 4) : 0 ≤ Q (9 + k) ↔ V 10 k = 1 := by
  constructor
  · intro h
    by_cases hp : V 10 k = 1
    · exact hp
    · exact absurd ((H.neg hA hk).mpr hp) (Int32.not_lt.mpr h)
  · intro h
    exact Int32.not_lt.mp (fun z => (H.neg hA hk).mp z h)
end LRA
theorem LR_cg {V W : Vs} {Q : Fn} {R : Nat → Fn} {A : Nat} {c y : Int32} (h : ∀ r j, inS r j → W r j = V r j) (H : LR V Q R A c y) : LR W Q R A c y := by
  obtain ⟨⟨⟨r1, r2⟩, s⟩, ⟨h1, h2⟩, ⟨q0, q1, q2, q3, q4⟩, q5, hs, hn⟩ := H
  have e9 : ∀ j, j < 5 → W 9 j = V 9 j := fun j hj => h 9 j (Or.inr (Or.inl ⟨rfl, hj⟩))
  have e8 : ∀ j, W 8 j = V 8 j := fun j => h 8 j (Or.inl (by omega))
  have e10 : ∀ k, k < 8 → W 10 k = V 10 k := fun k hk => h 10 k (Or.inr (Or.inr ⟨Or.inl rfl, hk⟩))
  have e11 : ∀ k, k < 8 → W 11 k = V 11 k := fun k hk => h 11 k (Or.inr (Or.inr ⟨Or.inr (Or.inl rfl), hk⟩))
  have e12 : ∀ k, k < 8 → W 12 k = V 12 k := fun k hk => h 12 k (Or.inr (Or.inr ⟨Or.inr (Or.inr rfl), hk⟩))
  have ek : ∀ k, k < 8 → W k = V k := fun k hk => funext fun j => h k j (Or.inl (by omega))
  refine ⟨⟨⟨fun t ht j hj => by rw [ek t ht]; exact r1 t ht j hj, by rw [e8]; exact r2⟩, ?_⟩, ⟨by rw [e8]; exact h1, by rw [e8]; exact h2⟩, ⟨?_, ?_, ?_, ?_, ?_⟩, fun j hj => (q5 j hj).trans (e8 j).symm, fun k hk => ?_, fun k h4 h8 => by rw [e10 k h8]; exact hn k h4 h8⟩
  · obtain ⟨q, hq, e⟩ := s
    exact ⟨q, hq, (e9 0 (by decide)).trans e⟩
  · exact q0.trans (e9 0 (by decide)).symm
  · exact q1.trans (e9 1 (by decide)).symm
  · exact q2.trans (e9 2 (by decide)).symm
  · exact q3.trans (e9 3 (by decide)).symm
  · exact q4.trans (e9 4 (by decide)).symm
  · exact SR_cg (e10 k (by omega)) (e11 k (by omega)) (e12 k (by omega)) (ek k (by omega)) rfl rfl (fun _ _ => rfl) (hs k hk)
theorem LR_us {V : Vs} {Q : Fn} {R : Nat → Fn} {A m n : Nat} {c y : Int32} (H : LR V Q R A c y) : LR (usR V m n) Q R A c y := LR_cg (fun r j h => by rw [usR_r (by unfold inS at h; omega)]) H
theorem LR_cp {V W : Vs} {Q : Fn} {R : Nat → Fn} {A : Nat} {c y : Int32} (H : LR V Q R A c y) : LR (cpV W V) Q R A c y := LR_cg (fun _ _ h => cp_in h) H
/-- where one speaker changes alone -/
theorem LR_k {V V2 : Vs} {Q Q2 : Fn} {R R2 : Nat → Fn} {A q : Nat} {c y c2 : Int32} (hq : q < 4) (H : LR V Q R A c y) (hI : IU V2) (h8 : V2 8 = V 8) (h9 : ∀ j, j ≠ 3 → V2 9 j = V 9 j) (hc : Q 3 + c2 = V2 9 3) (hV : ∀ k, k < 8 → k ≠ q → V2 10 k = V 10 k ∧ V2 11 k = V 11 k ∧ V2 12 k = V 12 k ∧ V2 k = V k) (hQ : ∀ j, j < 9 → Q2 j = Q j) (hQk : ∀ k, k < 4 → k ≠ q → Q2 (9 + k) = Q (9 + k) ∧ Q2 (13 + k) = Q (13 + k)) (hR : ∀ k, k < 4 → k ≠ q → R2 k = R k) (hn : SR V2 Q2 (R2 q) A q) : LR V2 Q2 R2 A c2 y := by
  obtain ⟨-, ⟨h1, h2⟩, ⟨q0, q1, q2, q3, q4⟩, q5, hs, hn2⟩ := H
  refine ⟨hI, ⟨by rw [h8]; exact h1, by rw [h8]; exact h2⟩, ⟨?_, ?_, ?_, ?_, ?_⟩, fun j hj => by rw [hQ _ (by omega), h8]; exact q5 j hj, fun k hk => ?_, fun k h4 h8 => by rw [(hV k h8 (by omega)).1]; exact hn2 k h4 h8⟩
  · rw [hQ 0 (by decide), h9 0 (by decide)]; exact q0
  · rw [hQ 1 (by decide), h9 1 (by decide)]; exact q1
  · rw [hQ 2 (by decide), h9 2 (by decide)]; exact q2
  · rw [hQ 3 (by decide)]; exact hc
  · rw [hQ 4 (by decide), h9 4 (by decide)]; exact q4
  · by_cases e : k = q
    · subst e; exact hn
    · obtain ⟨a1, a2, a3, a4⟩ := hV k (by omega) e
      obtain ⟨b1, b2⟩ := hQk k hk e
      rw [hR k hk e]
      exact SR_cg a1 a2 a3 a4 b1 b2 (fun _ _ => rfl) (hs k hk)
section LRS
variable {V : Vs} {Q : Fn} {R : Nat → Fn} {A k : Nat} {c y : Int32}
theorem LR_seed (H : LR V Q R A c y) {s : Nat} (hs : s < 65536) : LR (up2 V 9 0 (nI s)) (upd Q 0 (nI s)) R A c y := by
  obtain ⟨⟨r, -⟩, ⟨h1, h2⟩, ⟨q0, q1, q2, q3, q4⟩, q5, hS, hn⟩ := H
  refine ⟨⟨rg_up (by decide) r, s, hs, up2_s⟩, ⟨by rw [up2_r (by decide)]; exact h1, by rw [up2_r (by decide)]; exact h2⟩, ⟨by rw [up2_s, pk_us], ?_, ?_, ?_, ?_⟩, fun j hj => by rw [pk_un (by omega), up2_r (by decide)]; exact q5 j hj, fun k hk => ?_, fun k h4 h8 => by rw [up2_r (by decide)]; exact hn k h4 h8⟩
  · rw [pk_un (by decide), up2_n (by omega)]; exact q1
  · rw [pk_un (by decide), up2_n (by omega)]; exact q2
  · rw [pk_un (by decide), up2_n (by omega)]; exact q3
  · rw [pk_un (by decide), up2_n (by omega)]; exact q4
  · exact SR_cg (by rw [up2_r (by decide)]) (by rw [up2_r (by decide)]) (by rw [up2_r (by decide)]) (up2_r (by omega)) (pk_un (by omega)) (pk_un (by omega)) (fun _ _ => rfl) (hS k hk)
theorem LR_set (H : LR V Q R A c y) {j x : Nat} (hj : j < 4) (hx1 : j = 1 → x ≤ 9) (hx2 : j = 2 → x ≤ 99) (hx3 : j = 3 → x ≤ 100) : LR (up2 V 8 j (nI x)) (upd Q (5 + j) (nI x)) R A c y := by
  obtain ⟨⟨⟨r1, r2⟩, s⟩, ⟨h1, h2⟩, ⟨q0, q1, q2, q3, q4⟩, q5, hS, hn⟩ := H
  refine ⟨⟨⟨fun t ht q hq => by rw [up2_r (by omega)]; exact r1 t ht q hq, ?_⟩, sk_up (by omega) s⟩, ⟨?_, ?_⟩, ⟨?_, ?_, ?_, ?_, ?_⟩, fun i hi => ?_, fun k hk => ?_, fun k h4 h8 => by rw [up2_r (by decide)]; exact hn k h4 h8⟩
  · by_cases e : j = 3
    · subst e; exact ⟨x, hx3 rfl, up2_s⟩
    · rw [up2_n (by omega)]; exact r2
  · by_cases e : j = 1
    · subst e; exact ⟨x, hx1 rfl, up2_s⟩
    · rw [up2_n (by omega)]; exact h1
  · by_cases e : j = 2
    · subst e; exact ⟨x, hx2 rfl, up2_s⟩
    · rw [up2_n (by omega)]; exact h2
  · rw [pk_un (by omega), up2_r (by decide)]; exact q0
  · rw [pk_un (by omega), up2_r (by decide)]; exact q1
  · rw [pk_un (by omega), up2_r (by decide)]; exact q2
  · rw [pk_un (by omega), up2_r (by decide)]; exact q3
  · rw [pk_un (by omega), up2_r (by decide)]; exact q4
  · by_cases e : i = j
    · subst e; rw [up2_s, pk_us]
    · rw [up2_n (by omega), pk_un (by omega)]; exact q5 i hi
  · exact SR_cg (by rw [up2_r (by decide)]) (by rw [up2_r (by decide)]) (by rw [up2_r (by decide)]) (up2_r (by omega)) (pk_un (by omega)) (pk_un (by omega)) (fun _ _ => rfl) (hS k hk)
theorem LR_setAge (H : LR V Q R 99 c y) (hk : k < 4) (hp : V 10 k = 1) {a : Nat} (ha : a ≤ 99) : LR (up2 V 11 k (nI a)) (upd Q (9 + k) (nI a)) R 99 c y := by
  obtain ⟨-, b2, b3, b4⟩ := (H.sr hk).is hp
  refine LR_k hk H (iu_up (by decide) (by omega) H.1) (up2_r (by decide)) (fun j _ => by rw [up2_r (by decide)]) (by rw [up2_r (by decide)]; exact H.2.2.1.2.2.2.1) (fun i hi hne => ⟨by rw [up2_r (by decide)], up2_n (by omega), by rw [up2_r (by decide)], up2_r (by omega)⟩) (fun j hj => pk_un (by omega)) (fun i hi hne => ⟨pk_un (by omega), pk_un (by omega)⟩) (fun _ _ _ => rfl) (Or.inl ⟨by rw [up2_r (by decide)]; exact hp, ⟨a, ha, up2_s⟩, by rw [up2_s, pk_us], ?_, ?_⟩)
  · rw [pk_un (by omega), up2_r (by decide)]; exact b3
  · rw [up2_r (by omega)]; exact b4
theorem LR_teach (H : LR V Q R A c y) (hk : k < 4) (hp : V 10 k = 1) {m w x : Nat} (hm : m < 6) (hw : w < 10) (hx : x ≤ 99) : LR (up2 V k (14 * m + w) (nI x)) Q (upR R k (upd (R k) (10 * m + w) (nI x))) A c y := by
  obtain ⟨b1, b2, b3, b4⟩ := (H.sr hk).is hp
  refine LR_k hk H ⟨rg_w (by omega) (cl_nI hx) H.1.1, sk_up (by omega) H.1.2⟩ (up2_r (by omega)) (fun j _ => by rw [up2_r (by omega)]) (by rw [up2_r (by omega)]; exact H.2.2.1.2.2.2.1) (fun i hi hne => ⟨by rw [up2_r (by omega)], by rw [up2_r (by omega)], by rw [up2_r (by omega)], up2_r hne⟩) (fun j hj => rfl) (fun i hi hne => ⟨rfl, rfl⟩) (fun i _ hne => upR_n hne) (Or.inl ⟨by rw [up2_r (by omega)]; exact hp, by rw [up2_r (by omega)]; exact b1, by rw [up2_r (by omega)]; exact b2, by rw [up2_r (by omega)]; exact b3, ?_⟩)
  rw [upR_s]
  refine ⟨fun m2 w2 h1 h2 => ?_, fun m2 w2 h1 h2 h3 => ?_⟩
  · by_cases e : m2 = m ∧ w2 = w
    · obtain ⟨rfl, rfl⟩ := e
      rw [pk_us, up2_s]
    · rw [pk_un (by omega), up2_n (by omega)]; exact b4.1 m2 w2 h1 h2
  · rw [up2_n (by omega)]; exact b4.2 m2 w2 h1 h2 h3
theorem LR_go (H : LR V Q R A c y) (hk : k < 4) {g : Fn} (hg : ∀ j, j < 60 → g j = 0) : LR (up2 V 10 k 0) (upd Q (9 + k) (-1)) (upR R k g) A c y := by
  refine LR_k hk H (iu_up (by decide) (by omega) H.1) (up2_r (by decide)) (fun j _ => by rw [up2_r (by decide)]) (by rw [up2_r (by decide)]; exact H.2.2.1.2.2.2.1) (fun i hi hne => ⟨up2_n (by omega), by rw [up2_r (by decide)], by rw [up2_r (by decide)], up2_r (by omega)⟩) (fun j hj => pk_un (by omega)) (fun i hi hne => ⟨pk_un (by omega), pk_un (by omega)⟩) (fun i _ hne => upR_n hne) (Or.inr ⟨by rw [up2_s]; decide, pk_us, by rw [upR_s]; exact hg⟩)
theorem cl_0 : clS 0 = 0 := by decide
theorem LR_come (H : LR V Q R A c y) (hk : k < 4) (hp : ¬ V 10 k = 1) : LR (blS (up2 V 10 k 1) k none 0) (upd (upd Q (9 + k) 0) (13 + k) 0) R A c y := by
  have f0 := ((H.sr hk).no hp).2
  have e : ∀ r j, r ≠ k → ¬ (r = 11 ∧ j = k) → ¬ (r = 12 ∧ j = k) → blS (up2 V 10 k 1) k none 0 r j = up2 V 10 k 1 r j := by
    intro r j h1 h2 h3
    unfold blS blL
    rw [if_neg h2, if_neg h3, if_neg (fun z => h1 z.1)]
  have hrow : ∀ j, j < 84 → blS (up2 V 10 k 1) k none 0 k j = 0 := by
    intro j hj
    unfold blS blL
    rw [if_neg (by omega), if_neg (by omega), if_pos ⟨rfl, hj⟩]
    exact cl_0
  refine LR_k hk H ⟨rg_of (U := up2 V 10 k 1) (rg_up (by decide) H.1.1) ?_ ?_, ?_⟩ ?_ (fun j _ => ?_) ?_ (fun i hi hne => ⟨?_, ?_, ?_, ?_⟩) (fun j hj => ?_) (fun i hi hne => ⟨?_, ?_⟩) (fun i _ hne => rfl) (Or.inl ⟨?_, ⟨0, Nat.zero_le _, ?_⟩, ?_, ?_, ?_⟩)
  · funext j; exact e 8 j (by omega) (by omega) (by omega)
  · intro t ht j hj
    by_cases h : t = k
    · subst h; exact Or.inl ⟨0, (hrow j hj).trans cl_0.symm⟩
    · exact Or.inr (e t j h (by omega) (by omega))
  · obtain ⟨q, hq, eq⟩ := H.1.2
    exact ⟨q, hq, by rw [e 9 0 (by omega) (by omega) (by omega), up2_r (by decide)]; exact eq⟩
  · funext j; rw [e 8 j (by omega) (by omega) (by omega), up2_r (by decide)]
  · rw [e 9 j (by omega) (by omega) (by omega), up2_r (by decide)]
  · rw [e 9 3 (by omega) (by omega) (by omega), up2_r (by decide)]; exact H.2.2.1.2.2.2.1
  · rw [e 10 i (by omega) (by omega) (by omega), up2_n (by omega)]
  · rw [e 11 i (by omega) (by omega) (by omega), up2_r (by decide)]
  · rw [e 12 i (by omega) (by omega) (by omega), up2_r (by decide)]
  · funext j; rw [e i j hne (by omega) (by omega), up2_r (by omega)]
  · rw [pk_un (by omega), pk_un (by omega)]
  · rw [pk_un (by omega), pk_un (by omega)]
  · rw [pk_un (by omega), pk_un (by omega)]
  · rw [e 10 k (by omega) (by omega) (by omega), up2_s]
  · unfold blS blL; rw [if_pos ⟨rfl, rfl⟩]; rfl
  · rw [pk_un (by omega), pk_us]
    unfold blS blL; rw [if_pos ⟨rfl, rfl⟩]
  · rw [pk_us]
    unfold blS blL; rw [if_neg (by omega), if_pos ⟨rfl, rfl⟩]
  · exact ⟨fun m w hm hw => by rw [hrow _ (by omega), f0 _ (by omega)], fun m w hm h1 h2 => hrow _ (by omega)⟩
end LRS
end
section
/-! a meeting keeps the two villages beside each other -/
def prR (r : Fn) (m w : Nat) (a x : Int32) : Fn := fun j => if j = 14 * m + w then clS (r j + a) else if 14 * m ≤ j ∧ j < 14 * m + 14 then clS (r j + -x) else r j
def fmR (r : Fn) (m w : Nat) (x : Int32) : Fn := fun j => if j % 14 = w ∧ j / 14 < 6 ∧ j / 14 ≠ m then clS (r j + -x) else r j
def chR (r : Fn) (m w : Nat) (d : Int32) : Fn := upd r (14 * m + w) (clS (r (14 * m + w) + d))
theorem prS_k {V : Vs} {k m w : Nat} {a x : Int32} : prS V k m w a x k = prR (V k) m w a x := by
  funext j
  unfold prS prL prR
  by_cases h : j = 14 * m + w
  · rw [if_pos ⟨rfl, h⟩, if_pos h]
  · rw [if_neg (fun z => h z.2), if_neg h]
    by_cases h2 : 14 * m ≤ j ∧ j < 14 * m + 14
    · rw [if_pos ⟨rfl, h2⟩, if_pos h2]
    · rw [if_neg (fun z => h2 z.2), if_neg h2]
theorem fmS_k {V : Vs} {k m w : Nat} {x : Int32} : fmS V k m w x k = fmR (V k) m w x := by
  funext j
  unfold fmS fmL fmR
  by_cases h : j % 14 = w ∧ j / 14 < 6 ∧ j / 14 ≠ m
  · rw [if_pos ⟨rfl, h⟩, if_pos h]
  · rw [if_neg (fun z => h z.2), if_neg h]
theorem chS_k {V : Vs} {k m w : Nat} {d : Int32} : chS V k m w d k = chR (V k) m w d := up2_u
theorem cl_ls {n : Nat} (h : n ≤ 9) : clS (0 + -(nI n)) = 0 := by
  rcases (show n = 0 ∨ n = 1 ∨ n = 2 ∨ n = 3 ∨ n = 4 ∨ n = 5 ∨ n = 6 ∨ n = 7 ∨ n = 8 ∨ n = 9 by omega) with rfl | rfl | rfl | rfl | rfl | rfl | rfl | rfl | rfl | rfl <;> decide
section WRS
variable {f r : Fn} {m w : Nat}
theorem WR_pr (H : WR1 f r) {a x : Int32} (hm : m < 6) (hw : w < 10) (hx : clS (0 + -x) = 0) : WR1 (prF f m w a x 10) (prR r m w a x) := by
  refine ⟨fun m2 w2 h1 h2 => ?_, fun m2 w2 h1 h2 h3 => ?_⟩
  · have e := H.1 m2 w2 h1 h2
    unfold prF prR
    by_cases em : m2 = m
    · subst em
      rw [if_pos (by omega)]
      by_cases ew : w2 = w
      · subst ew; rw [if_pos rfl, if_pos rfl, e]
      · rw [if_neg (by omega), if_neg (by omega), if_pos (by omega), e]
    · rw [if_neg (by omega), if_neg (by omega), if_neg (by omega), e]
  · have e := H.2 m2 w2 h1 h2 h3
    unfold prR
    rw [if_neg (by omega)]
    by_cases em : 14 * m ≤ 14 * m2 + w2 ∧ 14 * m2 + w2 < 14 * m + 14
    · rw [if_pos em, e]; exact hx
    · rw [if_neg em]; exact e
theorem WR_fm (H : WR1 f r) {x : Int32} (hw : w < 10) : WR1 (fmF f m w x 6) (fmR r m w x) := by
  refine ⟨fun m2 w2 h1 h2 => ?_, fun m2 w2 h1 h2 h3 => ?_⟩
  · have e := H.1 m2 w2 h1 h2
    unfold fmF fmR
    by_cases c : w2 = w ∧ m2 ≠ m
    · rw [if_pos (by omega), if_pos (by omega), e]
    · rw [if_neg (by omega), if_neg (by omega), e]
  · have e := H.2 m2 w2 h1 h2 h3
    unfold fmR
    rw [if_neg (by omega)]; exact e
theorem WR_ch (H : WR1 f r) {d : Int32} (hm : m < 6) (hw : w < 10) : WR1 (chF f m w d) (chR r m w d) := by
  refine ⟨fun m2 w2 h1 h2 => ?_, fun m2 w2 h1 h2 h3 => ?_⟩
  · have e := H.1 m2 w2 h1 h2
    unfold chF chR
    by_cases c : m2 = m ∧ w2 = w
    · obtain ⟨rfl, rfl⟩ := c
      rw [pk_us, pk_us, e]
    · rw [pk_un (by omega), pk_un (by omega)]; exact e
  · unfold chR
    rw [pk_un (by omega)]; exact H.2 m2 w2 h1 h2 h3
end WRS
section MT
variable {V : Vs} {k1 k2 m w h : Nat}
theorem mtC_12 (hne : k1 ≠ k2) (k : Nat) : mtC V k1 k2 12 k = if k = k1 ∨ k = k2 then V 12 k + 1 else V 12 k := by
  unfold mtC mck mc1
  by_cases e2 : k = k2
  · subst e2
    rw [up2_s, up2_n (by omega), up2_r (by decide), if_pos (Or.inr rfl)]
  · rw [up2_n (by omega)]
    by_cases e1 : k = k1
    · subst e1
      rw [up2_s, up2_r (by decide), if_pos (Or.inl rfl)]
    · rw [up2_n (by omega), up2_r (by decide), if_neg (by omega)]
theorem mtC_9 (j : Nat) : mtC V k1 k2 9 j = if j = 1 then V 9 1 + 1 else V 9 j := by
  unfold mtC mck mc1
  rw [up2_r (by decide), up2_r (by decide)]
  by_cases e : j = 1
  · subst e; rw [up2_s, if_pos rfl]
  · rw [up2_n (by omega), if_neg e]
theorem mtF_12 (hk1 : k1 < 8) (hk2 : k2 < 8) : mtF V k1 k2 m w h 12 = mtC V k1 k2 12 := by
  unfold mtF
  split
  · unfold mtS mtG
    rw [fmS_r (by omega), prS_r (by omega), prS_r (by omega), up2_r (by decide)]
  · unfold mtN
    rw [chS_r (by omega), chS_r (by omega), chS_r (by omega)]
theorem mtF_9 (hk1 : k1 < 8) (hk2 : k2 < 8) (j : Nat) : mtF V k1 k2 m w h 9 j = if j = 1 then V 9 1 + 1 else if j = 2 ∧ h = m then V 9 2 + 1 else V 9 j := by
  unfold mtF
  by_cases c : h = m
  · rw [if_pos c]
    unfold mtS mtG
    rw [fmS_r (by omega), prS_r (by omega), prS_r (by omega)]
    by_cases e : j = 2
    · subst e; rw [up2_s, mtC_9, if_neg (by decide), if_neg (by decide), if_pos ⟨rfl, c⟩]
    · rw [up2_n (by omega), mtC_9]
      by_cases e1 : j = 1
      · rw [if_pos e1, if_pos e1]
      · rw [if_neg e1, if_neg e1, if_neg (fun z => e z.1)]
  · rw [if_neg c]
    unfold mtN
    rw [chS_r (by omega), chS_r (by omega), chS_r (by omega), mtC_9]
    by_cases e1 : j = 1
    · rw [if_pos e1, if_pos e1]
    · rw [if_neg e1, if_neg e1, if_neg (fun z => c z.2)]
theorem mtF_1 (hk1 : k1 < 8) (hk2 : k2 < 8) (hne : k1 ≠ k2) : mtF V k1 k2 m w h k1 = if h = m then prR (V k1) m w (lnS (V 11 k1) (V 8 0)) (V 8 1) else chR (V k1) m w (-(V 8 1)) := by
  unfold mtF
  by_cases c : h = m
  · rw [if_pos c, if_pos c]
    unfold mtS mtG
    rw [fmS_r hne, prS_r hne, prS_k, up2_r (by omega), up2_r (by decide), up2_r (by decide), mtC_r (by omega) (by omega), mtC_r (by decide) (by decide), mtC_r (by decide) (by decide)]
  · rw [if_neg c, if_neg c]
    unfold mtN
    rw [chS_r hne, chS_r hne, chS_k, mtC_r (by omega) (by omega), mtC_r (by decide) (by decide)]
theorem mtF_2 (hk1 : k1 < 8) (hk2 : k2 < 8) (hne : k1 ≠ k2) : mtF V k1 k2 m w h k2 = if h = m then fmR (prR (V k2) m w (lnS (V 11 k2) (V 8 0)) (V 8 1)) m w (V 8 1) else chR (chR (V k2) m w 1) h w (-(V 8 1)) := by
  unfold mtF
  by_cases c : h = m
  · rw [if_pos c, if_pos c]
    unfold mtS mtG
    rw [fmS_k, prS_k, prS_r (Ne.symm hne), prS_r (show 11 ≠ k1 by omega), prS_r (show 8 ≠ k1 by omega), up2_r (by omega), up2_r (by decide), up2_r (by decide), mtC_r (by omega) (by omega), mtC_r (by decide) (by decide), mtC_r (by decide) (by decide)]
  · rw [if_neg c, if_neg c]
    unfold mtN
    rw [chS_k, chS_k, chS_r (Ne.symm hne), mtC_r (by omega) (by omega), mtC_r (by decide) (by decide)]
end MT
section MQ
variable {Q : Fn} {k1 k2 m h : Nat}
theorem mqC_at (hne : k1 ≠ k2) (j : Nat) : mqC Q k1 k2 j = if j = 1 ∨ j = 13 + k1 ∨ j = 13 + k2 then Q j + 1 else Q j := by
  unfold mqC
  by_cases e2 : j = 13 + k2
  · subst e2
    rw [pk_us, pk_un (by omega), pk_un (by omega), if_pos (by omega)]
  · rw [pk_un e2]
    by_cases e1 : j = 13 + k1
    · subst e1
      rw [pk_us, pk_un (by omega), if_pos (by omega)]
    · rw [pk_un e1]
      by_cases e : j = 1
      · subst e
        rw [pk_us, if_pos (by omega)]
      · rw [pk_un e, if_neg (by omega)]
theorem mqF_at (hne : k1 ≠ k2) (j : Nat) : mqF Q k1 k2 m h j = if j = 1 ∨ j = 13 + k1 ∨ j = 13 + k2 then Q j + 1 else if j = 2 ∧ h = m then Q 2 + 1 else Q j := by
  unfold mqF
  rw [mqC_at hne]
  by_cases c : h = m
  · rw [if_pos c]
    by_cases e : j = 2
    · subst e
      rw [if_neg (by omega), pk_us, if_neg (by omega), if_pos ⟨rfl, c⟩]
    · rw [pk_un e]
      by_cases e1 : j = 1 ∨ j = 13 + k1 ∨ j = 13 + k2
      · rw [if_pos e1, if_pos e1]
      · rw [if_neg e1, if_neg e1, if_neg (fun z => e z.1)]
  · rw [if_neg c]
    by_cases e1 : j = 1 ∨ j = 13 + k1 ∨ j = 13 + k2
    · rw [if_pos e1, if_pos e1]
    · rw [if_neg e1, if_neg e1, if_neg (fun z => c z.2)]
end MQ
theorem iu_mtF {V : Vs} {k1 k2 m w h : Nat} (hk1 : k1 < 8) (hk2 : k2 < 8) (H : IU V) : IU (mtF V k1 k2 m w h) := by
  have c : rgW (mtC V k1 k2) := rg_up (by decide) (rg_up (by decide) (rg_up (by decide) H.1))
  refine ⟨?_, ?_⟩
  · unfold mtF
    split
    · exact rg_fm hk2 (rg_pr hk2 (rg_pr hk1 (rg_up (by decide) c)))
    · exact rg_ch hk2 (rg_ch hk2 (rg_ch hk1 c))
  · obtain ⟨q, hq, e⟩ := H.2
    exact ⟨q, hq, (mtF_sd hk1 hk2).trans e⟩
theorem LR_F {V : Vs} {Q : Fn} {R : Nat → Fn} {A k1 k2 m w h : Nat} {c y : Int32} (H : LR V Q R A c y) (hk1 : k1 < 4) (hk2 : k2 < 4) (hne : k1 ≠ k2) (hp1 : V 10 k1 = 1) (hp2 : V 10 k2 = 1) (hm : m < 6) (hw : w < 10) (hh : h < 6) : LR (mtF V k1 k2 m w h) (mqF Q k1 k2 m h) (mrF R Q k1 k2 m w h) A c y := by
  have H0 := H
  obtain ⟨hI, ⟨⟨x, hx, ex⟩, h2⟩, ⟨q0, q1, q2, q3, q4⟩, q5, hs, hn⟩ := H
  have hcl : clS (0 + -(V 8 1)) = 0 := by rw [ex]; exact cl_ls hx
  have e8 : mtF V k1 k2 m w h 8 = V 8 := mtF_r (by omega) (by omega) (by decide) (by decide)
  have e10 : mtF V k1 k2 m w h 10 = V 10 := mtF_r (by omega) (by omega) (by decide) (by decide)
  have e11 : mtF V k1 k2 m w h 11 = V 11 := mtF_r (by omega) (by omega) (by decide) (by decide)
  obtain ⟨a1, a2, a3, a4⟩ := (hs k1 hk1).is hp1
  obtain ⟨b1, b2, b3, b4⟩ := (hs k2 hk2).is hp2
  have g5 : Q 5 = V 8 0 := q5 0 (by decide)
  have g6 : Q 6 = V 8 1 := q5 1 (by decide)
  refine ⟨iu_mtF (by omega) (by omega) hI, ⟨⟨x, hx, by rw [e8]; exact ex⟩, by rw [e8]; exact h2⟩, ⟨?_, ?_, ?_, ?_, ?_⟩, fun j hj => ?_, fun k hk => ?_, fun k h4 h8 => by rw [e10]; exact hn k h4 h8⟩
  · rw [mqF_at hne, mtF_9 (by omega) (by omega), if_neg (by omega), if_neg (by omega), if_neg (by omega), if_neg (by omega)]; exact q0
  · rw [mqF_at hne, mtF_9 (by omega) (by omega), if_pos (by omega), if_pos (by omega), q1]
  · rw [mqF_at hne, mtF_9 (by omega) (by omega)]
    by_cases c : h = m
    · rw [if_neg (by omega), if_pos ⟨rfl, c⟩, if_neg (by decide), if_pos ⟨rfl, c⟩, q2]
    · rw [if_neg (by omega), if_neg (fun z => c z.2), if_neg (by decide), if_neg (fun z => c z.2), q2]
  · rw [mqF_at hne, mtF_9 (by omega) (by omega), if_neg (by omega), if_neg (by omega), if_neg (by omega), if_neg (by omega)]; exact q3
  · rw [mqF_at hne, mtF_9 (by omega) (by omega), if_neg (by omega), if_neg (by omega), if_neg (by omega), if_neg (by omega)]; exact q4
  · rw [mqF_at hne, if_neg (by omega), if_neg (by omega), e8]; exact q5 j hj
  · by_cases k1e : k = k1
    · subst k1e
      refine Or.inl ⟨by rw [e10]; exact hp1, by rw [e11]; exact a1, ?_, ?_, ?_⟩
      · rw [mqF_at hne, if_neg (by omega), if_neg (by omega), e11]; exact a2
      · rw [mqF_at hne, if_pos (by omega), mtF_12 (by omega) (by omega), mtC_12 hne, if_pos (Or.inl rfl), a3]
      · rw [mtF_1 (by omega) (by omega) hne]
        unfold mrF
        by_cases c : h = m
        · rw [if_pos c, if_pos c, rr_1, g5, g6, a2]
          exact WR_pr a4 hm hw hcl
        · rw [if_neg c, if_neg c, rr_1, g6]
          exact WR_ch a4 hm hw
    · by_cases k2e : k = k2
      · subst k2e
        refine Or.inl ⟨by rw [e10]; exact hp2, by rw [e11]; exact b1, ?_, ?_, ?_⟩
        · rw [mqF_at hne, if_neg (by omega), if_neg (by omega), e11]; exact b2
        · rw [mqF_at hne, if_pos (by omega), mtF_12 (by omega) (by omega), mtC_12 hne, if_pos (Or.inr rfl), b3]
        · rw [mtF_2 (by omega) (by omega) hne]
          unfold mrF
          by_cases c : h = m
          · rw [if_pos c, if_pos c, rr_2 hne, g5, g6, b2]
            exact WR_fm (WR_pr b4 hm hw hcl) hw
          · rw [if_neg c, if_neg c, rr_2 hne, g6]
            exact WR_ch (WR_ch b4 hm hw) hh hw
      · have er : mrF R Q k1 k2 m w h k = R k := by
          unfold mrF
          split
          · exact rr_n k1e k2e
          · exact rr_n k1e k2e
        rw [er]
        refine SR_cg (by rw [e10]) (by rw [e11]) ?_ (mtF_r k1e k2e (by omega) (by omega)) ?_ ?_ (fun _ _ => rfl) (hs k hk)
        · rw [mtF_12 (by omega) (by omega), mtC_12 hne, if_neg (by omega)]
        · rw [mqF_at hne, if_neg (by omega), if_neg (by omega)]
        · rw [mqF_at hne, if_neg (by omega), if_neg (by omega)]
/-- the whole meeting: word and meaning, and the villages behind it -/
theorem LR_meet {V : Vs} {Q : Fn} {R : Nat → Fn} {A k1 k2 m w : Nat} {c y : Int32} (H : LR V Q R A c y) (hk1 : k1 < 4) (hk2 : k2 < 4) (hne : k1 ≠ k2) (hp1 : V 10 k1 = 1) (hp2 : V 10 k2 = 1) (hm : m < 6) (hwd : wdS (R k1) m = some w) :
    (mt1 V k1 k2 m).2.1 = w ∧ (mt1 V k1 k2 m).2.2 = mh0 Q (R k2) w ∧ LR (mtV V k1 k2 m) (mqF (mq0 Q (R k2) w) k1 k2 m (mh0 Q (R k2) w)) (mrF R (mq0 Q (R k2) w) k1 k2 m w (mh0 Q (R k2) w)) A c y := by
  have hw : w < 10 := wd_in hwd
  have e1 : wfS (V k1) m = some w := (wd_e (H.row hk1 hp1) hm).symm.trans hwd
  have e2 : hdS (R k2) w = haS (V k2) w := hd_e (H.row hk2 hp2) hw
  have q0 : Q 0 = V 9 0 := H.2.2.1.1
  cases ho : haS (V k2) w with
  | none =>
    rw [ho] at e2
    have hv : mt1 V k1 k2 m = (drV V, w, dvN V 6) := by
      unfold mt1
      rw [wdN_s e1]
      dsimp only
      rw [hdN_n ho]
    have hd : dvN V 6 = mh0 Q (R k2) w := by rw [mh0_n e2, q0]; rfl
    unfold mtV
    rw [hv]
    refine ⟨rfl, hd, ?_⟩
    dsimp only
    rw [hd, mq0_n e2, q0]
    refine LR_F (LR_seed H sdN_lt) hk1 hk2 hne ?_ ?_ hm hw mh0_lt
    · rw [drV_r (by decide)]; exact hp1
    · rw [drV_r (by decide)]; exact hp2
  | some h =>
    rw [ho] at e2
    have hv : mt1 V k1 k2 m = (V, w, h) := by
      unfold mt1
      rw [wdN_s e1]
      dsimp only
      rw [hdN_s ho]
    unfold mtV
    rw [hv]
    refine ⟨rfl, (mh0_s e2).symm, ?_⟩
    dsimp only
    rw [mq0_s e2, mh0_s e2]
    exact LR_F H hk1 hk2 hne hp1 hp2 hm hw (haS_in ho)
end
section
/-! years -/
def agQ (Q : Fn) (n : Nat) : Fn := fun j => if 9 ≤ j ∧ j < 9 + n ∧ ¬ Q j < 0 then Q j + 1 else Q j
theorem agQ_0 {Q : Fn} : agQ Q 0 = Q := by
  funext j
  unfold agQ
  rw [if_neg (by omega)]
theorem agQ_n {Q : Fn} {n j : Nat} (h : j < 9 ∨ 9 + n ≤ j) : agQ Q n j = Q j := by
  unfold agQ
  rw [if_neg (by omega)]
theorem agQ_s {Q : Fn} {n : Nat} : upd (agQ Q n) (9 + n) (agQ Q n (9 + n) + (if Q (9 + n) < 0 then 0 else 1)) = agQ Q (n + 1) := by
  funext j
  by_cases e : j = 9 + n
  · subst e
    rw [pk_us, agQ_n (Or.inr (Nat.le_refl _))]
    unfold agQ
    by_cases h : Q (9 + n) < 0
    · rw [if_pos h, if_neg (fun z => z.2.2 h), Int32.add_zero]
    · rw [if_neg h, if_pos ⟨by omega, by omega, h⟩]
  · rw [pk_un e]
    unfold agQ
    by_cases h : 9 ≤ j ∧ j < 9 + n ∧ ¬ Q j < 0
    · rw [if_pos h, if_pos ⟨h.1, by omega, h.2.2⟩]
    · rw [if_neg h, if_neg (fun z => h ⟨z.1, by omega, z.2.2⟩)]
theorem LR_ag {V : Vs} {Q : Fn} {R : Nat → Fn} {c y : Int32} (H : LR V Q R 99 c y) : LR (agL (up2 V 9 4 (V 9 4 + 1)) 8) (agQ Q 4) R 100 c (y + 1) := by
  have H0 := H
  obtain ⟨⟨r, s⟩, ⟨h1, h2⟩, ⟨q0, q1, q2, q3, q4⟩, q5, hs, hn⟩ := H
  have e : ∀ q, q ≠ 11 → agL (up2 V 9 4 (V 9 4 + 1)) 8 q = up2 V 9 4 (V 9 4 + 1) q := fun q hq => agL_10 hq
  refine ⟨⟨agL_rg (rg_up (by decide) r), ?_⟩, ⟨?_, ?_⟩, ⟨?_, ?_, ?_, ?_, ?_⟩, fun j hj => ?_, fun k hk => ?_, fun k h4 h8 => ?_⟩
  · obtain ⟨q, hq, eq⟩ := s
    exact ⟨q, hq, by rw [e 9 (by decide), up2_n (by omega)]; exact eq⟩
  · rw [e 8 (by decide), up2_r (by decide)]; exact h1
  · rw [e 8 (by decide), up2_r (by decide)]; exact h2
  · rw [agQ_n (Or.inl (by decide)), e 9 (by decide), up2_n (by omega)]; exact q0
  · rw [agQ_n (Or.inl (by decide)), e 9 (by decide), up2_n (by omega)]; exact q1
  · rw [agQ_n (Or.inl (by decide)), e 9 (by decide), up2_n (by omega)]; exact q2
  · rw [agQ_n (Or.inl (by decide)), e 9 (by decide), up2_n (by omega)]; exact q3
  · rw [agQ_n (Or.inl (by decide)), e 9 (by decide), up2_s, ← Int32.add_assoc, q4]
  · rw [agQ_n (Or.inl (by omega)), e 8 (by decide), up2_r (by decide)]; exact q5 j hj
  · by_cases hp : V 10 k = 1
    · obtain ⟨⟨a, ha, ea⟩, b2, b3, b4⟩ := (hs k hk).is hp
      have e11 : agL (up2 V 9 4 (V 9 4 + 1)) 8 11 k = V 11 k + 1 := by
        unfold agL
        rw [if_pos ⟨rfl, by omega, by rw [up2_r (by decide)]; exact hp⟩, up2_r (by decide)]
      refine Or.inl ⟨by rw [e 10 (by decide), up2_r (by decide)]; exact hp, ⟨a + 1, by omega, by rw [e11, ea, nI_1]⟩, ?_, ?_, ?_⟩
      · rw [e11]
        unfold agQ
        rw [if_pos ⟨by omega, by omega, by rw [b2, ea]; exact nI_pos (by omega)⟩, b2]
      · rw [agQ_n (Or.inr (by omega)), e 12 (by decide), up2_r (by decide)]; exact b3
      · rw [e k (by omega), up2_r (by omega)]; exact b4
    · obtain ⟨b1, b2⟩ := (hs k hk).no hp
      refine Or.inr ⟨by rw [e 10 (by decide), up2_r (by decide)]; exact hp, ?_, b2⟩
      unfold agQ
      rw [if_neg (fun z => z.2.2 (by rw [b1]; decide))]
      exact b1
  · rw [e 10 (by decide), up2_r (by decide)]; exact hn k h4 h8
abbrev isTe (W : Vs) (c lo hi : Nat) (o : Option Nat) : Prop := isT (fun i => i ≠ c ∧ W 10 i = 1 ∧ W 11 i ≤ W 8 2) (fun i => (W 11 i).toInt) lo hi o
theorem teS_T {W : Vs} {c : Nat} : ∀ n, isTe W c 0 n (teS W c n)
  | 0 => isT_0
  | n + 1 => by
    have ih := teS_T (W := W) (c := c) n
    by_cases h : n = c ∨ ¬ W 10 n = 1 ∨ ¬ W 11 n ≤ W 8 2
    · rw [teS_sk h]
      exact isT_usk (fun z => h.elim z.1 (fun y => y.elim (fun x => x z.2.1) (fun x => x z.2.2))) ih
    · have g1 : ¬ n = c := fun z => h (Or.inl z)
      have g2 : W 10 n = 1 := by
        by_cases z : W 10 n = 1
        · exact z
        · exact absurd (Or.inr (Or.inl z)) h
      have g3 : W 11 n ≤ W 8 2 := by
        by_cases z : W 11 n ≤ W 8 2
        · exact z
        · exact absurd (Or.inr (Or.inr z)) h
      cases ho : teS W c n with
      | none =>
        rw [ho] at ih
        rw [teS_n g1 g2 g3 ho]
        exact isT_utk ⟨g1, g2, g3⟩ (Nat.zero_le _) (fun b z => by cases z) ih
      | some b =>
        rw [ho] at ih
        by_cases hb : W 11 b ≤ W 11 n
        · rw [teS_k g1 g2 g3 ho hb]
          exact isT_ukp (Int32.le_iff_toInt_le.mp hb) ih
        · rw [teS_u g1 g2 g3 ho hb]
          refine isT_utk ⟨g1, g2, g3⟩ (Nat.zero_le _) (fun b2 z => ?_) ih
          cases z
          exact Int32.lt_iff_toInt_lt.mp (Int32.not_le.mp hb)
theorem te_e {W : Vs} {Q : Fn} {R : Nat → Fn} {A k : Nat} {c y : Int32} {o : Option Nat} (H : LR W Q R A c y) (h : isTe W k 0 4 o) : o = teS W k 8 := by
  have g : ∀ j, 4 ≤ j → j < 8 → ¬ (j ≠ k ∧ W 10 j = 1 ∧ W 11 j ≤ W 8 2) := fun j h4 h8 z => H.hi h4 h8 z.2.1
  exact isT_uq (isT_usk (g 7 (by decide) (by decide)) (isT_usk (g 6 (by decide) (by decide)) (isT_usk (g 5 (by decide) (by decide)) (isT_usk (g 4 (by decide) (by decide)) h)))) (teS_T 8)
def tyV (R : Nat → Fn) (t : Option Nat) (sh : Int32) (j : Nat) : Int32 := match t with
  | none => 0
  | some i => R i j * sh / 100
def tyF (R : Nat → Fn) (k : Nat) (t : Option Nat) (sh : Int32) (n : Nat) : Fn := fun j => if j < n then tyV R t sh j else R k j
theorem tyF_0 {R : Nat → Fn} {k : Nat} {t : Option Nat} {sh : Int32} : tyF R k t sh 0 = R k := by
  funext j
  unfold tyF
  rw [if_neg (by omega)]
theorem tyF_s {R : Nat → Fn} {k n : Nat} {t : Option Nat} {sh : Int32} : upd (tyF R k t sh n) n (tyV R t sh n) = tyF R k t sh (n + 1) := by
  funext j
  unfold tyF
  by_cases e : j = n
  · subst e
    rw [pk_us, if_pos (by omega)]
  · rw [pk_un e]
    by_cases h : j < n
    · rw [if_pos h, if_pos (by omega)]
    · rw [if_neg h, if_neg (by omega)]
theorem LR_by {W : Vs} {Q : Fn} {R : Nat → Fn} {k : Nat} {c y : Int32} {g : Fn} (H : LR W Q R 100 c y) (hk : k < 4) (hc : W 10 k = 1 ∧ ¬ W 11 k ≤ W 8 2) (hg : ∀ j, j < 60 → g j = tyV R (teS W k 8) (Q 8) j) : LR (byK W k) (upd (upd Q (9 + k) 0) (13 + k) 0) (upR R k g) 100 (c + 1) y := by
  have q8 : Q 8 = W 8 3 := H.q5 (j := 3) (by decide)
  have e : ∀ r, r ≠ k → r ≠ 11 → r ≠ 12 → r ≠ 9 → byK W k r = W r := fun r h1 h2 h3 h4 => by
    rw [byK_t hc rfl, up2_r h4, blS_q h1 h2 h3]
  have e9 : ∀ j, byK W k 9 j = if j = 3 then W 9 3 + 1 else W 9 j := fun j => by
    rw [byK_t hc rfl]
    by_cases h : j = 3
    · subst h; rw [up2_s, if_pos rfl, blS_q (by omega) (by decide) (by decide)]
    · rw [up2_n (by omega), if_neg h, blS_q (by omega) (by decide) (by decide)]
  have e11 : ∀ j, byK W k 11 j = if j = k then 0 else W 11 j := fun j => by
    rw [byK_t hc rfl, up2_r (by decide)]
    unfold blS blL
    by_cases h : j = k
    · rw [if_pos ⟨rfl, h⟩, if_pos h]
    · rw [if_neg (fun z => h z.2), if_neg (by omega), if_neg (by omega), if_neg h]
  have e12 : ∀ j, byK W k 12 j = if j = k then 0 else W 12 j := fun j => by
    rw [byK_t hc rfl, up2_r (by decide)]
    unfold blS blL
    by_cases h : j = k
    · rw [if_neg (by omega), if_pos ⟨rfl, h⟩, if_pos h]
    · rw [if_neg (by omega), if_neg (fun z => h z.2), if_neg (by omega), if_neg h]
  have ek : ∀ j, j < 84 → byK W k k j = clS (match teS W k 8 with | none => 0 | some t => W t j * W 8 3 / 100) := fun j hj => by
    rw [byK_t hc rfl, up2_r (by omega)]
    unfold blS blL
    rw [if_neg (by omega), if_neg (by omega), if_pos ⟨rfl, hj⟩]
    cases teS W k 8 <;> rfl
  refine LR_k hk H ⟨byK_rg (by omega) H.1.1, ?_⟩ (e 8 (by omega) (by decide) (by decide) (by decide)) (fun j hj => by rw [e9, if_neg hj]) ?_ (fun i hi hne => ⟨by rw [e 10 (by omega) (by decide) (by decide) (by decide)], by rw [e11, if_neg hne], by rw [e12, if_neg hne], e i hne (by omega) (by omega) (by omega)⟩) (fun j hj => by rw [pk_un (by omega), pk_un (by omega)]) (fun i hi hne => ⟨by rw [pk_un (by omega), pk_un (by omega)], by rw [pk_un (by omega), pk_un (by omega)]⟩) (fun i _ hne => upR_n hne) (Or.inl ⟨by rw [e 10 (by omega) (by decide) (by decide) (by decide)]; exact hc.1, ⟨0, Nat.zero_le _, by rw [e11, if_pos rfl]; rfl⟩, by rw [pk_un (by omega), pk_us, e11, if_pos rfl], by rw [pk_us, e12, if_pos rfl], ?_⟩)
  · obtain ⟨q, hq, eq⟩ := H.1.2
    exact ⟨q, hq, by rw [e9, if_neg (by decide)]; exact eq⟩
  · rw [e9, if_pos rfl, ← Int32.add_assoc, H.2.2.1.2.2.2.1]
  · rw [upR_s]
    cases ho : teS W k 8 with
    | none =>
      rw [ho] at hg ek
      refine ⟨fun m w hm hw => ?_, fun m w hm h1 h2 => ?_⟩
      · rw [hg _ (by omega), ek _ (by omega)]; exact cl_0.symm
      · rw [ek _ (by omega)]; exact cl_0
    | some t =>
      rw [ho] at hg ek
      have hT := teS_T (W := W) (c := k) 8
      rw [ho] at hT
      obtain ⟨-, t8, ⟨t1, t2, t3⟩, -⟩ := hT
      have t4 : t < 4 := by
        by_cases z : t < 4
        · exact z
        · exact absurd t2 (H.hi (by omega) t8)
      have hr := H.row t4 t2
      refine ⟨fun m w hm hw => ?_, fun m w hm h1 h2 => ?_⟩
      · rw [hg _ (by omega), ek _ (by omega)]
        show R t (10 * m + w) * Q 8 / 100 = clS (W t (14 * m + w) * W 8 3 / 100)
        rw [rg_sh H.1.1 t8 (by omega), hr.1 m w hm hw, q8]
      · rw [ek _ (by omega)]
        show clS (W t (14 * m + w) * W 8 3 / 100) = 0
        rw [hr.2 m w hm h1 h2, Int32.zero_mul]
        decide
/-- those who had their turn are not too old -/
def okA (W : Vs) (n : Nat) : Prop := ∀ j, j < n → W 10 j = 1 → W 11 j ≤ W 8 2
theorem okA_0 {W : Vs} : okA W 0 := fun j h => absurd h (Nat.not_lt_zero _)
theorem okA_s {W : Vs} {k : Nat} (hk : k < 8) (h8 : ∃ l, l ≤ 99 ∧ W 8 2 = nI l) (h : okA W k) : okA (byK W k) (k + 1) := by
  by_cases hc : W 10 k = 1 ∧ ¬ W 11 k ≤ W 8 2
  · have e : ∀ r, r ≠ k → r ≠ 11 → r ≠ 12 → r ≠ 9 → byK W k r = W r := fun r h1 h2 h3 h4 => by
      rw [byK_t hc rfl, up2_r h4, blS_q h1 h2 h3]
    intro j hj hp
    rw [e 10 (by omega) (by decide) (by decide) (by decide)] at hp
    rw [e 8 (by omega) (by decide) (by decide) (by decide), byK_t hc rfl, up2_r (by decide)]
    unfold blS blL
    by_cases ej : j = k
    · rw [if_pos ⟨rfl, ej⟩]
      obtain ⟨l, h1, h2⟩ := h8
      rw [h2]; exact nI_pos' (by omega)
    · rw [if_neg (fun z => ej z.2), if_neg (by omega), if_neg (by omega)]
      exact h j (by omega) hp
  · rw [byK_f hc]
    intro j hj hp
    by_cases ej : j = k
    · subst ej
      by_cases z : W 11 j ≤ W 8 2
      · exact z
      · exact absurd ⟨hp, z⟩ hc
    · exact h j (by omega) hp
theorem LR_99 {W : Vs} {Q : Fn} {R : Nat → Fn} {c y : Int32} (H : LR W Q R 100 c y) (h : okA W 4) : LR W Q R 99 c y := by
  obtain ⟨hI, ⟨h1, l, hl, el⟩, q0, q5, hs, hn⟩ := H
  refine ⟨hI, ⟨h1, l, hl, el⟩, q0, q5, fun k hk => ?_, hn⟩
  rcases hs k hk with ⟨a1, ⟨a, ha, ea⟩, a3, a4, a5⟩ | ⟨a1, a2, a3⟩
  · refine Or.inl ⟨a1, ⟨a, ?_, ea⟩, a3, a4, a5⟩
    have := h k hk a1
    rw [ea, el, nI_leI (by omega) (by omega)] at this
    omega
  · exact Or.inr ⟨a1, a2, a3⟩
/-- the speakers from 4 on are not there: nobody follows them -/
theorem byL_48 {W : Vs} {Q : Fn} {R : Nat → Fn} {A : Nat} {X : Vs} {c y : Int32} (h : byL X 4 = W) (H : LR W Q R A c y) : byL X 8 = W := by
  have s : ∀ k, 4 ≤ k → k < 8 → byL X k = W → byL X (k + 1) = W := fun k h4 h8 e => by
    rw [byL, e]
    exact byK_f (fun z => H.hi h4 h8 z.1)
  exact s 7 (by decide) (by decide) (s 6 (by decide) (by decide) (s 5 (by decide) (by decide) (s 4 (by decide) (by decide) h)))
theorem LR_fin {V : Vs} {Q : Fn} {R : Nat → Fn} {A : Nat} {c y : Int32} (H : LR V Q R A c y) : LR V (upd (upd Q 3 (Q 3 + c)) 4 (Q 4 + y)) R A 0 0 := by
  obtain ⟨hI, h8, ⟨q0, q1, q2, q3, q4⟩, q5, hs, hn⟩ := H
  refine ⟨hI, h8, ⟨?_, ?_, ?_, ?_, ?_⟩, fun j hj => by rw [pk_un (by omega), pk_un (by omega)]; exact q5 j hj, fun k hk => SR_cg rfl rfl rfl rfl (by rw [pk_un (by omega), pk_un (by omega)]) (by rw [pk_un (by omega), pk_un (by omega)]) (fun _ _ => rfl) (hs k hk), hn⟩
  · rw [pk_un (by omega), pk_un (by omega)]; exact q0
  · rw [pk_un (by omega), pk_un (by omega)]; exact q1
  · rw [pk_un (by omega), pk_un (by omega)]; exact q2
  · rw [pk_un (by omega), pk_us, Int32.add_zero]; exact q3
  · rw [pk_us, Int32.add_zero]; exact q4
end
section
/-! what the law counts in a village of four, and what the class counts -/
section C4
variable {V : Vs} {Q : Fn} {R : Nat → Fn} {A : Nat} {c y : Int32}
theorem LR.cn (H : LR V Q R A c y) : cnN (V 10) 8 = cnN (V 10) 4 := by
  have s : ∀ k, 4 ≤ k → k < 8 → cnN (V 10) (k + 1) = cnN (V 10) k := fun k h4 h8 => by
    rw [cnN, if_neg (H.hi h4 h8), Nat.add_zero]
  rw [s 7 (by decide) (by decide), s 6 (by decide) (by decide), s 5 (by decide) (by decide), s 4 (by decide) (by decide)]
theorem LR.sw (H : LR V Q R A c y) : swL V 8 = swL V 4 := by
  have s : ∀ k, 4 ≤ k → k < 8 → swL V (k + 1) = swL V k := fun k h4 h8 => by
    rw [swL, if_neg (H.hi h4 h8)]
  rw [s 7 (by decide) (by decide), s 6 (by decide) (by decide), s 5 (by decide) (by decide), s 4 (by decide) (by decide)]
theorem LR.bs (H : LR V Q R A c y) (h : Nat) : bsL V h 8 = bsL V h 4 := by
  have s : ∀ k, 4 ≤ k → k < 8 → bsL V h (k + 1) = bsL V h k := fun k h4 h8 => bsL_sk (Or.inl (H.hi h4 h8))
  rw [s 7 (by decide) (by decide), s 6 (by decide) (by decide), s 5 (by decide) (by decide), s 4 (by decide) (by decide)]
theorem LR.cu (H : LR V Q R A c y) (m w : Nat) : cuN V m w 8 = cuN V m w 4 := by
  have s : ∀ k, 4 ≤ k → k < 8 → cuN V m w (k + 1) = cuN V m w k := fun k h4 h8 => by
    rw [cuN, if_neg (fun z => H.hi h4 h8 z.1), Nat.add_zero]
  rw [s 7 (by decide) (by decide), s 6 (by decide) (by decide), s 5 (by decide) (by decide), s 4 (by decide) (by decide)]
theorem LR.cu10 (H : LR V Q R A c y) {m w : Nat} (hm : m < 6) (hw : 10 ≤ w) : ∀ n, n ≤ 4 → cuN V m w n = 0
  | 0, _ => rfl
  | n + 1, hn => by
    rw [cuN, H.cu10 hm hw n (by omega), if_neg]
    rintro ⟨h1, h2⟩
    have := wf_10 (H.row (by omega) h1) hm h2
    omega
/-- the most common word -/
theorem LR.cm (H : LR V Q R A c y) {m : Nat} (hm : m < 6) {o : Option Nat} (h : isG (fun w => nI (cuN V m w 4)) 0 10 o) : o = cmS V m := by
  rw [isG_e h]
  unfold cmS
  rw [wfL_cg (g := fun w => nI (cuN V m w 4)) (fun j _ => congrArg nI (H.cu m j))]
  exact (wfL_z (g := fun w => nI (cuN V m w 4)) (n := 10) 4 (fun i h1 h2 => by rw [H.cu10 hm h1 4 (Nat.le_refl _)]; rfl)).symm
theorem LR_uc (H : LR V Q R A c y) : ∀ n, LR (usC V n) Q R A c y
  | 0 => H
  | n + 1 => LR_us (LR_uc H n)
end C4
def twN (r : Fn) (m : Nat) : Nat → Nat
  | 0 => 0
  | k + 1 => twN r m k + (if wfS r m ≠ none ∧ wfS r k = wfS r m then 1 else 0)
def twT (r : Fn) : Nat → Nat
  | 0 => 0
  | m + 1 => twT r m + twN r m m
def PP (r : Fn) (a b : Nat) : Nat := if wfS r a ≠ none ∧ wfS r a = wfS r b then 1 else 0
def LL (r : Fn) (a b : Nat) : Nat := if wfS r b ≠ none ∧ wfS r a = wfS r b then 1 else 0
theorem LL_e (r : Fn) (a b : Nat) : LL r a b = PP r a b := by
  unfold LL PP
  by_cases h : wfS r a = wfS r b
  · rw [h]
  · rw [if_neg (fun z => h z.2), if_neg (fun z => h z.2)]
theorem tw_e {r : Fn} : twT r 6 = ccN r 6 := by
  have c0 : ccN r 6 = 0 + (0 + PP r 0 1 + PP r 0 2 + PP r 0 3 + PP r 0 4 + PP r 0 5) + (0 + PP r 1 2 + PP r 1 3 + PP r 1 4 + PP r 1 5) + (0 + PP r 2 3 + PP r 2 4 + PP r 2 5) + (0 + PP r 3 4 + PP r 3 5) + (0 + PP r 4 5) + (0) := rfl
  have t0 : twT r 6 = 0 + (0) + (0 + LL r 0 1) + (0 + LL r 0 2 + LL r 1 2) + (0 + LL r 0 3 + LL r 1 3 + LL r 2 3) + (0 + LL r 0 4 + LL r 1 4 + LL r 2 4 + LL r 3 4) + (0 + LL r 0 5 + LL r 1 5 + LL r 2 5 + LL r 3 5 + LL r 4 5) := rfl
  rw [c0, t0]
  simp only [LL_e]
  omega
section OI
variable {r : Fn} {m : Nat}
theorem wfS_lt : oI (wfS r m) < 0 ↔ wfS r m = none := oI_neg (fun i h => by have := wfS_in h; omega)
theorem wfS_ge : 0 ≤ oI (wfS r m) ↔ wfS r m ≠ none := ⟨fun h z => absurd (wfS_lt.mpr z) (Int32.not_lt.mpr h), fun h => Int32.not_lt.mp (fun z => h (wfS_lt.mp z))⟩
theorem wfS_os (r : Fn) (m : Nat) : wfS r m = none ∨ ∃ w, wfS r m = some w := by
  cases wfS r m with
  | none => exact Or.inl rfl
  | some w => exact Or.inr ⟨w, rfl⟩
end OI
theorem cw_s {r : Fn} {m : Nat} : nI (cwN r m) + (if wfS r m = none then (0 : Int32) else 1) = nI (cwN r (m + 1)) := by
  rw [cwN]
  by_cases h : wfS r m = none
  · rw [if_pos h, if_pos h, Int32.add_zero, Nat.add_zero]
  · rw [if_neg h, if_neg h, nI_1]
theorem tw_s {r : Fn} {m k a : Nat} : nI (a + twN r m k) + (if wfS r m ≠ none ∧ wfS r k = wfS r m then (1 : Int32) else 0) = nI (a + twN r m (k + 1)) := by
  rw [twN]
  by_cases h : wfS r m ≠ none ∧ wfS r k = wfS r m
  · rw [if_pos h, if_pos h, nI_1, Nat.add_assoc]
  · rw [if_neg h, if_neg h, Int32.add_zero, Nat.add_zero]
theorem ag_s {V : Vs} {a b m : Nat} : nI (agN V a b m) + (if wfS (V a) m ≠ none ∧ wfS (V a) m = wfS (V b) m then (1 : Int32) else 0) = nI (agN V a b (m + 1)) := by
  rw [agN]
  by_cases h : wfS (V a) m ≠ none ∧ wfS (V a) m = wfS (V b) m
  · rw [if_pos h, if_pos h, nI_1]
  · rw [if_neg h, if_neg h, Int32.add_zero, Nat.add_zero]
theorem cu_n {V : Vs} {m t : Nat} (h : ∀ w, ¬ (V 10 t = 1 ∧ wfS (V t) m = some w)) : (fun w => nI (cuN V m w t)) = (fun w => nI (cuN V m w (t + 1))) := by
  funext w
  rw [cuN, if_neg (h w), Nat.add_zero]
theorem cu_t {V : Vs} {m t w : Nat} (h1 : V 10 t = 1) (h2 : wfS (V t) m = some w) : ∀ j, j < 10 → upd (fun w => nI (cuN V m w t)) w (nI (cuN V m w t) + 1) j = (fun w => nI (cuN V m w (t + 1))) j := fun j _ => by
  dsimp only
  by_cases e : j = w
  · subst e
    rw [pk_us, cuN, if_pos ⟨h1, h2⟩, nI_1]
  · rw [pk_un e, cuN, if_neg (fun z => e (Option.some.inj (z.2.symm.trans h2))), Nat.add_zero]
theorem usC_s {VV : Cs} {m : Nat} : upV (upV VV 0 (usC (VV 0) m)) 0 (usR (upV VV 0 (usC (VV 0) m) 0) m 8) = upV VV 0 (usC (VV 0) (m + 1)) := by
  rw [upV_u, upV_s]; rfl
theorem cm_uc {V : Vs} {m : Nat} : cmS (usC V m) m = cmS V m := cmS_cg (fun r h => usC_r h m)
theorem cn_uc {V : Vs} {m : Nat} : cnN (usC V m 10) 8 = cnN (V 10) 8 := by rw [usC_r (by decide)]
theorem sw_uc {V : Vs} {m : Nat} : ∀ n, n ≤ 8 → swL (usC V m) n = swL V n
  | 0, _ => rfl
  | n + 1, hn => by rw [swL, swL, sw_uc n (by omega), usC_r (by decide), usC_r (show n ≠ 13 by omega)]
/-- nobody by that number -/
theorem no_k {V : Vs} {k : Nat} (hk : k < 8) (hp : ¬ V 10 k = 1) : ¬ ∃ q, q < 8 ∧ nI k = nI q ∧ V 10 q = 1 := by
  rintro ⟨q, h1, h2, h3⟩
  have := (nI_eq (by omega) (by omega)).mp h2
  subst this
  exact hp h3
theorem xX.fr {k : xT} {N a b : Nat} {σ : Sg} {pc : Nat} {lv : List (Option Value)} {st : List Value} (kk : σ N = none → xX k N a b σ pc lv st) : xX k N a b σ pc lv st := by
  obtain ⟨p, l0, e, R, s, m, args, below, meth, c, Q, E0, B0, nL0⟩ := k
  intro H locs ls hh hS hl
  exact kk (hh.fresh (Nat.le_refl _)) H locs ls hh hS hl
theorem wput_cs {E : xEnv} {σ : Sg} {B : Nat} {VV : Cs} {nx sz len : Int32} {tx : Fn} {Q : Fn} {R : Nat → Fn} : wput E (cput E σ B VV nx sz len tx) (B + 165) Q R = cput E (wput E σ (B + 165) Q R) B VV nx sz len tx := wput_c (Nat.le_refl _)
/-- a word that is known, heard -/
theorem c_L_heard_o {l : Launch} {E : xEnv} {B N : Nat} {σ : Sg} {a0 w : Nat} {f : Fn} {o : Option Nat} (he : σ a0 = some (.inl (xI E, 60, .inl f))) (hw : w < 10) (ho : o = some w) : xM l yL_heard cL_heard 4 (some .int) 0 0 0 0 E B [.int (oI o), .ref a0] N σ N σ (some (.int (oI (hdS f w)))) := by
  subst ho
  exact c_L_heard he hw
end
