def F_Rm : u_T := fun k => match k with
  | 0 => ("RoverMinutes", "line", "LRoverMinutes$Line;", true)
  | 1 => ("RoverMinutes", "reader", "LRoverMinutes$PlanReader;", true)
  | 2 => ("RoverMinutes", "supply", "LRoverMinutes$Supply;", true)
  | 3 => ("RoverMinutes", "envelope", "LRoverMinutes$Envelope;", true)
  | 4 => ("RoverMinutes", "plan", "LRoverMinutes$Plan;", false)
  | 5 => ("RoverMinutes", "draft", "LRoverMinutes$Plan;", false)
  | 6 => ("RoverMinutes", "mode", "I", false)
  | 7 => ("RoverMinutes", "time", "I", false)
  | 8 => ("RoverMinutes", "enabledAt", "I", false)
  | _ => ("RoverMinutes", "returnLeft", "I", false)
def t_Rm : Nat → FieldType := fun k => match k with
  | 0 => .object "RoverMinutes$Line"
  | 1 => .object "RoverMinutes$PlanReader"
  | 2 => .object "RoverMinutes$Supply"
  | 3 => .object "RoverMinutes$Envelope"
  | 4 => .object "RoverMinutes$Plan"
  | 5 => .object "RoverMinutes$Plan"
  | 6 => .int
  | 7 => .int
  | 8 => .int
  | _ => .int
theorem n_Rm : ∀ a, a < 10 → ∀ b, b < 10 → a ≠ b → (F_Rm a).2.1 ≠ (F_Rm b).2.1 := by decide +kernel
theorem t_Rm_ok : ∀ k, k < 10 → parseFieldDescriptor (F_Rm k).2.2.1 = some (t_Rm k) := by decide +kernel
theorem hin_Rm : ∀ w ∈ u_ws "RoverMinutes" F_Rm 10, w ∈ am_W := by
  intro w hw
  obtain ⟨k, hk, rfl⟩ := List.mem_map.mp hw
  rw [List.mem_range] at hk
  match k, hk with
  | 0, _ => exact wd_2_15
  | 1, _ => exact wd_2_17
  | 2, _ => exact wd_2_19
  | 3, _ => exact wd_2_21
  | 4, _ => exact wd_2_23
  | 5, _ => exact wd_2_25
  | 6, _ => exact wd_2_27
  | 7, _ => exact wd_2_29
  | 8, _ => exact wd_2_31
  | 9, _ => exact wd_2_33
  | k + 10, h => exact absurd h (by omega)
def F_Line : u_T := fun k => match k with
  | 0 => ("RoverMinutes$Line", "text", "[C", true)
  | _ => ("RoverMinutes$Line", "length", "I", false)
def t_Line : Nat → FieldType := fun k => match k with
  | 0 => .array .char
  | _ => .int
theorem n_Line : ∀ a, a < 2 → ∀ b, b < 2 → a ≠ b → (F_Line a).2.1 ≠ (F_Line b).2.1 := by decide +kernel
theorem t_Line_ok : ∀ k, k < 2 → parseFieldDescriptor (F_Line k).2.2.1 = some (t_Line k) := by decide +kernel
theorem hin_Line : ∀ w ∈ u_ws "RoverMinutes$Line" F_Line 2, w ∈ am_W := by
  intro w hw
  obtain ⟨k, hk, rfl⟩ := List.mem_map.mp hw
  rw [List.mem_range] at hk
  match k, hk with
  | 0, _ => exact wd_1_39
  | 1, _ => exact wd_1_41
  | k + 2, h => exact absurd h (by omega)
def F_PlanReader : u_T := fun k => match k with
  | 0 => ("RoverMinutes$PlanReader", "line", "LRoverMinutes$Line;", true)
  | _ => ("RoverMinutes$PlanReader", "at", "I", false)
def t_PlanReader : Nat → FieldType := fun k => match k with
  | 0 => .object "RoverMinutes$Line"
  | _ => .int
theorem n_PlanReader : ∀ a, a < 2 → ∀ b, b < 2 → a ≠ b → (F_PlanReader a).2.1 ≠ (F_PlanReader b).2.1 := by decide +kernel
theorem t_PlanReader_ok : ∀ k, k < 2 → parseFieldDescriptor (F_PlanReader k).2.2.1 = some (t_PlanReader k) := by decide +kernel
theorem hin_PlanReader : ∀ w ∈ u_ws "RoverMinutes$PlanReader" F_PlanReader 2, w ∈ am_W := by
  intro w hw
  obtain ⟨k, hk, rfl⟩ := List.mem_map.mp hw
  rw [List.mem_range] at hk
  match k, hk with
  | 0, _ => exact wd_1_53
  | 1, _ => exact wd_1_55
  | k + 2, h => exact absurd h (by omega)
def F_Supply : u_T := fun k => match k with
  | 0 => ("RoverMinutes$Supply", "energy", "I", false)
  | 1 => ("RoverMinutes$Supply", "store", "I", false)
  | 2 => ("RoverMinutes$Supply", "trueGain", "I", false)
  | 3 => ("RoverMinutes$Supply", "homeMinutes", "I", false)
  | 4 => ("RoverMinutes$Supply", "homeDraw", "I", false)
  | 5 => ("RoverMinutes$Supply", "lowerGains", "[I", true)
  | _ => ("RoverMinutes$Supply", "needs", "[I", true)
def t_Supply : Nat → FieldType := fun k => match k with
  | 0 => .int
  | 1 => .int
  | 2 => .int
  | 3 => .int
  | 4 => .int
  | 5 => .array .int
  | _ => .array .int
theorem n_Supply : ∀ a, a < 7 → ∀ b, b < 7 → a ≠ b → (F_Supply a).2.1 ≠ (F_Supply b).2.1 := by decide +kernel
theorem t_Supply_ok : ∀ k, k < 7 → parseFieldDescriptor (F_Supply k).2.2.1 = some (t_Supply k) := by decide +kernel
theorem hin_Supply : ∀ w ∈ u_ws "RoverMinutes$Supply" F_Supply 7, w ∈ am_W := by
  intro w hw
  obtain ⟨k, hk, rfl⟩ := List.mem_map.mp hw
  rw [List.mem_range] at hk
  match k, hk with
  | 0, _ => exact wd_1_93
  | 1, _ => exact wd_1_95
  | 2, _ => exact wd_1_97
  | 3, _ => exact wd_1_99
  | 4, _ => exact wd_1_101
  | 5, _ => exact wd_1_103
  | 6, _ => exact wd_1_105
  | k + 7, h => exact absurd h (by omega)
def F_Envelope : u_T := fun k => match k with
  | 0 => ("RoverMinutes$Envelope", "drawsAhead", "[I", true)
  | 1 => ("RoverMinutes$Envelope", "length", "I", false)
  | 2 => ("RoverMinutes$Envelope", "heat", "I", false)
  | _ => ("RoverMinutes$Envelope", "data", "I", false)
def t_Envelope : Nat → FieldType := fun k => match k with
  | 0 => .array .int
  | 1 => .int
  | 2 => .int
  | _ => .int
theorem n_Envelope : ∀ a, a < 4 → ∀ b, b < 4 → a ≠ b → (F_Envelope a).2.1 ≠ (F_Envelope b).2.1 := by decide +kernel
theorem t_Envelope_ok : ∀ k, k < 4 → parseFieldDescriptor (F_Envelope k).2.2.1 = some (t_Envelope k) := by decide +kernel
theorem hin_Envelope : ∀ w ∈ u_ws "RoverMinutes$Envelope" F_Envelope 4, w ∈ am_W := by
  intro w hw
  obtain ⟨k, hk, rfl⟩ := List.mem_map.mp hw
  rw [List.mem_range] at hk
  match k, hk with
  | 0, _ => exact wd_1_119
  | 1, _ => exact wd_1_121
  | 2, _ => exact wd_1_123
  | 3, _ => exact wd_1_125
  | k + 4, h => exact absurd h (by omega)
def F_Plan : u_T := fun k => match k with
  | 0 => ("RoverMinutes$Plan", "members", "[LRoverMinutes$Activity;", true)
  | _ => ("RoverMinutes$Plan", "count", "I", false)
def t_Plan : Nat → FieldType := fun k => match k with
  | 0 => .array (.object "RoverMinutes$Activity")
  | _ => .int
theorem n_Plan : ∀ a, a < 2 → ∀ b, b < 2 → a ≠ b → (F_Plan a).2.1 ≠ (F_Plan b).2.1 := by decide +kernel
theorem t_Plan_ok : ∀ k, k < 2 → parseFieldDescriptor (F_Plan k).2.2.1 = some (t_Plan k) := by decide +kernel
theorem hin_Plan : ∀ w ∈ u_ws "RoverMinutes$Plan" F_Plan 2, w ∈ am_W := by
  intro w hw
  obtain ⟨k, hk, rfl⟩ := List.mem_map.mp hw
  rw [List.mem_range] at hk
  match k, hk with
  | 0, _ => exact wd_2_0
  | 1, _ => exact wd_2_2
  | k + 2, h => exact absurd h (by omega)
def F_Activity : u_T := fun k => match k with
  | 0 => ("RoverMinutes$Activity", "shortest", "I", false)
  | 1 => ("RoverMinutes$Activity", "longest", "I", false)
  | 2 => ("RoverMinutes$Activity", "energy", "I", false)
  | 3 => ("RoverMinutes$Activity", "data", "I", false)
  | 4 => ("RoverMinutes$Activity", "heat", "I", false)
  | 5 => ("RoverMinutes$Activity", "latest", "I", false)
  | 6 => ("RoverMinutes$Activity", "retries", "I", false)
  | 7 => ("RoverMinutes$Activity", "after", "I", false)
  | 8 => ("RoverMinutes$Activity", "insteadOf", "I", false)
  | 9 => ("RoverMinutes$Activity", "earliest", "I", false)
  | 10 => ("RoverMinutes$Activity", "state", "I", false)
  | 11 => ("RoverMinutes$Activity", "startedIn", "I", false)
  | 12 => ("RoverMinutes$Activity", "lasted", "I", false)
  | 13 => ("RoverMinutes$Activity", "retriesLeft", "I", false)
  | 14 => ("RoverMinutes$Activity", "starts", "I", false)
  | 15 => ("RoverMinutes$Activity", "due", "I", false)
  | 16 => ("RoverMinutes$Activity", "draw", "I", false)
  | 17 => ("RoverMinutes$Activity", "saidMinutes", "I", false)
  | _ => ("RoverMinutes$Activity", "saidDraw", "I", false)
def t_Activity : Nat → FieldType := fun k => match k with
  | 0 => .int
  | 1 => .int
  | 2 => .int
  | 3 => .int
  | 4 => .int
  | 5 => .int
  | 6 => .int
  | 7 => .int
  | 8 => .int
  | 9 => .int
  | 10 => .int
  | 11 => .int
  | 12 => .int
  | 13 => .int
  | 14 => .int
  | 15 => .int
  | 16 => .int
  | 17 => .int
  | _ => .int
theorem n_Activity : ∀ a, a < 19 → ∀ b, b < 19 → a ≠ b → (F_Activity a).2.1 ≠ (F_Activity b).2.1 := by decide +kernel
theorem t_Activity_ok : ∀ k, k < 19 → parseFieldDescriptor (F_Activity k).2.2.1 = some (t_Activity k) := by decide +kernel
theorem hin_Activity : ∀ w ∈ u_ws "RoverMinutes$Activity" F_Activity 19, w ∈ am_W := by
  intro w hw
  obtain ⟨k, hk, rfl⟩ := List.mem_map.mp hw
  rw [List.mem_range] at hk
  match k, hk with
  | 0, _ => exact wd_1_193
  | 1, _ => exact wd_1_195
  | 2, _ => exact wd_1_197
  | 3, _ => exact wd_1_199
  | 4, _ => exact wd_1_201
  | 5, _ => exact wd_1_203
  | 6, _ => exact wd_1_205
  | 7, _ => exact wd_1_207
  | 8, _ => exact wd_1_209
  | 9, _ => exact wd_1_211
  | 10, _ => exact wd_1_213
  | 11, _ => exact wd_1_215
  | 12, _ => exact wd_1_217
  | 13, _ => exact wd_1_219
  | 14, _ => exact wd_1_221
  | 15, _ => exact wd_1_223
  | 16, _ => exact wd_1_225
  | 17, _ => exact wd_1_227
  | 18, _ => exact wd_1_229
  | k + 19, h => exact absurd h (by omega)
def F_Mo : u_T := fun k => match k with
  | 0 => ("RoverMinutesModel", "thrown", "I", false)
  | 1 => ("RoverMinutesModel", "line", "[I", true)
  | 2 => ("RoverMinutesModel", "typed", "I", false)
  | 3 => ("RoverMinutesModel", "at", "I", false)
  | 4 => ("RoverMinutesModel", "readCount", "I", false)
  | 5 => ("RoverMinutesModel", "seen", "I", false)
  | 6 => ("RoverMinutesModel", "read", "[I", true)
  | 7 => ("RoverMinutesModel", "rings", "[I", true)
  | 8 => ("RoverMinutesModel", "firsts", "[I", true)
  | 9 => ("RoverMinutesModel", "count", "I", false)
  | 10 => ("RoverMinutesModel", "plan", "[I", true)
  | 11 => ("RoverMinutesModel", "earliest", "[I", true)
  | 12 => ("RoverMinutesModel", "states", "[I", true)
  | 13 => ("RoverMinutesModel", "started", "[I", true)
  | 14 => ("RoverMinutesModel", "ages", "[I", true)
  | 15 => ("RoverMinutesModel", "retries", "[I", true)
  | 16 => ("RoverMinutesModel", "starts", "[I", true)
  | 17 => ("RoverMinutesModel", "lengths", "[I", true)
  | 18 => ("RoverMinutesModel", "pulls", "[I", true)
  | 19 => ("RoverMinutesModel", "saidLength", "[I", true)
  | 20 => ("RoverMinutesModel", "saidPull", "[I", true)
  | 21 => ("RoverMinutesModel", "time", "I", false)
  | 22 => ("RoverMinutesModel", "mode", "I", false)
  | 23 => ("RoverMinutesModel", "level", "I", false)
  | 24 => ("RoverMinutesModel", "store", "I", false)
  | 25 => ("RoverMinutesModel", "curve", "[I", true)
  | 26 => ("RoverMinutesModel", "trueGain", "I", false)
  | 27 => ("RoverMinutesModel", "homeMinutes", "I", false)
  | 28 => ("RoverMinutesModel", "homeDraw", "I", false)
  | 29 => ("RoverMinutesModel", "homeLeft", "I", false)
  | _ => ("RoverMinutesModel", "enabledAt", "I", false)
def t_Mo : Nat → FieldType := fun k => match k with
  | 0 => .int
  | 1 => .array .int
  | 2 => .int
  | 3 => .int
  | 4 => .int
  | 5 => .int
  | 6 => .array .int
  | 7 => .array .int
  | 8 => .array .int
  | 9 => .int
  | 10 => .array .int
  | 11 => .array .int
  | 12 => .array .int
  | 13 => .array .int
  | 14 => .array .int
  | 15 => .array .int
  | 16 => .array .int
  | 17 => .array .int
  | 18 => .array .int
  | 19 => .array .int
  | 20 => .array .int
  | 21 => .int
  | 22 => .int
  | 23 => .int
  | 24 => .int
  | 25 => .array .int
  | 26 => .int
  | 27 => .int
  | 28 => .int
  | 29 => .int
  | _ => .int
theorem n_Mo : ∀ a, a < 31 → ∀ b, b < 31 → a ≠ b → (F_Mo a).2.1 ≠ (F_Mo b).2.1 := by decide +kernel
theorem t_Mo_ok : ∀ k, k < 31 → parseFieldDescriptor (F_Mo k).2.2.1 = some (t_Mo k) := by decide +kernel
theorem hin_Mo : ∀ w ∈ u_ws "RoverMinutesModel" F_Mo 31, w ∈ am_W := by
  intro w hw
  obtain ⟨k, hk, rfl⟩ := List.mem_map.mp hw
  rw [List.mem_range] at hk
  match k, hk with
  | 0, _ => exact wd_4_131
  | 1, _ => exact wd_4_133
  | 2, _ => exact wd_4_135
  | 3, _ => exact wd_4_137
  | 4, _ => exact wd_4_139
  | 5, _ => exact wd_4_141
  | 6, _ => exact wd_4_143
  | 7, _ => exact wd_4_145
  | 8, _ => exact wd_4_147
  | 9, _ => exact wd_4_149
  | 10, _ => exact wd_4_151
  | 11, _ => exact wd_4_153
  | 12, _ => exact wd_4_155
  | 13, _ => exact wd_4_157
  | 14, _ => exact wd_4_159
  | 15, _ => exact wd_4_161
  | 16, _ => exact wd_4_163
  | 17, _ => exact wd_4_165
  | 18, _ => exact wd_4_167
  | 19, _ => exact wd_4_169
  | 20, _ => exact wd_4_171
  | 21, _ => exact wd_4_173
  | 22, _ => exact wd_4_175
  | 23, _ => exact wd_4_177
  | 24, _ => exact wd_4_179
  | 25, _ => exact wd_4_181
  | 26, _ => exact wd_4_183
  | 27, _ => exact wd_4_185
  | 28, _ => exact wd_4_187
  | 29, _ => exact wd_4_189
  | 30, _ => exact wd_4_191
  | k + 31, h => exact absurd h (by omega)
abbrev classes : List vw_C := [("RoverMinutes", F_Rm, 10), ("RoverMinutes$Line", F_Line, 2), ("RoverMinutes$PlanReader", F_PlanReader, 2), ("RoverMinutes$Supply", F_Supply, 7), ("RoverMinutes$Envelope", F_Envelope, 4), ("RoverMinutes$Plan", F_Plan, 2), ("RoverMinutes$Activity", F_Activity, 19), ("RoverMinutesModel", F_Mo, 31)]
def tys : Nat → Nat → FieldType := fun ci => match ci with
  | 0 => t_Rm
  | 1 => t_Line
  | 2 => t_PlanReader
  | 3 => t_Supply
  | 4 => t_Envelope
  | 5 => t_Plan
  | 6 => t_Activity
  | _ => t_Mo
abbrev b_Rm_init : ByteArray := prog_1_method_1_code
abbrev y_Rm_init : MethodName := ⟨"RoverMinutes", "<init>", "()V"⟩
abbrev b_Rm_type : ByteArray := prog_1_method_2_code
abbrev y_Rm_type : MethodName := ⟨"RoverMinutes", "type", "(I)Z"⟩
abbrev b_Rm_submit : ByteArray := prog_1_method_3_code
abbrev y_Rm_submit : MethodName := ⟨"RoverMinutes", "submit", "()I"⟩
abbrev b_Rm_enable : ByteArray := prog_1_method_4_code
abbrev y_Rm_enable : MethodName := ⟨"RoverMinutes", "enable", "()I"⟩
abbrev b_Rm_cancel : ByteArray := prog_1_method_5_code
abbrev y_Rm_cancel : MethodName := ⟨"RoverMinutes", "cancel", "()V"⟩
abbrev b_Rm_minutes : ByteArray := prog_1_method_6_code
abbrev y_Rm_minutes : MethodName := ⟨"RoverMinutes", "minutes", "(I)I"⟩
abbrev b_Rm_lasts : ByteArray := prog_1_method_7_code
abbrev y_Rm_lasts : MethodName := ⟨"RoverMinutes", "lasts", "(II)V"⟩
abbrev b_Rm_draws : ByteArray := prog_1_method_8_code
abbrev y_Rm_draws : MethodName := ⟨"RoverMinutes", "draws", "(II)V"⟩
abbrev b_Rm_curve : ByteArray := prog_1_method_9_code
abbrev y_Rm_curve : MethodName := ⟨"RoverMinutes", "curve", "(II)V"⟩
abbrev b_Rm_gain : ByteArray := prog_1_method_10_code
abbrev y_Rm_gain : MethodName := ⟨"RoverMinutes", "gain", "(I)V"⟩
abbrev b_Rm_home : ByteArray := prog_1_method_11_code
abbrev y_Rm_home : MethodName := ⟨"RoverMinutes", "home", "(II)V"⟩
abbrev b_Rm_fill : ByteArray := prog_1_method_12_code
abbrev y_Rm_fill : MethodName := ⟨"RoverMinutes", "fill", "(II)V"⟩
abbrev b_Rm_now : ByteArray := prog_1_method_13_code
abbrev y_Rm_now : MethodName := ⟨"RoverMinutes", "now", "()I"⟩
abbrev b_Rm_mode : ByteArray := prog_1_method_14_code
abbrev y_Rm_mode : MethodName := ⟨"RoverMinutes", "mode", "()I"⟩
abbrev b_Rm_level : ByteArray := prog_1_method_15_code
abbrev y_Rm_level : MethodName := ⟨"RoverMinutes", "level", "(I)I"⟩
abbrev b_Rm_reserve : ByteArray := prog_1_method_16_code
abbrev y_Rm_reserve : MethodName := ⟨"RoverMinutes", "reserve", "()I"⟩
abbrev b_Rm_activities : ByteArray := prog_1_method_17_code
abbrev y_Rm_activities : MethodName := ⟨"RoverMinutes", "activities", "()I"⟩
abbrev b_Rm_activity : ByteArray := prog_1_method_18_code
abbrev y_Rm_activity : MethodName := ⟨"RoverMinutes", "activity", "(II)I"⟩
abbrev b_Rm_lowest : ByteArray := prog_1_method_19_code
abbrev y_Rm_lowest : MethodName := ⟨"RoverMinutes", "lowest", "()I"⟩
abbrev b_Rm_could : ByteArray := prog_1_method_20_code
abbrev y_Rm_could : MethodName := ⟨"RoverMinutes", "could", "(I)Z"⟩
abbrev b_Rm_byteOf : ByteArray := prog_1_method_21_code
abbrev y_Rm_byteOf : MethodName := ⟨"RoverMinutes", "byteOf", "(II)I"⟩
abbrev b_Rm_passInPlan : ByteArray := prog_1_method_22_code
abbrev y_Rm_passInPlan : MethodName := ⟨"RoverMinutes", "passInPlan", "()I"⟩
abbrev b_Rm_passInReturn : ByteArray := prog_1_method_23_code
abbrev y_Rm_passInReturn : MethodName := ⟨"RoverMinutes", "passInReturn", "()V"⟩
abbrev b_Rm_beginReturn : ByteArray := prog_1_method_24_code
abbrev y_Rm_beginReturn : MethodName := ⟨"RoverMinutes", "beginReturn", "()V"⟩
abbrev b_Rm_startAndSettle : ByteArray := prog_1_method_25_code
abbrev y_Rm_startAndSettle : MethodName := ⟨"RoverMinutes", "startAndSettle", "()I"⟩
abbrev b_Rm_mayStart : ByteArray := prog_1_method_26_code
abbrev y_Rm_mayStart : MethodName := ⟨"RoverMinutes", "mayStart", "(I)Z"⟩
abbrev b_Line_init : ByteArray := prog_4_method_1_code
abbrev y_Line_init : MethodName := ⟨"RoverMinutes$Line", "<init>", "()V"⟩
abbrev b_Line_canHold : ByteArray := prog_4_method_2_code
abbrev y_Line_canHold : MethodName := ⟨"RoverMinutes$Line", "canHold", "(I)Z"⟩
abbrev b_Line_hasRoomFor : ByteArray := prog_4_method_3_code
abbrev y_Line_hasRoomFor : MethodName := ⟨"RoverMinutes$Line", "hasRoomFor", "(I)Z"⟩
abbrev b_Line_put : ByteArray := prog_4_method_4_code
abbrev y_Line_put : MethodName := ⟨"RoverMinutes$Line", "put", "(C)V"⟩
abbrev b_Line_clear : ByteArray := prog_4_method_5_code
abbrev y_Line_clear : MethodName := ⟨"RoverMinutes$Line", "clear", "()V"⟩
abbrev b_PlanReader_init : ByteArray := prog_6_method_1_code
abbrev y_PlanReader_init : MethodName := ⟨"RoverMinutes$PlanReader", "<init>", "(LRoverMinutes$Line;)V"⟩
abbrev b_PlanReader_read : ByteArray := prog_6_method_2_code
abbrev y_PlanReader_read : MethodName := ⟨"RoverMinutes$PlanReader", "read", "(LRoverMinutes$Plan;)I"⟩
abbrev b_PlanReader_readTimes : ByteArray := prog_6_method_3_code
abbrev y_PlanReader_readTimes : MethodName := ⟨"RoverMinutes$PlanReader", "readTimes", "(LRoverMinutes$Activity;C)Z"⟩
abbrev b_PlanReader_readOptions : ByteArray := prog_6_method_4_code
abbrev y_PlanReader_readOptions : MethodName := ⟨"RoverMinutes$PlanReader", "readOptions", "(LRoverMinutes$Activity;)Z"⟩
abbrev b_PlanReader_readValue : ByteArray := prog_6_method_5_code
abbrev y_PlanReader_readValue : MethodName := ⟨"RoverMinutes$PlanReader", "readValue", "(LRoverMinutes$Activity;I)Z"⟩
abbrev b_PlanReader_readLink : ByteArray := prog_6_method_6_code
abbrev y_PlanReader_readLink : MethodName := ⟨"RoverMinutes$PlanReader", "readLink", "(LRoverMinutes$Activity;C)Z"⟩
abbrev b_PlanReader_take : ByteArray := prog_6_method_7_code
abbrev y_PlanReader_take : MethodName := ⟨"RoverMinutes$PlanReader", "take", "(C)Z"⟩
abbrev b_PlanReader_takeNumber : ByteArray := prog_6_method_8_code
abbrev y_PlanReader_takeNumber : MethodName := ⟨"RoverMinutes$PlanReader", "takeNumber", "()I"⟩
abbrev b_PlanReader_takeDigit : ByteArray := prog_6_method_9_code
abbrev y_PlanReader_takeDigit : MethodName := ⟨"RoverMinutes$PlanReader", "takeDigit", "()I"⟩
abbrev b_Supply_init : ByteArray := prog_7_method_1_code
abbrev y_Supply_init : MethodName := ⟨"RoverMinutes$Supply", "<init>", "()V"⟩
abbrev b_Supply_setWayHome : ByteArray := prog_7_method_2_code
abbrev y_Supply_setWayHome : MethodName := ⟨"RoverMinutes$Supply", "setWayHome", "(II)V"⟩
abbrev b_Supply_setLowerGain : ByteArray := prog_7_method_3_code
abbrev y_Supply_setLowerGain : MethodName := ⟨"RoverMinutes$Supply", "setLowerGain", "(II)V"⟩
abbrev b_Supply_reckonNeeds : ByteArray := prog_7_method_4_code
abbrev y_Supply_reckonNeeds : MethodName := ⟨"RoverMinutes$Supply", "reckonNeeds", "()V"⟩
abbrev b_Supply_needFrom : ByteArray := prog_7_method_5_code
abbrev y_Supply_needFrom : MethodName := ⟨"RoverMinutes$Supply", "needFrom", "(I)I"⟩
abbrev b_Supply_lowerGain : ByteArray := prog_7_method_6_code
abbrev y_Supply_lowerGain : MethodName := ⟨"RoverMinutes$Supply", "lowerGain", "(I)I"⟩
abbrev b_Supply_needBehind : ByteArray := prog_7_method_7_code
abbrev y_Supply_needBehind : MethodName := ⟨"RoverMinutes$Supply", "needBehind", "(I)I"⟩
abbrev b_Supply_isOpen : ByteArray := prog_7_method_8_code
abbrev y_Supply_isOpen : MethodName := ⟨"RoverMinutes$Supply", "isOpen", "(II)Z"⟩
abbrev b_Supply_goOn : ByteArray := prog_7_method_9_code
abbrev y_Supply_goOn : MethodName := ⟨"RoverMinutes$Supply", "goOn", "(III)I"⟩
abbrev b_Supply_pass : ByteArray := prog_7_method_10_code
abbrev y_Supply_pass : MethodName := ⟨"RoverMinutes$Supply", "pass", "(II)V"⟩
abbrev b_Supply_keep : ByteArray := prog_7_method_11_code
abbrev y_Supply_keep : MethodName := ⟨"RoverMinutes$Supply", "keep", "(I)V"⟩
abbrev b_Envelope_init : ByteArray := prog_3_method_1_code
abbrev y_Envelope_init : MethodName := ⟨"RoverMinutes$Envelope", "<init>", "()V"⟩
abbrev b_Envelope_gather : ByteArray := prog_3_method_2_code
abbrev y_Envelope_gather : MethodName := ⟨"RoverMinutes$Envelope", "gather", "(LRoverMinutes$Plan;I)V"⟩
abbrev b_Envelope_clear : ByteArray := prog_3_method_3_code
abbrev y_Envelope_clear : MethodName := ⟨"RoverMinutes$Envelope", "clear", "()V"⟩
abbrev b_Envelope_add : ByteArray := prog_3_method_4_code
abbrev y_Envelope_add : MethodName := ⟨"RoverMinutes$Envelope", "add", "(LRoverMinutes$Activity;I)V"⟩
abbrev b_Envelope_holds : ByteArray := prog_3_method_5_code
abbrev y_Envelope_holds : MethodName := ⟨"RoverMinutes$Envelope", "holds", "(LRoverMinutes$Supply;I)Z"⟩
abbrev b_Envelope_deepest : ByteArray := prog_3_method_6_code
abbrev y_Envelope_deepest : MethodName := ⟨"RoverMinutes$Envelope", "deepest", "(LRoverMinutes$Supply;I)I"⟩
abbrev b_Plan_init : ByteArray := prog_5_method_1_code
abbrev y_Plan_init : MethodName := ⟨"RoverMinutes$Plan", "<init>", "()V"⟩
abbrev b_Plan_has : ByteArray := prog_5_method_2_code
abbrev y_Plan_has : MethodName := ⟨"RoverMinutes$Plan", "has", "(I)Z"⟩
abbrev b_Plan_makeReady : ByteArray := prog_5_method_3_code
abbrev y_Plan_makeReady : MethodName := ⟨"RoverMinutes$Plan", "makeReady", "()V"⟩
abbrev b_Plan_findUnfit : ByteArray := prog_5_method_4_code
abbrev y_Plan_findUnfit : MethodName := ⟨"RoverMinutes$Plan", "findUnfit", "()I"⟩
abbrev b_Plan_saysWrong : ByteArray := prog_5_method_5_code
abbrev y_Plan_saysWrong : MethodName := ⟨"RoverMinutes$Plan", "saysWrong", "(I)Z"⟩
abbrev b_Plan_isInRing : ByteArray := prog_5_method_6_code
abbrev y_Plan_isInRing : MethodName := ⟨"RoverMinutes$Plan", "isInRing", "(I)Z"⟩
abbrev b_Plan_reckonEarliest : ByteArray := prog_5_method_7_code
abbrev y_Plan_reckonEarliest : MethodName := ⟨"RoverMinutes$Plan", "reckonEarliest", "()V"⟩
abbrev b_Plan_earliestOf : ByteArray := prog_5_method_8_code
abbrev y_Plan_earliestOf : MethodName := ⟨"RoverMinutes$Plan", "earliestOf", "(LRoverMinutes$Activity;)I"⟩
abbrev b_Plan_runningDraw : ByteArray := prog_5_method_9_code
abbrev y_Plan_runningDraw : MethodName := ⟨"RoverMinutes$Plan", "runningDraw", "()I"⟩
abbrev b_Plan_runningData : ByteArray := prog_5_method_10_code
abbrev y_Plan_runningData : MethodName := ⟨"RoverMinutes$Plan", "runningData", "()I"⟩
abbrev b_Plan_runningHeat : ByteArray := prog_5_method_11_code
abbrev y_Plan_runningHeat : MethodName := ⟨"RoverMinutes$Plan", "runningHeat", "()I"⟩
abbrev b_Plan_growOlder : ByteArray := prog_5_method_12_code
abbrev y_Plan_growOlder : MethodName := ⟨"RoverMinutes$Plan", "growOlder", "()V"⟩
abbrev b_Plan_skipHopeless : ByteArray := prog_5_method_13_code
abbrev y_Plan_skipHopeless : MethodName := ⟨"RoverMinutes$Plan", "skipHopeless", "(I)V"⟩
abbrev b_Plan_isHopeless : ByteArray := prog_5_method_14_code
abbrev y_Plan_isHopeless : MethodName := ⟨"RoverMinutes$Plan", "isHopeless", "(LRoverMinutes$Activity;I)Z"⟩
abbrev b_Plan_isReady : ByteArray := prog_5_method_15_code
abbrev y_Plan_isReady : MethodName := ⟨"RoverMinutes$Plan", "isReady", "(I)Z"⟩
abbrev b_Plan_giveUp : ByteArray := prog_5_method_16_code
abbrev y_Plan_giveUp : MethodName := ⟨"RoverMinutes$Plan", "giveUp", "()V"⟩
abbrev b_Plan_isOver : ByteArray := prog_5_method_17_code
abbrev y_Plan_isOver : MethodName := ⟨"RoverMinutes$Plan", "isOver", "()Z"⟩
abbrev b_Activity_init : ByteArray := prog_2_method_1_code
abbrev y_Activity_init : MethodName := ⟨"RoverMinutes$Activity", "<init>", "()V"⟩
abbrev b_Activity_clear : ByteArray := prog_2_method_2_code
abbrev y_Activity_clear : MethodName := ⟨"RoverMinutes$Activity", "clear", "()V"⟩
abbrev b_Activity_makeReady : ByteArray := prog_2_method_3_code
abbrev y_Activity_makeReady : MethodName := ⟨"RoverMinutes$Activity", "makeReady", "()V"⟩
abbrev b_Activity_isAfter : ByteArray := prog_2_method_4_code
abbrev y_Activity_isAfter : MethodName := ⟨"RoverMinutes$Activity", "isAfter", "(I)Z"⟩
abbrev b_Activity_isInsteadOf : ByteArray := prog_2_method_5_code
abbrev y_Activity_isInsteadOf : MethodName := ⟨"RoverMinutes$Activity", "isInsteadOf", "(I)Z"⟩
abbrev b_Activity_isRunning : ByteArray := prog_2_method_6_code
abbrev y_Activity_isRunning : MethodName := ⟨"RoverMinutes$Activity", "isRunning", "()Z"⟩
abbrev b_Activity_isWaiting : ByteArray := prog_2_method_7_code
abbrev y_Activity_isWaiting : MethodName := ⟨"RoverMinutes$Activity", "isWaiting", "()Z"⟩
abbrev b_Activity_isDone : ByteArray := prog_2_method_8_code
abbrev y_Activity_isDone : MethodName := ⟨"RoverMinutes$Activity", "isDone", "()Z"⟩
abbrev b_Activity_hasFailed : ByteArray := prog_2_method_9_code
abbrev y_Activity_hasFailed : MethodName := ⟨"RoverMinutes$Activity", "hasFailed", "()Z"⟩
abbrev b_Activity_start : ByteArray := prog_2_method_10_code
abbrev y_Activity_start : MethodName := ⟨"RoverMinutes$Activity", "start", "(I)V"⟩
abbrev b_Activity_growOlder : ByteArray := prog_2_method_11_code
abbrev y_Activity_growOlder : MethodName := ⟨"RoverMinutes$Activity", "growOlder", "()V"⟩
abbrev b_Activity_stop : ByteArray := prog_2_method_12_code
abbrev y_Activity_stop : MethodName := ⟨"RoverMinutes$Activity", "stop", "()V"⟩
abbrev b_Mo_init : ByteArray := prog_9_method_1_code
abbrev y_Mo_init : MethodName := ⟨"RoverMinutesModel", "<init>", "()V"⟩
abbrev b_Mo_thrown : ByteArray := prog_9_method_2_code
abbrev y_Mo_thrown : MethodName := ⟨"RoverMinutesModel", "thrown", "()I"⟩
abbrev b_Mo_refused : ByteArray := prog_9_method_3_code
abbrev y_Mo_refused : MethodName := ⟨"RoverMinutesModel", "refused", "(ZZ)Z"⟩
abbrev b_Mo_type : ByteArray := prog_9_method_4_code
abbrev y_Mo_type : MethodName := ⟨"RoverMinutesModel", "type", "(I)Z"⟩
abbrev b_Mo_look : ByteArray := prog_9_method_5_code
abbrev y_Mo_look : MethodName := ⟨"RoverMinutesModel", "look", "()I"⟩
abbrev b_Mo_isDigit : ByteArray := prog_9_method_6_code
abbrev y_Mo_isDigit : MethodName := ⟨"RoverMinutesModel", "isDigit", "()Z"⟩
abbrev b_Mo_readNumber : ByteArray := prog_9_method_7_code
abbrev y_Mo_readNumber : MethodName := ⟨"RoverMinutesModel", "readNumber", "()I"⟩
abbrev b_Mo_readInto : ByteArray := prog_9_method_8_code
abbrev y_Mo_readInto : MethodName := ⟨"RoverMinutesModel", "readInto", "(I)Z"⟩
abbrev b_Mo_rowOf : ByteArray := prog_9_method_9_code
abbrev y_Mo_rowOf : MethodName := ⟨"RoverMinutesModel", "rowOf", "(I)I"⟩
abbrev b_Mo_readOption : ByteArray := prog_9_method_10_code
abbrev y_Mo_readOption : MethodName := ⟨"RoverMinutesModel", "readOption", "()I"⟩
abbrev b_Mo_readActivity : ByteArray := prog_9_method_11_code
abbrev y_Mo_readActivity : MethodName := ⟨"RoverMinutesModel", "readActivity", "()Z"⟩
abbrev b_Mo_readLine : ByteArray := prog_9_method_12_code
abbrev y_Mo_readLine : MethodName := ⟨"RoverMinutesModel", "readLine", "()Z"⟩
abbrev b_Mo_isWrong : ByteArray := prog_9_method_13_code
abbrev y_Mo_isWrong : MethodName := ⟨"RoverMinutesModel", "isWrong", "(I)Z"⟩
abbrev b_Mo_findRings : ByteArray := prog_9_method_14_code
abbrev y_Mo_findRings : MethodName := ⟨"RoverMinutesModel", "findRings", "()V"⟩
abbrev b_Mo_findFirsts : ByteArray := prog_9_method_15_code
abbrev y_Mo_findFirsts : MethodName := ⟨"RoverMinutesModel", "findFirsts", "()V"⟩
abbrev b_Mo_unfit : ByteArray := prog_9_method_16_code
abbrev y_Mo_unfit : MethodName := ⟨"RoverMinutesModel", "unfit", "()I"⟩
abbrev b_Mo_rest : ByteArray := prog_9_method_17_code
abbrev y_Mo_rest : MethodName := ⟨"RoverMinutesModel", "rest", "()V"⟩
abbrev b_Mo_submit : ByteArray := prog_9_method_18_code
abbrev y_Mo_submit : MethodName := ⟨"RoverMinutesModel", "submit", "()I"⟩
abbrev b_Mo_afterMinute : ByteArray := prog_9_method_19_code
abbrev y_Mo_afterMinute : MethodName := ⟨"RoverMinutesModel", "afterMinute", "(III)I"⟩
abbrev b_Mo_isOpen : ByteArray := prog_9_method_20_code
abbrev y_Mo_isOpen : MethodName := ⟨"RoverMinutesModel", "isOpen", "(II)Z"⟩
abbrev b_Mo_isRunningOr : ByteArray := prog_9_method_21_code
abbrev y_Mo_isRunningOr : MethodName := ⟨"RoverMinutesModel", "isRunningOr", "(II)Z"⟩
abbrev b_Mo_leftOf : ByteArray := prog_9_method_22_code
abbrev y_Mo_leftOf : MethodName := ⟨"RoverMinutesModel", "leftOf", "(II)I"⟩
abbrev b_Mo_drawIn : ByteArray := prog_9_method_23_code
abbrev y_Mo_drawIn : MethodName := ⟨"RoverMinutesModel", "drawIn", "(II)I"⟩
abbrev b_Mo_holds : ByteArray := prog_9_method_24_code
abbrev y_Mo_holds : MethodName := ⟨"RoverMinutesModel", "holds", "(I)Z"⟩
abbrev b_Mo_howMany : ByteArray := prog_9_method_25_code
abbrev y_Mo_howMany : MethodName := ⟨"RoverMinutesModel", "howMany", "(I)I"⟩
abbrev b_Mo_hasIn : ByteArray := prog_9_method_26_code
abbrev y_Mo_hasIn : MethodName := ⟨"RoverMinutesModel", "hasIn", "(III)Z"⟩
abbrev b_Mo_skip : ByteArray := prog_9_method_27_code
abbrev y_Mo_skip : MethodName := ⟨"RoverMinutesModel", "skip", "()V"⟩
abbrev b_Mo_mayStart : ByteArray := prog_9_method_28_code
abbrev y_Mo_mayStart : MethodName := ⟨"RoverMinutesModel", "mayStart", "(I)Z"⟩
abbrev b_Mo_startAll : ByteArray := prog_9_method_29_code
abbrev y_Mo_startAll : MethodName := ⟨"RoverMinutesModel", "startAll", "()I"⟩
abbrev b_Mo_goHome : ByteArray := prog_9_method_30_code
abbrev y_Mo_goHome : MethodName := ⟨"RoverMinutesModel", "goHome", "()V"⟩
abbrev b_Mo_enable : ByteArray := prog_9_method_31_code
abbrev y_Mo_enable : MethodName := ⟨"RoverMinutesModel", "enable", "()I"⟩
abbrev b_Mo_cancel : ByteArray := prog_9_method_32_code
abbrev y_Mo_cancel : MethodName := ⟨"RoverMinutesModel", "cancel", "()V"⟩
abbrev b_Mo_draw : ByteArray := prog_9_method_33_code
abbrev y_Mo_draw : MethodName := ⟨"RoverMinutesModel", "draw", "(I)V"⟩
abbrev b_Mo_age : ByteArray := prog_9_method_34_code
abbrev y_Mo_age : MethodName := ⟨"RoverMinutesModel", "age", "()V"⟩
abbrev b_Mo_minute : ByteArray := prog_9_method_35_code
abbrev y_Mo_minute : MethodName := ⟨"RoverMinutesModel", "minute", "()I"⟩
abbrev b_Mo_minutes : ByteArray := prog_9_method_36_code
abbrev y_Mo_minutes : MethodName := ⟨"RoverMinutesModel", "minutes", "(I)I"⟩
abbrev b_Mo_isActivity : ByteArray := prog_9_method_37_code
abbrev y_Mo_isActivity : MethodName := ⟨"RoverMinutesModel", "isActivity", "(I)Z"⟩
abbrev b_Mo_lasts : ByteArray := prog_9_method_38_code
abbrev y_Mo_lasts : MethodName := ⟨"RoverMinutesModel", "lasts", "(II)V"⟩
abbrev b_Mo_draws : ByteArray := prog_9_method_39_code
abbrev y_Mo_draws : MethodName := ⟨"RoverMinutesModel", "draws", "(II)V"⟩
abbrev b_Mo_curve : ByteArray := prog_9_method_40_code
abbrev y_Mo_curve : MethodName := ⟨"RoverMinutesModel", "curve", "(II)V"⟩
abbrev b_Mo_gain : ByteArray := prog_9_method_41_code
abbrev y_Mo_gain : MethodName := ⟨"RoverMinutesModel", "gain", "(I)V"⟩
abbrev b_Mo_home : ByteArray := prog_9_method_42_code
abbrev y_Mo_home : MethodName := ⟨"RoverMinutesModel", "home", "(II)V"⟩
abbrev b_Mo_fill : ByteArray := prog_9_method_43_code
abbrev y_Mo_fill : MethodName := ⟨"RoverMinutesModel", "fill", "(II)V"⟩
abbrev b_Mo_now : ByteArray := prog_9_method_44_code
abbrev y_Mo_now : MethodName := ⟨"RoverMinutesModel", "now", "()I"⟩
abbrev b_Mo_mode : ByteArray := prog_9_method_45_code
abbrev y_Mo_mode : MethodName := ⟨"RoverMinutesModel", "mode", "()I"⟩
abbrev b_Mo_heatNow : ByteArray := prog_9_method_46_code
abbrev y_Mo_heatNow : MethodName := ⟨"RoverMinutesModel", "heatNow", "()I"⟩
abbrev b_Mo_level : ByteArray := prog_9_method_47_code
abbrev y_Mo_level : MethodName := ⟨"RoverMinutesModel", "level", "(I)I"⟩
abbrev b_Mo_reserve : ByteArray := prog_9_method_48_code
abbrev y_Mo_reserve : MethodName := ⟨"RoverMinutesModel", "reserve", "()I"⟩
abbrev b_Mo_activities : ByteArray := prog_9_method_49_code
abbrev y_Mo_activities : MethodName := ⟨"RoverMinutesModel", "activities", "()I"⟩
abbrev b_Mo_activity : ByteArray := prog_9_method_50_code
abbrev y_Mo_activity : MethodName := ⟨"RoverMinutesModel", "activity", "(II)I"⟩
abbrev b_Mo_lowest : ByteArray := prog_9_method_51_code
abbrev y_Mo_lowest : MethodName := ⟨"RoverMinutesModel", "lowest", "()I"⟩
abbrev b_Mo_could : ByteArray := prog_9_method_52_code
abbrev y_Mo_could : MethodName := ⟨"RoverMinutesModel", "could", "(I)Z"⟩
abbrev b_La_type : ByteArray := method_3_code
abbrev y_La_type : MethodName := ⟨"RoverMinutesLaw", "type", "(LRoverMinutes;I[J)I"⟩
abbrev b_La_submit : ByteArray := method_4_code
abbrev y_La_submit : MethodName := ⟨"RoverMinutesLaw", "submit", "(LRoverMinutes;[J)I"⟩
abbrev b_La_enable : ByteArray := method_5_code
abbrev y_La_enable : MethodName := ⟨"RoverMinutesLaw", "enable", "(LRoverMinutes;[J)I"⟩
abbrev b_La_cancel : ByteArray := method_6_code
abbrev y_La_cancel : MethodName := ⟨"RoverMinutesLaw", "cancel", "(LRoverMinutes;)I"⟩
abbrev b_La_minutes : ByteArray := method_7_code
abbrev y_La_minutes : MethodName := ⟨"RoverMinutesLaw", "minutes", "(LRoverMinutes;I[J)I"⟩
abbrev b_La_lasts : ByteArray := method_8_code
abbrev y_La_lasts : MethodName := ⟨"RoverMinutesLaw", "lasts", "(LRoverMinutes;II)I"⟩
abbrev b_La_draws : ByteArray := method_9_code
abbrev y_La_draws : MethodName := ⟨"RoverMinutesLaw", "draws", "(LRoverMinutes;II)I"⟩
abbrev b_La_curve : ByteArray := method_10_code
abbrev y_La_curve : MethodName := ⟨"RoverMinutesLaw", "curve", "(LRoverMinutes;II)I"⟩
abbrev b_La_gain : ByteArray := method_11_code
abbrev y_La_gain : MethodName := ⟨"RoverMinutesLaw", "gain", "(LRoverMinutes;I)I"⟩
abbrev b_La_home : ByteArray := method_12_code
abbrev y_La_home : MethodName := ⟨"RoverMinutesLaw", "home", "(LRoverMinutes;II)I"⟩
abbrev b_La_fill : ByteArray := method_13_code
abbrev y_La_fill : MethodName := ⟨"RoverMinutesLaw", "fill", "(LRoverMinutes;II)I"⟩
abbrev b_La_level : ByteArray := method_14_code
abbrev y_La_level : MethodName := ⟨"RoverMinutesLaw", "level", "(LRoverMinutes;I[J)I"⟩
abbrev b_La_activity : ByteArray := method_15_code
abbrev y_La_activity : MethodName := ⟨"RoverMinutesLaw", "activity", "(LRoverMinutes;II[J)I"⟩
abbrev b_La_could : ByteArray := method_16_code
abbrev y_La_could : MethodName := ⟨"RoverMinutesLaw", "could", "(LRoverMinutes;I[J)I"⟩
abbrev b_La_law : ByteArray := code
abbrev y_La_law : MethodName := ⟨"RoverMinutesLaw", "law", "([I)Z"⟩
abbrev b_floorMod : ByteArray := prog_15_method_50_code
abbrev y_floorMod : MethodName := ⟨"java/lang/Math", "floorMod", "(II)I"⟩
theorem ws_in_1 {w : Cond} (h : w ∈ k2_sels lw_privs_1) : w ∈ k2_sels lw_privs := by
  unfold k2_sels lw_privs
  rw [List.map_append]
  exact List.mem_append_left _ h
theorem ws_in_2 {w : Cond} (h : w ∈ k2_sels lw_privs_2) : w ∈ k2_sels lw_privs := by
  obtain ⟨q, h1, h2⟩ := List.mem_map.mp h
  refine List.mem_map.mpr ⟨q, ?_, h2⟩
  unfold lw_privs
  exact List.mem_append_right _ (List.mem_append_left _ h1)
theorem ws_in_3 {w : Cond} (h : w ∈ k2_sels lw_privs_3) : w ∈ k2_sels lw_privs := by
  obtain ⟨q, h1, h2⟩ := List.mem_map.mp h
  refine List.mem_map.mpr ⟨q, ?_, h2⟩
  unfold lw_privs
  exact List.mem_append_right _ (List.mem_append_right _ (List.mem_append_left _ h1))
theorem ws_in_4 {w : Cond} (h : w ∈ k2_sels lw_privs_4) : w ∈ k2_sels lw_privs := by
  obtain ⟨q, h1, h2⟩ := List.mem_map.mp h
  refine List.mem_map.mpr ⟨q, ?_, h2⟩
  unfold lw_privs
  exact List.mem_append_right _ (List.mem_append_right _ (List.mem_append_right _ (h1)))
theorem ws_Supply_reckonNeeds : Cond.selects "RoverMinutes$Supply" y_Supply_reckonNeeds y_Supply_reckonNeeds ∈ am_W := List.mem_filter.mpr ⟨List.mem_append_left _ (ws_in_1 (List.mem_of_getElem? (i := 0) rfl)), rfl⟩
theorem ws_Supply_needFrom : Cond.selects "RoverMinutes$Supply" y_Supply_needFrom y_Supply_needFrom ∈ am_W := List.mem_filter.mpr ⟨List.mem_append_left _ (ws_in_1 (List.mem_of_getElem? (i := 1) rfl)), rfl⟩
theorem ws_Envelope_clear : Cond.selects "RoverMinutes$Envelope" y_Envelope_clear y_Envelope_clear ∈ am_W := List.mem_filter.mpr ⟨List.mem_append_left _ (ws_in_1 (List.mem_of_getElem? (i := 2) rfl)), rfl⟩
theorem ws_Envelope_add : Cond.selects "RoverMinutes$Envelope" y_Envelope_add y_Envelope_add ∈ am_W := List.mem_filter.mpr ⟨List.mem_append_left _ (ws_in_1 (List.mem_of_getElem? (i := 3) rfl)), rfl⟩
theorem ws_PlanReader_take : Cond.selects "RoverMinutes$PlanReader" y_PlanReader_take y_PlanReader_take ∈ am_W := List.mem_filter.mpr ⟨List.mem_append_left _ (ws_in_1 (List.mem_of_getElem? (i := 5) rfl)), rfl⟩
theorem ws_PlanReader_readTimes : Cond.selects "RoverMinutes$PlanReader" y_PlanReader_readTimes y_PlanReader_readTimes ∈ am_W := List.mem_filter.mpr ⟨List.mem_append_left _ (ws_in_1 (List.mem_of_getElem? (i := 6) rfl)), rfl⟩
theorem ws_PlanReader_takeNumber : Cond.selects "RoverMinutes$PlanReader" y_PlanReader_takeNumber y_PlanReader_takeNumber ∈ am_W := List.mem_filter.mpr ⟨List.mem_append_left _ (ws_in_1 (List.mem_of_getElem? (i := 7) rfl)), rfl⟩
theorem ws_PlanReader_takeDigit : Cond.selects "RoverMinutes$PlanReader" y_PlanReader_takeDigit y_PlanReader_takeDigit ∈ am_W := List.mem_filter.mpr ⟨List.mem_append_left _ (ws_in_1 (List.mem_of_getElem? (i := 8) rfl)), rfl⟩
theorem ws_PlanReader_readOptions : Cond.selects "RoverMinutes$PlanReader" y_PlanReader_readOptions y_PlanReader_readOptions ∈ am_W := List.mem_filter.mpr ⟨List.mem_append_left _ (ws_in_1 (List.mem_of_getElem? (i := 9) rfl)), rfl⟩
theorem ws_PlanReader_readValue : Cond.selects "RoverMinutes$PlanReader" y_PlanReader_readValue y_PlanReader_readValue ∈ am_W := List.mem_filter.mpr ⟨List.mem_append_left _ (ws_in_1 (List.mem_of_getElem? (i := 10) rfl)), rfl⟩
theorem ws_PlanReader_readLink : Cond.selects "RoverMinutes$PlanReader" y_PlanReader_readLink y_PlanReader_readLink ∈ am_W := List.mem_filter.mpr ⟨List.mem_append_left _ (ws_in_1 (List.mem_of_getElem? (i := 11) rfl)), rfl⟩
theorem ws_Plan_saysWrong : Cond.selects "RoverMinutes$Plan" y_Plan_saysWrong y_Plan_saysWrong ∈ am_W := List.mem_filter.mpr ⟨List.mem_append_left _ (ws_in_1 (List.mem_of_getElem? (i := 12) rfl)), rfl⟩
theorem ws_Plan_isInRing : Cond.selects "RoverMinutes$Plan" y_Plan_isInRing y_Plan_isInRing ∈ am_W := List.mem_filter.mpr ⟨List.mem_append_left _ (ws_in_1 (List.mem_of_getElem? (i := 13) rfl)), rfl⟩
theorem ws_Plan_reckonEarliest : Cond.selects "RoverMinutes$Plan" y_Plan_reckonEarliest y_Plan_reckonEarliest ∈ am_W := List.mem_filter.mpr ⟨List.mem_append_left _ (ws_in_1 (List.mem_of_getElem? (i := 14) rfl)), rfl⟩
theorem ws_Plan_earliestOf : Cond.selects "RoverMinutes$Plan" y_Plan_earliestOf y_Plan_earliestOf ∈ am_W := List.mem_filter.mpr ⟨List.mem_append_left _ (ws_in_1 (List.mem_of_getElem? (i := 15) rfl)), rfl⟩
theorem ws_Plan_isHopeless : Cond.selects "RoverMinutes$Plan" y_Plan_isHopeless y_Plan_isHopeless ∈ am_W := List.mem_filter.mpr ⟨List.mem_append_left _ (ws_in_2 (List.mem_of_getElem? (i := 0) rfl)), rfl⟩
theorem ws_Rm_startAndSettle : Cond.selects "RoverMinutes" y_Rm_startAndSettle y_Rm_startAndSettle ∈ am_W := List.mem_filter.mpr ⟨List.mem_append_left _ (ws_in_2 (List.mem_of_getElem? (i := 1) rfl)), rfl⟩
theorem ws_Rm_mayStart : Cond.selects "RoverMinutes" y_Rm_mayStart y_Rm_mayStart ∈ am_W := List.mem_filter.mpr ⟨List.mem_append_left _ (ws_in_2 (List.mem_of_getElem? (i := 2) rfl)), rfl⟩
theorem ws_Rm_beginReturn : Cond.selects "RoverMinutes" y_Rm_beginReturn y_Rm_beginReturn ∈ am_W := List.mem_filter.mpr ⟨List.mem_append_left _ (ws_in_2 (List.mem_of_getElem? (i := 3) rfl)), rfl⟩
theorem ws_Rm_passInPlan : Cond.selects "RoverMinutes" y_Rm_passInPlan y_Rm_passInPlan ∈ am_W := List.mem_filter.mpr ⟨List.mem_append_left _ (ws_in_2 (List.mem_of_getElem? (i := 4) rfl)), rfl⟩
theorem ws_Activity_stop : Cond.selects "RoverMinutes$Activity" y_Activity_stop y_Activity_stop ∈ am_W := List.mem_filter.mpr ⟨List.mem_append_left _ (ws_in_2 (List.mem_of_getElem? (i := 5) rfl)), rfl⟩
theorem ws_Rm_passInReturn : Cond.selects "RoverMinutes" y_Rm_passInReturn y_Rm_passInReturn ∈ am_W := List.mem_filter.mpr ⟨List.mem_append_left _ (ws_in_2 (List.mem_of_getElem? (i := 6) rfl)), rfl⟩
theorem ws_Mo_refused : Cond.selects "RoverMinutesModel" y_Mo_refused y_Mo_refused ∈ am_W := List.mem_filter.mpr ⟨List.mem_append_left _ (ws_in_2 (List.mem_of_getElem? (i := 7) rfl)), rfl⟩
theorem ws_Mo_readLine : Cond.selects "RoverMinutesModel" y_Mo_readLine y_Mo_readLine ∈ am_W := List.mem_filter.mpr ⟨List.mem_append_left _ (ws_in_2 (List.mem_of_getElem? (i := 8) rfl)), rfl⟩
theorem ws_Mo_readActivity : Cond.selects "RoverMinutesModel" y_Mo_readActivity y_Mo_readActivity ∈ am_W := List.mem_filter.mpr ⟨List.mem_append_left _ (ws_in_2 (List.mem_of_getElem? (i := 9) rfl)), rfl⟩
theorem ws_Mo_look : Cond.selects "RoverMinutesModel" y_Mo_look y_Mo_look ∈ am_W := List.mem_filter.mpr ⟨List.mem_append_left _ (ws_in_2 (List.mem_of_getElem? (i := 10) rfl)), rfl⟩
theorem ws_Mo_readInto : Cond.selects "RoverMinutesModel" y_Mo_readInto y_Mo_readInto ∈ am_W := List.mem_filter.mpr ⟨List.mem_append_left _ (ws_in_2 (List.mem_of_getElem? (i := 11) rfl)), rfl⟩
theorem ws_Mo_readNumber : Cond.selects "RoverMinutesModel" y_Mo_readNumber y_Mo_readNumber ∈ am_W := List.mem_filter.mpr ⟨List.mem_append_left _ (ws_in_2 (List.mem_of_getElem? (i := 12) rfl)), rfl⟩
theorem ws_Mo_isDigit : Cond.selects "RoverMinutesModel" y_Mo_isDigit y_Mo_isDigit ∈ am_W := List.mem_filter.mpr ⟨List.mem_append_left _ (ws_in_2 (List.mem_of_getElem? (i := 13) rfl)), rfl⟩
theorem ws_Mo_readOption : Cond.selects "RoverMinutesModel" y_Mo_readOption y_Mo_readOption ∈ am_W := List.mem_filter.mpr ⟨List.mem_append_left _ (ws_in_2 (List.mem_of_getElem? (i := 14) rfl)), rfl⟩
theorem ws_Mo_unfit : Cond.selects "RoverMinutesModel" y_Mo_unfit y_Mo_unfit ∈ am_W := List.mem_filter.mpr ⟨List.mem_append_left _ (ws_in_2 (List.mem_of_getElem? (i := 15) rfl)), rfl⟩
theorem ws_Mo_isWrong : Cond.selects "RoverMinutesModel" y_Mo_isWrong y_Mo_isWrong ∈ am_W := List.mem_filter.mpr ⟨List.mem_append_left _ (ws_in_3 (List.mem_of_getElem? (i := 0) rfl)), rfl⟩
theorem ws_Mo_findRings : Cond.selects "RoverMinutesModel" y_Mo_findRings y_Mo_findRings ∈ am_W := List.mem_filter.mpr ⟨List.mem_append_left _ (ws_in_3 (List.mem_of_getElem? (i := 1) rfl)), rfl⟩
theorem ws_Mo_findFirsts : Cond.selects "RoverMinutesModel" y_Mo_findFirsts y_Mo_findFirsts ∈ am_W := List.mem_filter.mpr ⟨List.mem_append_left _ (ws_in_3 (List.mem_of_getElem? (i := 2) rfl)), rfl⟩
theorem ws_Mo_rest : Cond.selects "RoverMinutesModel" y_Mo_rest y_Mo_rest ∈ am_W := List.mem_filter.mpr ⟨List.mem_append_left _ (ws_in_3 (List.mem_of_getElem? (i := 3) rfl)), rfl⟩
theorem ws_Mo_isOpen : Cond.selects "RoverMinutesModel" y_Mo_isOpen y_Mo_isOpen ∈ am_W := List.mem_filter.mpr ⟨List.mem_append_left _ (ws_in_3 (List.mem_of_getElem? (i := 4) rfl)), rfl⟩
theorem ws_Mo_afterMinute : Cond.selects "RoverMinutesModel" y_Mo_afterMinute y_Mo_afterMinute ∈ am_W := List.mem_filter.mpr ⟨List.mem_append_left _ (ws_in_3 (List.mem_of_getElem? (i := 5) rfl)), rfl⟩
theorem ws_Mo_skip : Cond.selects "RoverMinutesModel" y_Mo_skip y_Mo_skip ∈ am_W := List.mem_filter.mpr ⟨List.mem_append_left _ (ws_in_3 (List.mem_of_getElem? (i := 6) rfl)), rfl⟩
theorem ws_Mo_hasIn : Cond.selects "RoverMinutesModel" y_Mo_hasIn y_Mo_hasIn ∈ am_W := List.mem_filter.mpr ⟨List.mem_append_left _ (ws_in_3 (List.mem_of_getElem? (i := 7) rfl)), rfl⟩
theorem ws_Mo_startAll : Cond.selects "RoverMinutesModel" y_Mo_startAll y_Mo_startAll ∈ am_W := List.mem_filter.mpr ⟨List.mem_append_left _ (ws_in_3 (List.mem_of_getElem? (i := 8) rfl)), rfl⟩
theorem ws_Mo_mayStart : Cond.selects "RoverMinutesModel" y_Mo_mayStart y_Mo_mayStart ∈ am_W := List.mem_filter.mpr ⟨List.mem_append_left _ (ws_in_3 (List.mem_of_getElem? (i := 9) rfl)), rfl⟩
theorem ws_Mo_holds : Cond.selects "RoverMinutesModel" y_Mo_holds y_Mo_holds ∈ am_W := List.mem_filter.mpr ⟨List.mem_append_left _ (ws_in_3 (List.mem_of_getElem? (i := 10) rfl)), rfl⟩
theorem ws_Mo_isRunningOr : Cond.selects "RoverMinutesModel" y_Mo_isRunningOr y_Mo_isRunningOr ∈ am_W := List.mem_filter.mpr ⟨List.mem_append_left _ (ws_in_3 (List.mem_of_getElem? (i := 11) rfl)), rfl⟩
theorem ws_Mo_leftOf : Cond.selects "RoverMinutesModel" y_Mo_leftOf y_Mo_leftOf ∈ am_W := List.mem_filter.mpr ⟨List.mem_append_left _ (ws_in_3 (List.mem_of_getElem? (i := 12) rfl)), rfl⟩
theorem ws_Mo_drawIn : Cond.selects "RoverMinutesModel" y_Mo_drawIn y_Mo_drawIn ∈ am_W := List.mem_filter.mpr ⟨List.mem_append_left _ (ws_in_3 (List.mem_of_getElem? (i := 13) rfl)), rfl⟩
theorem ws_Mo_howMany : Cond.selects "RoverMinutesModel" y_Mo_howMany y_Mo_howMany ∈ am_W := List.mem_filter.mpr ⟨List.mem_append_left _ (ws_in_3 (List.mem_of_getElem? (i := 14) rfl)), rfl⟩
theorem ws_Mo_goHome : Cond.selects "RoverMinutesModel" y_Mo_goHome y_Mo_goHome ∈ am_W := List.mem_filter.mpr ⟨List.mem_append_left _ (ws_in_3 (List.mem_of_getElem? (i := 15) rfl)), rfl⟩
theorem ws_Mo_minute : Cond.selects "RoverMinutesModel" y_Mo_minute y_Mo_minute ∈ am_W := List.mem_filter.mpr ⟨List.mem_append_left _ (ws_in_4 (List.mem_of_getElem? (i := 0) rfl)), rfl⟩
theorem ws_Mo_draw : Cond.selects "RoverMinutesModel" y_Mo_draw y_Mo_draw ∈ am_W := List.mem_filter.mpr ⟨List.mem_append_left _ (ws_in_4 (List.mem_of_getElem? (i := 1) rfl)), rfl⟩
theorem ws_Mo_age : Cond.selects "RoverMinutesModel" y_Mo_age y_Mo_age ∈ am_W := List.mem_filter.mpr ⟨List.mem_append_left _ (ws_in_4 (List.mem_of_getElem? (i := 2) rfl)), rfl⟩
theorem ws_Mo_isActivity : Cond.selects "RoverMinutesModel" y_Mo_isActivity y_Mo_isActivity ∈ am_W := List.mem_filter.mpr ⟨List.mem_append_left _ (ws_in_4 (List.mem_of_getElem? (i := 3) rfl)), rfl⟩
theorem ws_Mo_heatNow : Cond.selects "RoverMinutesModel" y_Mo_heatNow y_Mo_heatNow ∈ am_W := List.mem_filter.mpr ⟨List.mem_append_left _ (ws_in_4 (List.mem_of_getElem? (i := 4) rfl)), rfl⟩
