/-! ===== BEGIN words of one list among another's, by their places ===== -/
theorem goodIn_r {big : List Cond} (ws : List Cond) (ps : List Nat) (hp : ws = ps.filterMap (fun i => big[i]?)) (h : ws.all goodWord = true) : GoodIn big ws := by
  intro w hw
  have h1 := List.all_eq_true.mp h w hw
  rw [hp] at hw
  obtain ⟨i, -, hi⟩ := List.mem_filterMap.mp hw
  have hm : w ∈ big := by first | exact List.mem_of_getElem? hi | exact List.getElem?_mem hi
  exact ⟨hm, good_of_word h1⟩
theorem goodIn_app {big a b : List Cond} (ha : GoodIn big a) (hb : GoodIn big b) : GoodIn big (a ++ b) := fun w h => (List.mem_append.mp h).elim (ha w) (hb w)
theorem goodIn_ca {big a b : List Cond} {c : Cond} (ha : GoodIn big (c :: a)) (hb : GoodIn big b) : GoodIn big (c :: (a ++ b)) := fun w h => (List.mem_cons.mp h).elim (fun e => ha w (List.mem_cons.mpr (Or.inl e))) (fun h => (List.mem_append.mp h).elim (fun h => ha w (List.mem_cons.mpr (Or.inr h))) (hb w))
theorem goodIn_sub {big ws : List Cond} (hm : ∀ w ∈ ws, w ∈ big) (h : ws.all goodWord = true) : GoodIn big ws := fun w hw => ⟨hm w hw, good_of_word (List.all_eq_true.mp h w hw)⟩
/-! ===== END ===== -/


/-! ===== BEGIN printed: names, fields, word lists, decode rows ===== -/
def RX0 : String := "AntFloor$Ant"
def TX0 : u_T := fun k => match k with
  | 0 => ("AntFloor$Ant", "x", "I", false)
  | 1 => ("AntFloor$Ant", "y", "I", false)
  | 2 => ("AntFloor$Ant", "direction", "I", false)
  | _ => ("AntFloor$Ant", "rule", "I", false)
def tyX0 : Nat → FieldType := fun k => match k with
  | 0 => .int
  | 1 => .int
  | 2 => .int
  | _ => .int
abbrev wsX00 : List Cond := u_ws RX0 TX0 4
theorem nmX0 : ∀ a, a < 4 → ∀ b, b < 4 → a ≠ b → (TX0 a).2.1 ≠ (TX0 b).2.1 := by decide +kernel
theorem tyX0_ok : ∀ k, k < 4 → parseFieldDescriptor (TX0 k).2.2.1 = some (tyX0 k) := by decide +kernel
abbrev cX0_init : ByteArray := prog_2_method_1_code
def yX0_init : MethodName := ⟨RX0, "<init>", "()V"⟩
abbrev cX0_put : ByteArray := prog_2_method_2_code
def yX0_put : MethodName := ⟨RX0, "put", "(IIII)V"⟩
def RX1 : String := "AntFloor$Ground"
def TX1 : u_T := fun k => match k with
  | 0 => ("AntFloor$Ground", "kind", "I", false)
  | 1 => ("AntFloor$Ground", "colours", "I", false)
  | 2 => ("AntFloor$Ground", "cells", "[I", true)
  | _ => ("AntFloor$Ground", "comings", "[I", true)
def tyX1 : Nat → FieldType := fun k => match k with
  | 0 => .int
  | 1 => .int
  | 2 => .array .int
  | _ => .array .int
abbrev wsX10 : List Cond := u_ws RX1 TX1 4
theorem nmX1 : ∀ a, a < 4 → ∀ b, b < 4 → a ≠ b → (TX1 a).2.1 ≠ (TX1 b).2.1 := by decide +kernel
theorem tyX1_ok : ∀ k, k < 4 → parseFieldDescriptor (TX1 k).2.2.1 = some (tyX1 k) := by decide +kernel
abbrev cX1_init : ByteArray := prog_3_method_1_code
def yX1_init : MethodName := ⟨RX1, "<init>", "()V"⟩
abbrev cX1_restart : ByteArray := prog_3_method_2_code
def yX1_restart : MethodName := ⟨RX1, "restart", "(II)V"⟩
abbrev cX1_directions : ByteArray := prog_3_method_3_code
def yX1_directions : MethodName := ⟨RX1, "directions", "()I"⟩
abbrev cX1_stepX : ByteArray := prog_3_method_4_code
def yX1_stepX : MethodName := ⟨RX1, "stepX", "(I)I"⟩
abbrev cX1_stepY : ByteArray := prog_3_method_5_code
def yX1_stepY : MethodName := ⟨RX1, "stepY", "(I)I"⟩
abbrev cX1_turned : ByteArray := prog_3_method_6_code
def yX1_turned : MethodName := ⟨RX1, "turned", "(II)I"⟩
def RX2 : String := "AntFloor$Mark"
def TX2 : u_T := fun k => match k with
  | 0 => ("AntFloor$Mark", "isTaken", "Z", false)
  | 1 => ("AntFloor$Mark", "isSpoilt", "Z", false)
  | 2 => ("AntFloor$Mark", "time", "I", false)
  | 3 => ("AntFloor$Mark", "trodCount", "I", false)
  | 4 => ("AntFloor$Mark", "first", "LAntFloor$Ant;", true)
  | 5 => ("AntFloor$Mark", "cells", "[I", true)
  | _ => ("AntFloor$Mark", "trod", "[I", true)
def tyX2 : Nat → FieldType := fun k => match k with
  | 0 => .boolean
  | 1 => .boolean
  | 2 => .int
  | 3 => .int
  | 4 => .object "AntFloor$Ant"
  | 5 => .array .int
  | _ => .array .int
abbrev wsX20 : List Cond := u_ws RX2 TX2 7
theorem nmX2 : ∀ a, a < 7 → ∀ b, b < 7 → a ≠ b → (TX2 a).2.1 ≠ (TX2 b).2.1 := by decide +kernel
theorem tyX2_ok : ∀ k, k < 7 → parseFieldDescriptor (TX2 k).2.2.1 = some (tyX2 k) := by decide +kernel
abbrev cX2_init : ByteArray := prog_4_method_1_code
def yX2_init : MethodName := ⟨RX2, "<init>", "()V"⟩
abbrev cX2_forget : ByteArray := prog_4_method_2_code
def yX2_forget : MethodName := ⟨RX2, "forget", "()V"⟩
abbrev cX2_spoil : ByteArray := prog_4_method_4_code
def yX2_spoil : MethodName := ⟨RX2, "spoil", "()V"⟩
abbrev cX2_tread : ByteArray := prog_4_method_5_code
def yX2_tread : MethodName := ⟨RX2, "tread", "([II)V"⟩
def RX3 : String := "AntFloor$Meetings"
def TX3 : u_T := fun k => match k with
  | 0 => ("AntFloor$Meetings", "total", "I", false)
  | 1 => ("AntFloor$Meetings", "times", "[I", true)
  | 2 => ("AntFloor$Meetings", "xs", "[I", true)
  | 3 => ("AntFloor$Meetings", "ys", "[I", true)
  | _ => ("AntFloor$Meetings", "whos", "[I", true)
def tyX3 : Nat → FieldType := fun k => match k with
  | 0 => .int
  | 1 => .array .int
  | 2 => .array .int
  | 3 => .array .int
  | _ => .array .int
abbrev wsX30 : List Cond := u_ws RX3 TX3 5
theorem nmX3 : ∀ a, a < 5 → ∀ b, b < 5 → a ≠ b → (TX3 a).2.1 ≠ (TX3 b).2.1 := by decide +kernel
theorem tyX3_ok : ∀ k, k < 5 → parseFieldDescriptor (TX3 k).2.2.1 = some (tyX3 k) := by decide +kernel
abbrev cX3_init : ByteArray := prog_5_method_1_code
def yX3_init : MethodName := ⟨RX3, "<init>", "()V"⟩
abbrev cX3_forget : ByteArray := prog_5_method_2_code
def yX3_forget : MethodName := ⟨RX3, "forget", "()V"⟩
abbrev cX3_keep : ByteArray := prog_5_method_4_code
def yX3_keep : MethodName := ⟨RX3, "keep", "(IIII)V"⟩
def RX4 : String := "AntFloor$Rules"
def TX4 : u_T := fun k => match k with
  | 0 => ("AntFloor$Rules", "turns", "[[I", true)
  | 1 => ("AntFloor$Rules", "tape", "[I", true)
  | _ => ("AntFloor$Rules", "typed", "I", false)
def tyX4 : Nat → FieldType := fun k => match k with
  | 0 => .array (.array .int)
  | 1 => .array .int
  | _ => .int
abbrev wsX40 : List Cond := u_ws RX4 TX4 3
theorem nmX4 : ∀ a, a < 3 → ∀ b, b < 3 → a ≠ b → (TX4 a).2.1 ≠ (TX4 b).2.1 := by decide +kernel
theorem tyX4_ok : ∀ k, k < 3 → parseFieldDescriptor (TX4 k).2.2.1 = some (tyX4 k) := by decide +kernel
abbrev cX4_init : ByteArray := prog_6_method_1_code
def yX4_init : MethodName := ⟨RX4, "<init>", "()V"⟩
abbrev cX4_restart : ByteArray := prog_6_method_2_code
def yX4_restart : MethodName := ⟨RX4, "restart", "(II)V"⟩
abbrev cX4_hasRoomFor : ByteArray := prog_6_method_3_code
def yX4_hasRoomFor : MethodName := ⟨RX4, "hasRoomFor", "(I)Z"⟩
abbrev cX4_takeBytes : ByteArray := prog_6_method_4_code
def yX4_takeBytes : MethodName := ⟨RX4, "takeBytes", "(JI)I"⟩
abbrev cX4_setFromTape : ByteArray := prog_6_method_5_code
def yX4_setFromTape : MethodName := ⟨RX4, "setFromTape", "(III)Z"⟩
abbrev cX4_turnOf : ByteArray := prog_6_method_6_code
def yX4_turnOf : MethodName := ⟨RX4, "turnOf", "(II)I"⟩
def RX5 : String := "AntFloor$Sheet"
def TX5 : u_T := fun k => match k with
  | 0 => ("AntFloor$Sheet", "lane", "I", false)
  | 1 => ("AntFloor$Sheet", "length", "I", false)
  | _ => ("AntFloor$Sheet", "items", "[I", true)
def tyX5 : Nat → FieldType := fun k => match k with
  | 0 => .int
  | 1 => .int
  | _ => .array .int
abbrev wsX50 : List Cond := u_ws RX5 TX5 3
theorem nmX5 : ∀ a, a < 3 → ∀ b, b < 3 → a ≠ b → (TX5 a).2.1 ≠ (TX5 b).2.1 := by decide +kernel
theorem tyX5_ok : ∀ k, k < 3 → parseFieldDescriptor (TX5 k).2.2.1 = some (tyX5 k) := by decide +kernel
abbrev cX5_init : ByteArray := prog_7_method_1_code
def yX5_init : MethodName := ⟨RX5, "<init>", "()V"⟩
def RX6 : String := "AntFloor"
def TX6 : u_T := fun k => match k with
  | 0 => ("AntFloor", "ground", "LAntFloor$Ground;", true)
  | 1 => ("AntFloor", "rules", "LAntFloor$Rules;", true)
  | 2 => ("AntFloor", "ants", "[LAntFloor$Ant;", true)
  | 3 => ("AntFloor", "begun", "[I", true)
  | 4 => ("AntFloor", "meetings", "LAntFloor$Meetings;", true)
  | 5 => ("AntFloor", "marked", "LAntFloor$Mark;", true)
  | 6 => ("AntFloor", "sheets", "[LAntFloor$Sheet;", true)
  | 7 => ("AntFloor", "antCount", "I", false)
  | _ => ("AntFloor", "now", "I", false)
def tyX6 : Nat → FieldType := fun k => match k with
  | 0 => .object "AntFloor$Ground"
  | 1 => .object "AntFloor$Rules"
  | 2 => .array (.object "AntFloor$Ant")
  | 3 => .array .int
  | 4 => .object "AntFloor$Meetings"
  | 5 => .object "AntFloor$Mark"
  | 6 => .array (.object "AntFloor$Sheet")
  | 7 => .int
  | _ => .int
abbrev wsX60 : List Cond := u_ws RX6 TX6 9
theorem nmX6 : ∀ a, a < 9 → ∀ b, b < 9 → a ≠ b → (TX6 a).2.1 ≠ (TX6 b).2.1 := by decide +kernel
theorem tyX6_ok : ∀ k, k < 9 → parseFieldDescriptor (TX6 k).2.2.1 = some (tyX6 k) := by decide +kernel
abbrev cX6_init : ByteArray := prog_1_method_1_code
def yX6_init : MethodName := ⟨RX6, "<init>", "()V"⟩
abbrev cX6_floor : ByteArray := prog_1_method_2_code
def yX6_floor : MethodName := ⟨RX6, "floor", "(II)I"⟩
abbrev cX6_type : ByteArray := prog_1_method_3_code
def yX6_type : MethodName := ⟨RX6, "type", "(JI)I"⟩
abbrev cX6_rule : ByteArray := prog_1_method_4_code
def yX6_rule : MethodName := ⟨RX6, "rule", "(I)I"⟩
abbrev cX6_ant : ByteArray := prog_1_method_5_code
def yX6_ant : MethodName := ⟨RX6, "ant", "(IIII)I"⟩
abbrev cX6_told : ByteArray := prog_1_method_9_code
def yX6_told : MethodName := ⟨RX6, "told", "(II)I"⟩
abbrev cX6_run : ByteArray := prog_1_method_10_code
def yX6_run : MethodName := ⟨RX6, "run", "(I)I"⟩
abbrev cX6_time : ByteArray := prog_1_method_11_code
def yX6_time : MethodName := ⟨RX6, "time", "()I"⟩
abbrev cX6_visits : ByteArray := prog_1_method_13_code
def yX6_visits : MethodName := ⟨RX6, "visits", "(II)I"⟩
abbrev cX6_count : ByteArray := prog_1_method_14_code
def yX6_count : MethodName := ⟨RX6, "count", "(I)I"⟩
abbrev cX6_digest : ByteArray := prog_1_method_16_code
def yX6_digest : MethodName := ⟨RX6, "digest", "()J"⟩
abbrev cX6_isWithin : ByteArray := prog_1_method_26_code
def yX6_isWithin : MethodName := ⟨RX6, "isWithin", "(III)Z"⟩
abbrev cX6_isOn : ByteArray := prog_1_method_27_code
def yX6_isOn : MethodName := ⟨RX6, "isOn", "(II)Z"⟩
abbrev cX6_isRule : ByteArray := prog_1_method_28_code
def yX6_isRule : MethodName := ⟨RX6, "isRule", "(I)Z"⟩
abbrev cX6_placeOf : ByteArray := prog_1_method_31_code
def yX6_placeOf : MethodName := ⟨RX6, "placeOf", "(II)I"⟩
abbrev cX6_howMany : ByteArray := prog_1_method_33_code
def yX6_howMany : MethodName := ⟨RX6, "howMany", "([II)I"⟩
abbrev cX6_stepAhead : ByteArray := prog_1_method_35_code
def yX6_stepAhead : MethodName := ⟨RX6, "stepAhead", "()Z"⟩
abbrev cX6_stepBack : ByteArray := prog_1_method_36_code
def yX6_stepBack : MethodName := ⟨RX6, "stepBack", "()Z"⟩
abbrev cX6_takeBackActs : ByteArray := prog_1_method_37_code
def yX6_takeBackActs : MethodName := ⟨RX6, "takeBackActs", "(I)V"⟩
abbrev cX6_redoActs : ByteArray := prog_1_method_38_code
def yX6_redoActs : MethodName := ⟨RX6, "redoActs", "(I)V"⟩
abbrev cX6_act : ByteArray := prog_1_method_39_code
def yX6_act : MethodName := ⟨RX6, "act", "(LAntFloor$Ant;)Z"⟩
abbrev cX6_actBack : ByteArray := prog_1_method_40_code
def yX6_actBack : MethodName := ⟨RX6, "actBack", "(LAntFloor$Ant;)Z"⟩
abbrev cX6_noteMeetings : ByteArray := prog_1_method_41_code
def yX6_noteMeetings : MethodName := ⟨RX6, "noteMeetings", "()V"⟩
abbrev cX6_antsWith : ByteArray := prog_1_method_42_code
def yX6_antsWith : MethodName := ⟨RX6, "antsWith", "(I)I"⟩
def RX7 : String := "AntFloorModel"
def TX7 : u_T := fun k => match k with
  | _ => ("", "", "", false)
def tyX7 : Nat → FieldType := fun k => match k with
  | _ => .int
abbrev wsX70 : List Cond := u_ws RX7 TX7 0
theorem nmX7 : ∀ a, a < 0 → ∀ b, b < 0 → a ≠ b → (TX7 a).2.1 ≠ (TX7 b).2.1 := by decide +kernel
theorem tyX7_ok : ∀ k, k < 0 → parseFieldDescriptor (TX7 k).2.2.1 = some (tyX7 k) := by decide +kernel
def RJ7 : String := "java/util/Arrays"
def TJ7 : u_T := fun k => match k with
  | _ => ("", "", "", false)
def tyJ7 : Nat → FieldType := fun k => match k with
  | _ => .int
abbrev wsJ70 : List Cond := u_ws RJ7 TJ7 0
theorem nmJ7 : ∀ a, a < 0 → ∀ b, b < 0 → a ≠ b → (TJ7 a).2.1 ≠ (TJ7 b).2.1 := by decide +kernel
theorem tyJ7_ok : ∀ k, k < 0 → parseFieldDescriptor (TJ7 k).2.2.1 = some (tyJ7 k) := by decide +kernel
abbrev cJ7_fill_53178 : ByteArray := prog_10_method_103_code
def yJ7_fill_53178 : MethodName := ⟨RJ7, "fill", "([II)V"⟩
def RL : String := "AntFloorLaw"
abbrev cL_cell : ByteArray := method_2_code
def yL_cell : MethodName := ⟨RL, "cell", "([II)I"⟩
abbrev cL_lays : ByteArray := method_3_code
def yL_lays : MethodName := ⟨RL, "lays", "(LAntFloor;[I)I"⟩
abbrev cL_law : ByteArray := code
def yL_law : MethodName := ⟨RL, "law", "([I)Z"⟩
def wsX0_init : List Cond := .code yX0_init cX0_init 1 none :: ([.methodLink RX0 1 objectInit, .instanceMethod objectInit, .code objectInit ⟨#[0xb1]⟩ 1 none])
def wsX0_put : List Cond := .code yX0_put cX0_put 5 none :: ([.fieldLink RX0 7 "AntFloor$Ant" "x" "I", .fieldLink RX0 13 "AntFloor$Ant" "y" "I", .fieldLink RX0 16 "AntFloor$Ant" "direction" "I", .fieldLink RX0 19 "AntFloor$Ant" "rule" "I"] ++ wsX00)
def wsX1_init : List Cond := .code yX1_init cX1_init 1 none :: ([.methodLink RX1 3 objectInit, .instanceMethod objectInit, .code objectInit ⟨#[0xb1]⟩ 1 none, .fieldLink RX1 9 "AntFloor$Ground" "kind" "I", .fieldLink RX1 15 "AntFloor$Ground" "colours" "I", .constant RX1 18 (57600), .arrayClass .int, .fieldLink RX1 19 "AntFloor$Ground" "cells" "[I", .fieldLink RX1 23 "AntFloor$Ground" "comings" "[I"] ++ wsX10)
def wsJ7_fill_53178 : List Cond := .code yJ7_fill_53178 cJ7_fill_53178 4 none :: ([])
def wsX1_restart : List Cond := .code yX1_restart cX1_restart 3 none :: ([.fieldLink RX1 9 "AntFloor$Ground" "kind" "I", .fieldLink RX1 15 "AntFloor$Ground" "colours" "I", .fieldLink RX1 19 "AntFloor$Ground" "cells" "[I", .fieldLink RX1 23 "AntFloor$Ground" "comings" "[I", .methodLink RX1 26 yJ7_fill_53178, .static yJ7_fill_53178, .initialized RJ7, .code yJ7_fill_53178 cJ7_fill_53178 4 none] ++ wsX10)
def wsX1_directions : List Cond := .code yX1_directions cX1_directions 1 (some .int) :: ([.fieldLink RX1 9 "AntFloor$Ground" "kind" "I"] ++ wsX10)
def wsX1_stepX : List Cond := .code yX1_stepX cX1_stepX 2 (some .int) :: ([.fieldLink RX1 9 "AntFloor$Ground" "kind" "I"] ++ wsX10)
def wsX1_stepY : List Cond := .code yX1_stepY cX1_stepY 2 (some .int) :: ([.fieldLink RX1 9 "AntFloor$Ground" "kind" "I"] ++ wsX10)
def wsX1_turned : List Cond := .code yX1_turned cX1_turned 4 (some .int) :: ([.methodLink RX1 44 yX1_directions, .instanceMethod yX1_directions, .selects RX1 yX1_directions yX1_directions, .initialized RX1, .code yX1_directions cX1_directions 1 (some .int), .fieldLink RX1 9 "AntFloor$Ground" "kind" "I"] ++ wsX10)
def wsX2_init : List Cond := .code yX2_init cX2_init 1 none :: ([.methodLink RX2 3 objectInit, .instanceMethod objectInit, .code objectInit ⟨#[0xb1]⟩ 1 none, .classLink RX2 9 RX0, .instantiable RX0 4, .initialized RX0, .fieldLink RX2 12 "AntFloor$Mark" "first" "LAntFloor$Ant;", .constant RX2 18 (57600), .arrayClass .int, .fieldLink RX2 19 "AntFloor$Mark" "cells" "[I", .fieldLink RX2 23 "AntFloor$Mark" "trod" "[I", .instanceMethod yX0_init, .code yX0_init cX0_init 1 none, .methodLink RX0 1 objectInit] ++ wsX00 ++ wsX20)
def wsX2_forget : List Cond := .code yX2_forget cX2_forget 1 none :: ([.fieldLink RX2 26 "AntFloor$Mark" "isTaken" "Z"] ++ wsX20)
def wsX2_spoil : List Cond := .code yX2_spoil cX2_spoil 1 none :: ([.fieldLink RX2 30 "AntFloor$Mark" "isSpoilt" "Z"] ++ wsX20)
def wsX2_tread : List Cond := .code yX2_tread cX2_tread 4 none :: ([.fieldLink RX2 26 "AntFloor$Mark" "isTaken" "Z", .fieldLink RX2 23 "AntFloor$Mark" "trod" "[I", .fieldLink RX2 65 "AntFloor$Mark" "trodCount" "I"] ++ wsX20)
def wsX3_init : List Cond := .code yX3_init cX3_init 1 none :: ([.methodLink RX3 3 objectInit, .instanceMethod objectInit, .code objectInit ⟨#[0xb1]⟩ 1 none, .arrayClass .int, .fieldLink RX3 9 "AntFloor$Meetings" "times" "[I", .fieldLink RX3 15 "AntFloor$Meetings" "xs" "[I", .fieldLink RX3 18 "AntFloor$Meetings" "ys" "[I", .fieldLink RX3 21 "AntFloor$Meetings" "whos" "[I"] ++ wsX30)
def wsX3_forget : List Cond := .code yX3_forget cX3_forget 1 none :: ([.fieldLink RX3 24 "AntFloor$Meetings" "total" "I"] ++ wsX30)
def wsX3_keep : List Cond := .code yX3_keep cX3_keep 5 none :: ([.fieldLink RX3 24 "AntFloor$Meetings" "total" "I", .fieldLink RX3 9 "AntFloor$Meetings" "times" "[I", .fieldLink RX3 15 "AntFloor$Meetings" "xs" "[I", .fieldLink RX3 18 "AntFloor$Meetings" "ys" "[I", .fieldLink RX3 21 "AntFloor$Meetings" "whos" "[I"] ++ wsX30)
def wsX4_init : List Cond := .code yX4_init cX4_init 1 none :: ([.methodLink RX4 3 objectInit, .instanceMethod objectInit, .code objectInit ⟨#[0xb1]⟩ 1 none, .classLink RX4 9 "[[I", .arrayClass .int, .fieldLink RX4 11 "AntFloor$Rules" "turns" "[[I", .fieldLink RX4 16 "AntFloor$Rules" "tape" "[I"] ++ wsX40)
def wsX4_turnOf : List Cond := .code yX4_turnOf cX4_turnOf 3 (some .int) :: ([])
def wsX4_restart : List Cond := .code yX4_restart cX4_restart 5 none :: ([.fieldLink RX4 11 "AntFloor$Rules" "turns" "[[I", .methodLink RX4 20 yX4_turnOf, .static yX4_turnOf, .initialized RX4, .code yX4_turnOf cX4_turnOf 3 (some .int)] ++ wsX40)
def wsX4_hasRoomFor : List Cond := .code yX4_hasRoomFor cX4_hasRoomFor 2 (some .boolean) :: ([.fieldLink RX4 24 "AntFloor$Rules" "typed" "I"] ++ wsX40)
def wsX4_takeBytes : List Cond := .code yX4_takeBytes cX4_takeBytes 5 (some .int) :: ([.fieldLink RX4 16 "AntFloor$Rules" "tape" "[I", .fieldLink RX4 24 "AntFloor$Rules" "typed" "I"] ++ wsX40)
def wsX4_setFromTape : List Cond := .code yX4_setFromTape cX4_setFromTape 6 (some .boolean) :: ([.fieldLink RX4 24 "AntFloor$Rules" "typed" "I", .fieldLink RX4 16 "AntFloor$Rules" "tape" "[I", .fieldLink RX4 11 "AntFloor$Rules" "turns" "[[I", .methodLink RX4 20 yX4_turnOf, .static yX4_turnOf, .initialized RX4, .code yX4_turnOf cX4_turnOf 3 (some .int)] ++ wsX40)
def wsX5_init : List Cond := .code yX5_init cX5_init 1 none :: ([.methodLink RX5 3 objectInit, .instanceMethod objectInit, .code objectInit ⟨#[0xb1]⟩ 1 none, .fieldLink RX5 9 "AntFloor$Sheet" "lane" "I", .arrayClass .int, .fieldLink RX5 15 "AntFloor$Sheet" "items" "[I"] ++ wsX50)
def wsX6_init_r1 : List Cond := [Cond.methodLink RX6 3 objectInit, Cond.instanceMethod objectInit, Cond.code objectInit ⟨#[0xb1]⟩ 1 none, Cond.classLink RX6 9 RX1, Cond.instantiable RX1 4, Cond.initialized RX1, Cond.fieldLink RX6 12 "AntFloor" "ground" "LAntFloor$Ground;", Cond.classLink RX6 16 RX4, Cond.instantiable RX4 3, Cond.initialized RX4, Cond.fieldLink RX6 19 "AntFloor" "rules" "LAntFloor$Rules;", Cond.classLink RX6 23 RX0, Cond.fieldLink RX6 25 "AntFloor" "ants" "[LAntFloor$Ant;", Cond.instantiable RX0 4, Cond.initialized RX0, Cond.arrayClass .int, Cond.fieldLink RX6 30 "AntFloor" "begun" "[I", Cond.classLink RX6 34 RX3, Cond.instantiable RX3 5, Cond.initialized RX3, Cond.fieldLink RX6 37 "AntFloor" "meetings" "LAntFloor$Meetings;", Cond.classLink RX6 41 RX2, Cond.instantiable RX2 7, Cond.initialized RX2]
def wsX6_init_r2 : List Cond := [Cond.fieldLink RX6 44 "AntFloor" "marked" "LAntFloor$Mark;", Cond.classLink RX6 48 RX5, Cond.fieldLink RX6 50 "AntFloor" "sheets" "[LAntFloor$Sheet;", Cond.instantiable RX5 3, Cond.initialized RX5, Cond.instanceMethod yX1_init, Cond.code yX1_init cX1_init 1 none, Cond.methodLink RX1 3 objectInit, Cond.fieldLink RX1 9 "AntFloor$Ground" "kind" "I", Cond.fieldLink RX1 15 "AntFloor$Ground" "colours" "I", Cond.constant RX1 18 (57600), Cond.fieldLink RX1 19 "AntFloor$Ground" "cells" "[I", Cond.fieldLink RX1 23 "AntFloor$Ground" "comings" "[I", Cond.instanceMethod yX4_init, Cond.code yX4_init cX4_init 1 none, Cond.methodLink RX4 3 objectInit, Cond.classLink RX4 9 "[[I", Cond.fieldLink RX4 11 "AntFloor$Rules" "turns" "[[I", Cond.fieldLink RX4 16 "AntFloor$Rules" "tape" "[I", Cond.instanceMethod yX0_init, Cond.code yX0_init cX0_init 1 none, Cond.methodLink RX0 1 objectInit, Cond.instanceMethod yX3_init, Cond.code yX3_init cX3_init 1 none]
def wsX6_init_r3 : List Cond := [Cond.methodLink RX3 3 objectInit, Cond.fieldLink RX3 9 "AntFloor$Meetings" "times" "[I", Cond.fieldLink RX3 15 "AntFloor$Meetings" "xs" "[I", Cond.fieldLink RX3 18 "AntFloor$Meetings" "ys" "[I", Cond.fieldLink RX3 21 "AntFloor$Meetings" "whos" "[I", Cond.instanceMethod yX2_init, Cond.code yX2_init cX2_init 1 none, Cond.methodLink RX2 3 objectInit, Cond.classLink RX2 9 RX0, Cond.fieldLink RX2 12 "AntFloor$Mark" "first" "LAntFloor$Ant;", Cond.constant RX2 18 (57600), Cond.fieldLink RX2 19 "AntFloor$Mark" "cells" "[I", Cond.fieldLink RX2 23 "AntFloor$Mark" "trod" "[I", Cond.instanceMethod yX5_init, Cond.code yX5_init cX5_init 1 none, Cond.methodLink RX5 3 objectInit, Cond.fieldLink RX5 9 "AntFloor$Sheet" "lane" "I", Cond.fieldLink RX5 15 "AntFloor$Sheet" "items" "[I", Cond.methodLink RX6 55 yX1_directions, Cond.instanceMethod yX1_directions, Cond.selects RX1 yX1_directions yX1_directions, Cond.code yX1_directions cX1_directions 1 (some .int), Cond.methodLink RX6 59 yX4_restart, Cond.instanceMethod yX4_restart]
def wsX6_init_r4 : List Cond := [Cond.selects RX4 yX4_restart yX4_restart, Cond.code yX4_restart cX4_restart 5 none, Cond.methodLink RX4 20 yX4_turnOf, Cond.static yX4_turnOf, Cond.code yX4_turnOf cX4_turnOf 3 (some .int)]
def wsX6_init : List Cond := .code yX6_init cX6_init 2 none :: ((wsX6_init_r1 ++ (wsX6_init_r2 ++ (wsX6_init_r3 ++ wsX6_init_r4))) ++ wsX10 ++ wsX60 ++ wsX40 ++ wsX00 ++ wsX30 ++ wsX20 ++ wsX50)
def wsX6_isWithin : List Cond := .code yX6_isWithin cX6_isWithin 3 (some .boolean) :: ([])
def wsX6_floor_r1 : List Cond := [Cond.fieldLink RX6 67 "AntFloor" "antCount" "I", Cond.fieldLink RX6 12 "AntFloor" "ground" "LAntFloor$Ground;", Cond.fieldLink RX6 19 "AntFloor" "rules" "LAntFloor$Rules;", Cond.fieldLink RX6 37 "AntFloor" "meetings" "LAntFloor$Meetings;", Cond.fieldLink RX6 44 "AntFloor" "marked" "LAntFloor$Mark;", Cond.fieldLink RX6 76 "AntFloor" "now" "I", Cond.methodLink RX6 63 yX6_isWithin, Cond.static yX6_isWithin, Cond.initialized RX6, Cond.code yX6_isWithin cX6_isWithin 3 (some .boolean), Cond.methodLink RX6 71 yX1_restart, Cond.instanceMethod yX1_restart, Cond.selects RX1 yX1_restart yX1_restart, Cond.initialized RX1, Cond.code yX1_restart cX1_restart 3 none, Cond.fieldLink RX1 9 "AntFloor$Ground" "kind" "I", Cond.fieldLink RX1 15 "AntFloor$Ground" "colours" "I", Cond.fieldLink RX1 19 "AntFloor$Ground" "cells" "[I", Cond.fieldLink RX1 23 "AntFloor$Ground" "comings" "[I", Cond.methodLink RX1 26 yJ7_fill_53178, Cond.static yJ7_fill_53178, Cond.initialized RJ7, Cond.code yJ7_fill_53178 cJ7_fill_53178 4 none, Cond.methodLink RX6 55 yX1_directions]
def wsX6_floor_r2 : List Cond := [Cond.instanceMethod yX1_directions, Cond.selects RX1 yX1_directions yX1_directions, Cond.code yX1_directions cX1_directions 1 (some .int), Cond.methodLink RX6 59 yX4_restart, Cond.instanceMethod yX4_restart, Cond.selects RX4 yX4_restart yX4_restart, Cond.initialized RX4, Cond.code yX4_restart cX4_restart 5 none, Cond.fieldLink RX4 11 "AntFloor$Rules" "turns" "[[I", Cond.methodLink RX4 20 yX4_turnOf, Cond.static yX4_turnOf, Cond.code yX4_turnOf cX4_turnOf 3 (some .int), Cond.methodLink RX6 72 yX3_forget, Cond.instanceMethod yX3_forget, Cond.selects RX3 yX3_forget yX3_forget, Cond.initialized RX3, Cond.code yX3_forget cX3_forget 1 none, Cond.fieldLink RX3 24 "AntFloor$Meetings" "total" "I", Cond.methodLink RX6 75 yX2_forget, Cond.instanceMethod yX2_forget, Cond.selects RX2 yX2_forget yX2_forget, Cond.initialized RX2, Cond.code yX2_forget cX2_forget 1 none, Cond.fieldLink RX2 26 "AntFloor$Mark" "isTaken" "Z"]
def wsX6_floor : List Cond := .code yX6_floor cX6_floor 4 (some .int) :: ((wsX6_floor_r1 ++ wsX6_floor_r2) ++ wsX60 ++ wsX10 ++ wsX40 ++ wsX30 ++ wsX20)
def wsX6_type : List Cond := .code yX6_type cX6_type 4 (some .int) :: ([.fieldLink RX6 19 "AntFloor" "rules" "LAntFloor$Rules;", .methodLink RX6 63 yX6_isWithin, .static yX6_isWithin, .initialized RX6, .code yX6_isWithin cX6_isWithin 3 (some .boolean), .methodLink RX6 79 yX4_hasRoomFor, .instanceMethod yX4_hasRoomFor, .selects RX4 yX4_hasRoomFor yX4_hasRoomFor, .initialized RX4, .code yX4_hasRoomFor cX4_hasRoomFor 2 (some .boolean), .fieldLink RX4 24 "AntFloor$Rules" "typed" "I", .methodLink RX6 83 yX4_takeBytes, .instanceMethod yX4_takeBytes, .selects RX4 yX4_takeBytes yX4_takeBytes, .code yX4_takeBytes cX4_takeBytes 5 (some .int), .fieldLink RX4 16 "AntFloor$Rules" "tape" "[I"] ++ wsX60 ++ wsX40)
def wsX6_isRule : List Cond := .code yX6_isRule cX6_isRule 1 (some .boolean) :: ([.methodLink RX6 63 yX6_isWithin, .static yX6_isWithin, .initialized RX6, .code yX6_isWithin cX6_isWithin 3 (some .boolean)])
def wsX6_rule_r1 : List Cond := [Cond.fieldLink RX6 19 "AntFloor" "rules" "LAntFloor$Rules;", Cond.fieldLink RX6 12 "AntFloor" "ground" "LAntFloor$Ground;", Cond.fieldLink RX6 90 "AntFloor$Ground" "colours" "I", Cond.fieldLink RX6 44 "AntFloor" "marked" "LAntFloor$Mark;", Cond.methodLink RX6 87 yX6_isRule, Cond.static yX6_isRule, Cond.initialized RX6, Cond.code yX6_isRule cX6_isRule 1 (some .boolean), Cond.methodLink RX6 63 yX6_isWithin, Cond.static yX6_isWithin, Cond.code yX6_isWithin cX6_isWithin 3 (some .boolean), Cond.methodLink RX6 55 yX1_directions, Cond.instanceMethod yX1_directions, Cond.selects RX1 yX1_directions yX1_directions, Cond.initialized RX1, Cond.code yX1_directions cX1_directions 1 (some .int), Cond.fieldLink RX1 9 "AntFloor$Ground" "kind" "I", Cond.methodLink RX6 93 yX4_setFromTape, Cond.instanceMethod yX4_setFromTape, Cond.selects RX4 yX4_setFromTape yX4_setFromTape, Cond.initialized RX4, Cond.code yX4_setFromTape cX4_setFromTape 6 (some .boolean), Cond.fieldLink RX4 24 "AntFloor$Rules" "typed" "I", Cond.fieldLink RX4 16 "AntFloor$Rules" "tape" "[I"]
def wsX6_rule_r2 : List Cond := [Cond.fieldLink RX4 11 "AntFloor$Rules" "turns" "[[I", Cond.methodLink RX4 20 yX4_turnOf, Cond.static yX4_turnOf, Cond.code yX4_turnOf cX4_turnOf 3 (some .int), Cond.methodLink RX6 96 yX2_spoil, Cond.instanceMethod yX2_spoil, Cond.selects RX2 yX2_spoil yX2_spoil, Cond.initialized RX2, Cond.code yX2_spoil cX2_spoil 1 none, Cond.fieldLink RX2 30 "AntFloor$Mark" "isSpoilt" "Z"]
def wsX6_rule : List Cond := .code yX6_rule cX6_rule 2 (some .int) :: ((wsX6_rule_r1 ++ wsX6_rule_r2) ++ wsX60 ++ wsX10 ++ wsX40 ++ wsX20)
def wsX6_isOn : List Cond := .code yX6_isOn cX6_isOn 2 (some .boolean) :: ([])
def wsX6_ant_r1 : List Cond := [Cond.fieldLink RX6 12 "AntFloor" "ground" "LAntFloor$Ground;", Cond.fieldLink RX6 67 "AntFloor" "antCount" "I", Cond.fieldLink RX6 25 "AntFloor" "ants" "[LAntFloor$Ant;", Cond.fieldLink RX6 44 "AntFloor" "marked" "LAntFloor$Mark;", Cond.methodLink RX6 99 yX6_isOn, Cond.static yX6_isOn, Cond.initialized RX6, Cond.code yX6_isOn cX6_isOn 2 (some .boolean), Cond.methodLink RX6 55 yX1_directions, Cond.instanceMethod yX1_directions, Cond.selects RX1 yX1_directions yX1_directions, Cond.initialized RX1, Cond.code yX1_directions cX1_directions 1 (some .int), Cond.fieldLink RX1 9 "AntFloor$Ground" "kind" "I", Cond.methodLink RX6 63 yX6_isWithin, Cond.static yX6_isWithin, Cond.code yX6_isWithin cX6_isWithin 3 (some .boolean), Cond.methodLink RX6 87 yX6_isRule, Cond.static yX6_isRule, Cond.code yX6_isRule cX6_isRule 1 (some .boolean), Cond.methodLink RX6 103 yX0_put, Cond.instanceMethod yX0_put, Cond.selects RX0 yX0_put yX0_put, Cond.initialized RX0]
def wsX6_ant_r2 : List Cond := [Cond.code yX0_put cX0_put 5 none, Cond.fieldLink RX0 7 "AntFloor$Ant" "x" "I", Cond.fieldLink RX0 13 "AntFloor$Ant" "y" "I", Cond.fieldLink RX0 16 "AntFloor$Ant" "direction" "I", Cond.fieldLink RX0 19 "AntFloor$Ant" "rule" "I", Cond.methodLink RX6 96 yX2_spoil, Cond.instanceMethod yX2_spoil, Cond.selects RX2 yX2_spoil yX2_spoil, Cond.initialized RX2, Cond.code yX2_spoil cX2_spoil 1 none, Cond.fieldLink RX2 30 "AntFloor$Mark" "isSpoilt" "Z"]
def wsX6_ant : List Cond := .code yX6_ant cX6_ant 5 (some .int) :: ((wsX6_ant_r1 ++ wsX6_ant_r2) ++ wsX60 ++ wsX10 ++ wsX00 ++ wsX20)
def wsX6_told : List Cond := .code yX6_told cX6_told 3 (some .int) :: ([.fieldLink RX6 67 "AntFloor" "antCount" "I", .fieldLink RX6 25 "AntFloor" "ants" "[LAntFloor$Ant;", .fieldLink RX6 114 "AntFloor$Ant" "x" "I", .fieldLink RX6 117 "AntFloor$Ant" "y" "I", .fieldLink RX6 120 "AntFloor$Ant" "direction" "I", .fieldLink RX6 123 "AntFloor$Ant" "rule" "I", .methodLink RX6 63 yX6_isWithin, .static yX6_isWithin, .initialized RX6, .code yX6_isWithin cX6_isWithin 3 (some .boolean)] ++ wsX60 ++ wsX00)
def wsX6_placeOf : List Cond := .code yX6_placeOf cX6_placeOf 2 (some .int) :: ([.methodLink RX6 99 yX6_isOn, .static yX6_isOn, .initialized RX6, .code yX6_isOn cX6_isOn 2 (some .boolean)])
def wsX6_act_r1 : List Cond := [Cond.fieldLink RX6 114 "AntFloor$Ant" "x" "I", Cond.fieldLink RX6 117 "AntFloor$Ant" "y" "I", Cond.fieldLink RX6 12 "AntFloor" "ground" "LAntFloor$Ground;", Cond.fieldLink RX6 111 "AntFloor$Ground" "cells" "[I", Cond.fieldLink RX6 120 "AntFloor$Ant" "direction" "I", Cond.fieldLink RX6 19 "AntFloor" "rules" "LAntFloor$Rules;", Cond.fieldLink RX6 269 "AntFloor$Rules" "turns" "[[I", Cond.fieldLink RX6 123 "AntFloor$Ant" "rule" "I", Cond.fieldLink RX6 90 "AntFloor$Ground" "colours" "I", Cond.fieldLink RX6 150 "AntFloor$Ground" "comings" "[I", Cond.methodLink RX6 107 yX6_placeOf, Cond.static yX6_placeOf, Cond.initialized RX6, Cond.code yX6_placeOf cX6_placeOf 2 (some .int), Cond.methodLink RX6 99 yX6_isOn, Cond.static yX6_isOn, Cond.code yX6_isOn cX6_isOn 2 (some .boolean), Cond.methodLink RX6 273 yX1_turned, Cond.instanceMethod yX1_turned, Cond.selects RX1 yX1_turned yX1_turned, Cond.initialized RX1, Cond.code yX1_turned cX1_turned 4 (some .int), Cond.methodLink RX1 44 yX1_directions, Cond.instanceMethod yX1_directions]
def wsX6_act_r2 : List Cond := [Cond.selects RX1 yX1_directions yX1_directions, Cond.code yX1_directions cX1_directions 1 (some .int), Cond.fieldLink RX1 9 "AntFloor$Ground" "kind" "I", Cond.methodLink RX6 276 yX1_stepX, Cond.instanceMethod yX1_stepX, Cond.selects RX1 yX1_stepX yX1_stepX, Cond.code yX1_stepX cX1_stepX 2 (some .int), Cond.methodLink RX6 279 yX1_stepY, Cond.instanceMethod yX1_stepY, Cond.selects RX1 yX1_stepY yX1_stepY, Cond.code yX1_stepY cX1_stepY 2 (some .int), Cond.methodLink RX6 103 yX0_put, Cond.instanceMethod yX0_put, Cond.selects RX0 yX0_put yX0_put, Cond.initialized RX0, Cond.code yX0_put cX0_put 5 none, Cond.fieldLink RX0 7 "AntFloor$Ant" "x" "I", Cond.fieldLink RX0 13 "AntFloor$Ant" "y" "I", Cond.fieldLink RX0 16 "AntFloor$Ant" "direction" "I", Cond.fieldLink RX0 19 "AntFloor$Ant" "rule" "I"]
def wsX6_act : List Cond := .code yX6_act cX6_act 7 (some .boolean) :: ((wsX6_act_r1 ++ wsX6_act_r2) ++ wsX00 ++ wsX60 ++ wsX10 ++ wsX40)
def wsX6_actBack_r1 : List Cond := [Cond.fieldLink RX6 114 "AntFloor$Ant" "x" "I", Cond.fieldLink RX6 12 "AntFloor" "ground" "LAntFloor$Ground;", Cond.fieldLink RX6 120 "AntFloor$Ant" "direction" "I", Cond.fieldLink RX6 117 "AntFloor$Ant" "y" "I", Cond.fieldLink RX6 111 "AntFloor$Ground" "cells" "[I", Cond.fieldLink RX6 90 "AntFloor$Ground" "colours" "I", Cond.fieldLink RX6 19 "AntFloor" "rules" "LAntFloor$Rules;", Cond.fieldLink RX6 269 "AntFloor$Rules" "turns" "[[I", Cond.fieldLink RX6 123 "AntFloor$Ant" "rule" "I", Cond.fieldLink RX6 150 "AntFloor$Ground" "comings" "[I", Cond.methodLink RX6 276 yX1_stepX, Cond.instanceMethod yX1_stepX, Cond.selects RX1 yX1_stepX yX1_stepX, Cond.initialized RX1, Cond.code yX1_stepX cX1_stepX 2 (some .int), Cond.fieldLink RX1 9 "AntFloor$Ground" "kind" "I", Cond.methodLink RX6 279 yX1_stepY, Cond.instanceMethod yX1_stepY, Cond.selects RX1 yX1_stepY yX1_stepY, Cond.code yX1_stepY cX1_stepY 2 (some .int), Cond.methodLink RX6 107 yX6_placeOf, Cond.static yX6_placeOf, Cond.initialized RX6, Cond.code yX6_placeOf cX6_placeOf 2 (some .int)]
def wsX6_actBack_r2 : List Cond := [Cond.methodLink RX6 99 yX6_isOn, Cond.static yX6_isOn, Cond.code yX6_isOn cX6_isOn 2 (some .boolean), Cond.methodLink RX6 273 yX1_turned, Cond.instanceMethod yX1_turned, Cond.selects RX1 yX1_turned yX1_turned, Cond.code yX1_turned cX1_turned 4 (some .int), Cond.methodLink RX1 44 yX1_directions, Cond.instanceMethod yX1_directions, Cond.selects RX1 yX1_directions yX1_directions, Cond.code yX1_directions cX1_directions 1 (some .int), Cond.methodLink RX6 103 yX0_put, Cond.instanceMethod yX0_put, Cond.selects RX0 yX0_put yX0_put, Cond.initialized RX0, Cond.code yX0_put cX0_put 5 none, Cond.fieldLink RX0 7 "AntFloor$Ant" "x" "I", Cond.fieldLink RX0 13 "AntFloor$Ant" "y" "I", Cond.fieldLink RX0 16 "AntFloor$Ant" "direction" "I", Cond.fieldLink RX0 19 "AntFloor$Ant" "rule" "I"]
def wsX6_actBack : List Cond := .code yX6_actBack cX6_actBack 7 (some .boolean) :: ((wsX6_actBack_r1 ++ wsX6_actBack_r2) ++ wsX00 ++ wsX60 ++ wsX10 ++ wsX40)
def wsX6_takeBackActs_r1 : List Cond := [Cond.fieldLink RX6 25 "AntFloor" "ants" "[LAntFloor$Ant;", Cond.methodLink RX6 263 yX6_actBack, Cond.instanceMethod yX6_actBack, Cond.selects RX6 yX6_actBack yX6_actBack, Cond.initialized RX6, Cond.code yX6_actBack cX6_actBack 7 (some .boolean), Cond.fieldLink RX6 114 "AntFloor$Ant" "x" "I", Cond.fieldLink RX6 12 "AntFloor" "ground" "LAntFloor$Ground;", Cond.fieldLink RX6 120 "AntFloor$Ant" "direction" "I", Cond.fieldLink RX6 117 "AntFloor$Ant" "y" "I", Cond.fieldLink RX6 111 "AntFloor$Ground" "cells" "[I", Cond.fieldLink RX6 90 "AntFloor$Ground" "colours" "I", Cond.fieldLink RX6 19 "AntFloor" "rules" "LAntFloor$Rules;", Cond.fieldLink RX6 269 "AntFloor$Rules" "turns" "[[I", Cond.fieldLink RX6 123 "AntFloor$Ant" "rule" "I", Cond.fieldLink RX6 150 "AntFloor$Ground" "comings" "[I", Cond.methodLink RX6 276 yX1_stepX, Cond.instanceMethod yX1_stepX, Cond.selects RX1 yX1_stepX yX1_stepX, Cond.initialized RX1, Cond.code yX1_stepX cX1_stepX 2 (some .int), Cond.fieldLink RX1 9 "AntFloor$Ground" "kind" "I", Cond.methodLink RX6 279 yX1_stepY, Cond.instanceMethod yX1_stepY]
def wsX6_takeBackActs_r2 : List Cond := [Cond.selects RX1 yX1_stepY yX1_stepY, Cond.code yX1_stepY cX1_stepY 2 (some .int), Cond.methodLink RX6 107 yX6_placeOf, Cond.static yX6_placeOf, Cond.code yX6_placeOf cX6_placeOf 2 (some .int), Cond.methodLink RX6 99 yX6_isOn, Cond.static yX6_isOn, Cond.code yX6_isOn cX6_isOn 2 (some .boolean), Cond.methodLink RX6 273 yX1_turned, Cond.instanceMethod yX1_turned, Cond.selects RX1 yX1_turned yX1_turned, Cond.code yX1_turned cX1_turned 4 (some .int), Cond.methodLink RX1 44 yX1_directions, Cond.instanceMethod yX1_directions, Cond.selects RX1 yX1_directions yX1_directions, Cond.code yX1_directions cX1_directions 1 (some .int), Cond.methodLink RX6 103 yX0_put, Cond.instanceMethod yX0_put, Cond.selects RX0 yX0_put yX0_put, Cond.initialized RX0, Cond.code yX0_put cX0_put 5 none, Cond.fieldLink RX0 7 "AntFloor$Ant" "x" "I", Cond.fieldLink RX0 13 "AntFloor$Ant" "y" "I", Cond.fieldLink RX0 16 "AntFloor$Ant" "direction" "I"]
def wsX6_takeBackActs_r3 : List Cond := [Cond.fieldLink RX0 19 "AntFloor$Ant" "rule" "I"]
def wsX6_takeBackActs : List Cond := .code yX6_takeBackActs cX6_takeBackActs 3 none :: ((wsX6_takeBackActs_r1 ++ (wsX6_takeBackActs_r2 ++ wsX6_takeBackActs_r3)) ++ wsX60 ++ wsX00 ++ wsX10 ++ wsX40)
def wsX6_antsWith : List Cond := .code yX6_antsWith cX6_antsWith 4 (some .int) :: ([.fieldLink RX6 67 "AntFloor" "antCount" "I", .fieldLink RX6 25 "AntFloor" "ants" "[LAntFloor$Ant;", .fieldLink RX6 114 "AntFloor$Ant" "x" "I", .fieldLink RX6 117 "AntFloor$Ant" "y" "I"] ++ wsX60 ++ wsX00)
def wsX6_noteMeetings : List Cond := .code yX6_noteMeetings cX6_noteMeetings 4 none :: ([.fieldLink RX6 67 "AntFloor" "antCount" "I", .fieldLink RX6 37 "AntFloor" "meetings" "LAntFloor$Meetings;", .fieldLink RX6 76 "AntFloor" "now" "I", .fieldLink RX6 25 "AntFloor" "ants" "[LAntFloor$Ant;", .fieldLink RX6 114 "AntFloor$Ant" "x" "I", .fieldLink RX6 117 "AntFloor$Ant" "y" "I", .methodLink RX6 282 yX6_antsWith, .instanceMethod yX6_antsWith, .selects RX6 yX6_antsWith yX6_antsWith, .initialized RX6, .code yX6_antsWith cX6_antsWith 4 (some .int), .methodLink RX6 285 yX3_keep, .instanceMethod yX3_keep, .selects RX3 yX3_keep yX3_keep, .initialized RX3, .code yX3_keep cX3_keep 5 none, .fieldLink RX3 24 "AntFloor$Meetings" "total" "I", .fieldLink RX3 9 "AntFloor$Meetings" "times" "[I", .fieldLink RX3 15 "AntFloor$Meetings" "xs" "[I", .fieldLink RX3 18 "AntFloor$Meetings" "ys" "[I", .fieldLink RX3 21 "AntFloor$Meetings" "whos" "[I"] ++ wsX60 ++ wsX00 ++ wsX30)
def wsX6_stepAhead_r1 : List Cond := [Cond.fieldLink RX6 67 "AntFloor" "antCount" "I", Cond.fieldLink RX6 30 "AntFloor" "begun" "[I", Cond.fieldLink RX6 25 "AntFloor" "ants" "[LAntFloor$Ant;", Cond.fieldLink RX6 114 "AntFloor$Ant" "x" "I", Cond.fieldLink RX6 117 "AntFloor$Ant" "y" "I", Cond.fieldLink RX6 76 "AntFloor" "now" "I", Cond.fieldLink RX6 44 "AntFloor" "marked" "LAntFloor$Mark;", Cond.methodLink RX6 107 yX6_placeOf, Cond.static yX6_placeOf, Cond.initialized RX6, Cond.code yX6_placeOf cX6_placeOf 2 (some .int), Cond.methodLink RX6 99 yX6_isOn, Cond.static yX6_isOn, Cond.code yX6_isOn cX6_isOn 2 (some .boolean), Cond.methodLink RX6 248 yX6_act, Cond.instanceMethod yX6_act, Cond.selects RX6 yX6_act yX6_act, Cond.code yX6_act cX6_act 7 (some .boolean), Cond.fieldLink RX6 12 "AntFloor" "ground" "LAntFloor$Ground;", Cond.fieldLink RX6 111 "AntFloor$Ground" "cells" "[I", Cond.fieldLink RX6 120 "AntFloor$Ant" "direction" "I", Cond.fieldLink RX6 19 "AntFloor" "rules" "LAntFloor$Rules;", Cond.fieldLink RX6 269 "AntFloor$Rules" "turns" "[[I", Cond.fieldLink RX6 123 "AntFloor$Ant" "rule" "I"]
def wsX6_stepAhead_r2 : List Cond := [Cond.fieldLink RX6 90 "AntFloor$Ground" "colours" "I", Cond.fieldLink RX6 150 "AntFloor$Ground" "comings" "[I", Cond.methodLink RX6 273 yX1_turned, Cond.instanceMethod yX1_turned, Cond.selects RX1 yX1_turned yX1_turned, Cond.initialized RX1, Cond.code yX1_turned cX1_turned 4 (some .int), Cond.methodLink RX1 44 yX1_directions, Cond.instanceMethod yX1_directions, Cond.selects RX1 yX1_directions yX1_directions, Cond.code yX1_directions cX1_directions 1 (some .int), Cond.fieldLink RX1 9 "AntFloor$Ground" "kind" "I", Cond.methodLink RX6 276 yX1_stepX, Cond.instanceMethod yX1_stepX, Cond.selects RX1 yX1_stepX yX1_stepX, Cond.code yX1_stepX cX1_stepX 2 (some .int), Cond.methodLink RX6 279 yX1_stepY, Cond.instanceMethod yX1_stepY, Cond.selects RX1 yX1_stepY yX1_stepY, Cond.code yX1_stepY cX1_stepY 2 (some .int), Cond.methodLink RX6 103 yX0_put, Cond.instanceMethod yX0_put, Cond.selects RX0 yX0_put yX0_put, Cond.initialized RX0]
def wsX6_stepAhead_r3 : List Cond := [Cond.code yX0_put cX0_put 5 none, Cond.fieldLink RX0 7 "AntFloor$Ant" "x" "I", Cond.fieldLink RX0 13 "AntFloor$Ant" "y" "I", Cond.fieldLink RX0 16 "AntFloor$Ant" "direction" "I", Cond.fieldLink RX0 19 "AntFloor$Ant" "rule" "I", Cond.methodLink RX6 252 yX6_takeBackActs, Cond.instanceMethod yX6_takeBackActs, Cond.selects RX6 yX6_takeBackActs yX6_takeBackActs, Cond.code yX6_takeBackActs cX6_takeBackActs 3 none, Cond.methodLink RX6 263 yX6_actBack, Cond.instanceMethod yX6_actBack, Cond.selects RX6 yX6_actBack yX6_actBack, Cond.code yX6_actBack cX6_actBack 7 (some .boolean), Cond.methodLink RX6 256 yX2_tread, Cond.instanceMethod yX2_tread, Cond.selects RX2 yX2_tread yX2_tread, Cond.initialized RX2, Cond.code yX2_tread cX2_tread 4 none, Cond.fieldLink RX2 26 "AntFloor$Mark" "isTaken" "Z", Cond.fieldLink RX2 23 "AntFloor$Mark" "trod" "[I", Cond.fieldLink RX2 65 "AntFloor$Mark" "trodCount" "I", Cond.methodLink RX6 260 yX6_noteMeetings, Cond.instanceMethod yX6_noteMeetings, Cond.selects RX6 yX6_noteMeetings yX6_noteMeetings]
def wsX6_stepAhead_r4 : List Cond := [Cond.code yX6_noteMeetings cX6_noteMeetings 4 none, Cond.fieldLink RX6 37 "AntFloor" "meetings" "LAntFloor$Meetings;", Cond.methodLink RX6 282 yX6_antsWith, Cond.instanceMethod yX6_antsWith, Cond.selects RX6 yX6_antsWith yX6_antsWith, Cond.code yX6_antsWith cX6_antsWith 4 (some .int), Cond.methodLink RX6 285 yX3_keep, Cond.instanceMethod yX3_keep, Cond.selects RX3 yX3_keep yX3_keep, Cond.initialized RX3, Cond.code yX3_keep cX3_keep 5 none, Cond.fieldLink RX3 24 "AntFloor$Meetings" "total" "I", Cond.fieldLink RX3 9 "AntFloor$Meetings" "times" "[I", Cond.fieldLink RX3 15 "AntFloor$Meetings" "xs" "[I", Cond.fieldLink RX3 18 "AntFloor$Meetings" "ys" "[I", Cond.fieldLink RX3 21 "AntFloor$Meetings" "whos" "[I"]
def wsX6_stepAhead : List Cond := .code yX6_stepAhead cX6_stepAhead 2 (some .boolean) :: ((wsX6_stepAhead_r1 ++ (wsX6_stepAhead_r2 ++ (wsX6_stepAhead_r3 ++ wsX6_stepAhead_r4))) ++ wsX60 ++ wsX00 ++ wsX10 ++ wsX40 ++ wsX20 ++ wsX30)
def wsX6_redoActs_r1 : List Cond := [Cond.fieldLink RX6 67 "AntFloor" "antCount" "I", Cond.fieldLink RX6 25 "AntFloor" "ants" "[LAntFloor$Ant;", Cond.methodLink RX6 248 yX6_act, Cond.instanceMethod yX6_act, Cond.selects RX6 yX6_act yX6_act, Cond.initialized RX6, Cond.code yX6_act cX6_act 7 (some .boolean), Cond.fieldLink RX6 114 "AntFloor$Ant" "x" "I", Cond.fieldLink RX6 117 "AntFloor$Ant" "y" "I", Cond.fieldLink RX6 12 "AntFloor" "ground" "LAntFloor$Ground;", Cond.fieldLink RX6 111 "AntFloor$Ground" "cells" "[I", Cond.fieldLink RX6 120 "AntFloor$Ant" "direction" "I", Cond.fieldLink RX6 19 "AntFloor" "rules" "LAntFloor$Rules;", Cond.fieldLink RX6 269 "AntFloor$Rules" "turns" "[[I", Cond.fieldLink RX6 123 "AntFloor$Ant" "rule" "I", Cond.fieldLink RX6 90 "AntFloor$Ground" "colours" "I", Cond.fieldLink RX6 150 "AntFloor$Ground" "comings" "[I", Cond.methodLink RX6 107 yX6_placeOf, Cond.static yX6_placeOf, Cond.code yX6_placeOf cX6_placeOf 2 (some .int), Cond.methodLink RX6 99 yX6_isOn, Cond.static yX6_isOn, Cond.code yX6_isOn cX6_isOn 2 (some .boolean), Cond.methodLink RX6 273 yX1_turned]
def wsX6_redoActs_r2 : List Cond := [Cond.instanceMethod yX1_turned, Cond.selects RX1 yX1_turned yX1_turned, Cond.initialized RX1, Cond.code yX1_turned cX1_turned 4 (some .int), Cond.methodLink RX1 44 yX1_directions, Cond.instanceMethod yX1_directions, Cond.selects RX1 yX1_directions yX1_directions, Cond.code yX1_directions cX1_directions 1 (some .int), Cond.fieldLink RX1 9 "AntFloor$Ground" "kind" "I", Cond.methodLink RX6 276 yX1_stepX, Cond.instanceMethod yX1_stepX, Cond.selects RX1 yX1_stepX yX1_stepX, Cond.code yX1_stepX cX1_stepX 2 (some .int), Cond.methodLink RX6 279 yX1_stepY, Cond.instanceMethod yX1_stepY, Cond.selects RX1 yX1_stepY yX1_stepY, Cond.code yX1_stepY cX1_stepY 2 (some .int), Cond.methodLink RX6 103 yX0_put, Cond.instanceMethod yX0_put, Cond.selects RX0 yX0_put yX0_put, Cond.initialized RX0, Cond.code yX0_put cX0_put 5 none, Cond.fieldLink RX0 7 "AntFloor$Ant" "x" "I", Cond.fieldLink RX0 13 "AntFloor$Ant" "y" "I"]
def wsX6_redoActs_r3 : List Cond := [Cond.fieldLink RX0 16 "AntFloor$Ant" "direction" "I", Cond.fieldLink RX0 19 "AntFloor$Ant" "rule" "I"]
def wsX6_redoActs : List Cond := .code yX6_redoActs cX6_redoActs 3 none :: ((wsX6_redoActs_r1 ++ (wsX6_redoActs_r2 ++ wsX6_redoActs_r3)) ++ wsX60 ++ wsX00 ++ wsX10 ++ wsX40)
def wsX6_stepBack_r1 : List Cond := [Cond.fieldLink RX6 67 "AntFloor" "antCount" "I", Cond.fieldLink RX6 25 "AntFloor" "ants" "[LAntFloor$Ant;", Cond.fieldLink RX6 76 "AntFloor" "now" "I", Cond.fieldLink RX6 44 "AntFloor" "marked" "LAntFloor$Mark;", Cond.methodLink RX6 263 yX6_actBack, Cond.instanceMethod yX6_actBack, Cond.selects RX6 yX6_actBack yX6_actBack, Cond.initialized RX6, Cond.code yX6_actBack cX6_actBack 7 (some .boolean), Cond.fieldLink RX6 114 "AntFloor$Ant" "x" "I", Cond.fieldLink RX6 12 "AntFloor" "ground" "LAntFloor$Ground;", Cond.fieldLink RX6 120 "AntFloor$Ant" "direction" "I", Cond.fieldLink RX6 117 "AntFloor$Ant" "y" "I", Cond.fieldLink RX6 111 "AntFloor$Ground" "cells" "[I", Cond.fieldLink RX6 90 "AntFloor$Ground" "colours" "I", Cond.fieldLink RX6 19 "AntFloor" "rules" "LAntFloor$Rules;", Cond.fieldLink RX6 269 "AntFloor$Rules" "turns" "[[I", Cond.fieldLink RX6 123 "AntFloor$Ant" "rule" "I", Cond.fieldLink RX6 150 "AntFloor$Ground" "comings" "[I", Cond.methodLink RX6 276 yX1_stepX, Cond.instanceMethod yX1_stepX, Cond.selects RX1 yX1_stepX yX1_stepX, Cond.initialized RX1, Cond.code yX1_stepX cX1_stepX 2 (some .int)]
def wsX6_stepBack_r2 : List Cond := [Cond.fieldLink RX1 9 "AntFloor$Ground" "kind" "I", Cond.methodLink RX6 279 yX1_stepY, Cond.instanceMethod yX1_stepY, Cond.selects RX1 yX1_stepY yX1_stepY, Cond.code yX1_stepY cX1_stepY 2 (some .int), Cond.methodLink RX6 107 yX6_placeOf, Cond.static yX6_placeOf, Cond.code yX6_placeOf cX6_placeOf 2 (some .int), Cond.methodLink RX6 99 yX6_isOn, Cond.static yX6_isOn, Cond.code yX6_isOn cX6_isOn 2 (some .boolean), Cond.methodLink RX6 273 yX1_turned, Cond.instanceMethod yX1_turned, Cond.selects RX1 yX1_turned yX1_turned, Cond.code yX1_turned cX1_turned 4 (some .int), Cond.methodLink RX1 44 yX1_directions, Cond.instanceMethod yX1_directions, Cond.selects RX1 yX1_directions yX1_directions, Cond.code yX1_directions cX1_directions 1 (some .int), Cond.methodLink RX6 103 yX0_put, Cond.instanceMethod yX0_put, Cond.selects RX0 yX0_put yX0_put, Cond.initialized RX0, Cond.code yX0_put cX0_put 5 none]
def wsX6_stepBack_r3 : List Cond := [Cond.fieldLink RX0 7 "AntFloor$Ant" "x" "I", Cond.fieldLink RX0 13 "AntFloor$Ant" "y" "I", Cond.fieldLink RX0 16 "AntFloor$Ant" "direction" "I", Cond.fieldLink RX0 19 "AntFloor$Ant" "rule" "I", Cond.methodLink RX6 266 yX6_redoActs, Cond.instanceMethod yX6_redoActs, Cond.selects RX6 yX6_redoActs yX6_redoActs, Cond.code yX6_redoActs cX6_redoActs 3 none, Cond.methodLink RX6 248 yX6_act, Cond.instanceMethod yX6_act, Cond.selects RX6 yX6_act yX6_act, Cond.code yX6_act cX6_act 7 (some .boolean), Cond.methodLink RX6 96 yX2_spoil, Cond.instanceMethod yX2_spoil, Cond.selects RX2 yX2_spoil yX2_spoil, Cond.initialized RX2, Cond.code yX2_spoil cX2_spoil 1 none, Cond.fieldLink RX2 30 "AntFloor$Mark" "isSpoilt" "Z"]
def wsX6_stepBack : List Cond := .code yX6_stepBack cX6_stepBack 2 (some .boolean) :: ((wsX6_stepBack_r1 ++ (wsX6_stepBack_r2 ++ wsX6_stepBack_r3)) ++ wsX60 ++ wsX00 ++ wsX10 ++ wsX40 ++ wsX20)
def wsX6_run_r1 : List Cond := [Cond.methodLink RX6 63 yX6_isWithin, Cond.static yX6_isWithin, Cond.initialized RX6, Cond.code yX6_isWithin cX6_isWithin 3 (some .boolean), Cond.methodLink RX6 126 yX6_stepAhead, Cond.instanceMethod yX6_stepAhead, Cond.selects RX6 yX6_stepAhead yX6_stepAhead, Cond.code yX6_stepAhead cX6_stepAhead 2 (some .boolean), Cond.fieldLink RX6 67 "AntFloor" "antCount" "I", Cond.fieldLink RX6 30 "AntFloor" "begun" "[I", Cond.fieldLink RX6 25 "AntFloor" "ants" "[LAntFloor$Ant;", Cond.fieldLink RX6 114 "AntFloor$Ant" "x" "I", Cond.fieldLink RX6 117 "AntFloor$Ant" "y" "I", Cond.fieldLink RX6 76 "AntFloor" "now" "I", Cond.fieldLink RX6 44 "AntFloor" "marked" "LAntFloor$Mark;", Cond.methodLink RX6 107 yX6_placeOf, Cond.static yX6_placeOf, Cond.code yX6_placeOf cX6_placeOf 2 (some .int), Cond.methodLink RX6 99 yX6_isOn, Cond.static yX6_isOn, Cond.code yX6_isOn cX6_isOn 2 (some .boolean), Cond.methodLink RX6 248 yX6_act, Cond.instanceMethod yX6_act, Cond.selects RX6 yX6_act yX6_act]
def wsX6_run_r2 : List Cond := [Cond.code yX6_act cX6_act 7 (some .boolean), Cond.fieldLink RX6 12 "AntFloor" "ground" "LAntFloor$Ground;", Cond.fieldLink RX6 111 "AntFloor$Ground" "cells" "[I", Cond.fieldLink RX6 120 "AntFloor$Ant" "direction" "I", Cond.fieldLink RX6 19 "AntFloor" "rules" "LAntFloor$Rules;", Cond.fieldLink RX6 269 "AntFloor$Rules" "turns" "[[I", Cond.fieldLink RX6 123 "AntFloor$Ant" "rule" "I", Cond.fieldLink RX6 90 "AntFloor$Ground" "colours" "I", Cond.fieldLink RX6 150 "AntFloor$Ground" "comings" "[I", Cond.methodLink RX6 273 yX1_turned, Cond.instanceMethod yX1_turned, Cond.selects RX1 yX1_turned yX1_turned, Cond.initialized RX1, Cond.code yX1_turned cX1_turned 4 (some .int), Cond.methodLink RX1 44 yX1_directions, Cond.instanceMethod yX1_directions, Cond.selects RX1 yX1_directions yX1_directions, Cond.code yX1_directions cX1_directions 1 (some .int), Cond.fieldLink RX1 9 "AntFloor$Ground" "kind" "I", Cond.methodLink RX6 276 yX1_stepX, Cond.instanceMethod yX1_stepX, Cond.selects RX1 yX1_stepX yX1_stepX, Cond.code yX1_stepX cX1_stepX 2 (some .int), Cond.methodLink RX6 279 yX1_stepY]
def wsX6_run_r3 : List Cond := [Cond.instanceMethod yX1_stepY, Cond.selects RX1 yX1_stepY yX1_stepY, Cond.code yX1_stepY cX1_stepY 2 (some .int), Cond.methodLink RX6 103 yX0_put, Cond.instanceMethod yX0_put, Cond.selects RX0 yX0_put yX0_put, Cond.initialized RX0, Cond.code yX0_put cX0_put 5 none, Cond.fieldLink RX0 7 "AntFloor$Ant" "x" "I", Cond.fieldLink RX0 13 "AntFloor$Ant" "y" "I", Cond.fieldLink RX0 16 "AntFloor$Ant" "direction" "I", Cond.fieldLink RX0 19 "AntFloor$Ant" "rule" "I", Cond.methodLink RX6 252 yX6_takeBackActs, Cond.instanceMethod yX6_takeBackActs, Cond.selects RX6 yX6_takeBackActs yX6_takeBackActs, Cond.code yX6_takeBackActs cX6_takeBackActs 3 none, Cond.methodLink RX6 263 yX6_actBack, Cond.instanceMethod yX6_actBack, Cond.selects RX6 yX6_actBack yX6_actBack, Cond.code yX6_actBack cX6_actBack 7 (some .boolean), Cond.methodLink RX6 256 yX2_tread, Cond.instanceMethod yX2_tread, Cond.selects RX2 yX2_tread yX2_tread, Cond.initialized RX2]
def wsX6_run_r4 : List Cond := [Cond.code yX2_tread cX2_tread 4 none, Cond.fieldLink RX2 26 "AntFloor$Mark" "isTaken" "Z", Cond.fieldLink RX2 23 "AntFloor$Mark" "trod" "[I", Cond.fieldLink RX2 65 "AntFloor$Mark" "trodCount" "I", Cond.methodLink RX6 260 yX6_noteMeetings, Cond.instanceMethod yX6_noteMeetings, Cond.selects RX6 yX6_noteMeetings yX6_noteMeetings, Cond.code yX6_noteMeetings cX6_noteMeetings 4 none, Cond.fieldLink RX6 37 "AntFloor" "meetings" "LAntFloor$Meetings;", Cond.methodLink RX6 282 yX6_antsWith, Cond.instanceMethod yX6_antsWith, Cond.selects RX6 yX6_antsWith yX6_antsWith, Cond.code yX6_antsWith cX6_antsWith 4 (some .int), Cond.methodLink RX6 285 yX3_keep, Cond.instanceMethod yX3_keep, Cond.selects RX3 yX3_keep yX3_keep, Cond.initialized RX3, Cond.code yX3_keep cX3_keep 5 none, Cond.fieldLink RX3 24 "AntFloor$Meetings" "total" "I", Cond.fieldLink RX3 9 "AntFloor$Meetings" "times" "[I", Cond.fieldLink RX3 15 "AntFloor$Meetings" "xs" "[I", Cond.fieldLink RX3 18 "AntFloor$Meetings" "ys" "[I", Cond.fieldLink RX3 21 "AntFloor$Meetings" "whos" "[I", Cond.methodLink RX6 130 yX6_stepBack]
def wsX6_run_r5 : List Cond := [Cond.instanceMethod yX6_stepBack, Cond.selects RX6 yX6_stepBack yX6_stepBack, Cond.code yX6_stepBack cX6_stepBack 2 (some .boolean), Cond.methodLink RX6 266 yX6_redoActs, Cond.instanceMethod yX6_redoActs, Cond.selects RX6 yX6_redoActs yX6_redoActs, Cond.code yX6_redoActs cX6_redoActs 3 none, Cond.methodLink RX6 96 yX2_spoil, Cond.instanceMethod yX2_spoil, Cond.selects RX2 yX2_spoil yX2_spoil, Cond.code yX2_spoil cX2_spoil 1 none, Cond.fieldLink RX2 30 "AntFloor$Mark" "isSpoilt" "Z"]
def wsX6_run : List Cond := .code yX6_run cX6_run 4 (some .int) :: ((wsX6_run_r1 ++ (wsX6_run_r2 ++ (wsX6_run_r3 ++ (wsX6_run_r4 ++ wsX6_run_r5)))) ++ wsX60 ++ wsX00 ++ wsX10 ++ wsX40 ++ wsX20 ++ wsX30)
def wsX6_time : List Cond := .code yX6_time cX6_time 1 (some .int) :: ([.fieldLink RX6 76 "AntFloor" "now" "I"] ++ wsX60)
def wsX6_visits : List Cond := .code yX6_visits cX6_visits 4 (some .int) :: ([.constant RX6 149 (-10000001), .fieldLink RX6 12 "AntFloor" "ground" "LAntFloor$Ground;", .fieldLink RX6 150 "AntFloor$Ground" "comings" "[I", .methodLink RX6 107 yX6_placeOf, .static yX6_placeOf, .initialized RX6, .code yX6_placeOf cX6_placeOf 2 (some .int), .methodLink RX6 99 yX6_isOn, .static yX6_isOn, .code yX6_isOn cX6_isOn 2 (some .boolean)] ++ wsX60 ++ wsX10)
def wsX6_howMany : List Cond := .code yX6_howMany cX6_howMany 4 (some .int) :: ([])
def wsX6_count : List Cond := .code yX6_count cX6_count 2 (some .int) :: ([.fieldLink RX6 67 "AntFloor" "antCount" "I", .constant RX6 153 (57600), .fieldLink RX6 12 "AntFloor" "ground" "LAntFloor$Ground;", .fieldLink RX6 111 "AntFloor$Ground" "cells" "[I", .fieldLink RX6 37 "AntFloor" "meetings" "LAntFloor$Meetings;", .fieldLink RX6 158 "AntFloor$Meetings" "total" "I", .fieldLink RX6 150 "AntFloor$Ground" "comings" "[I", .fieldLink RX6 90 "AntFloor$Ground" "colours" "I", .fieldLink RX6 161 "AntFloor$Ground" "kind" "I", .methodLink RX6 154 yX6_howMany, .static yX6_howMany, .initialized RX6, .code yX6_howMany cX6_howMany 4 (some .int), .methodLink RX6 63 yX6_isWithin, .static yX6_isWithin, .code yX6_isWithin cX6_isWithin 3 (some .boolean)] ++ wsX60 ++ wsX10 ++ wsX30)
def wsX6_digest : List Cond := .code yX6_digest cX6_digest 6 (some .long) :: ([.constantLong RX6 180 (7), .constantLong RX6 182 (31), .fieldLink RX6 12 "AntFloor" "ground" "LAntFloor$Ground;", .fieldLink RX6 111 "AntFloor$Ground" "cells" "[I", .fieldLink RX6 67 "AntFloor" "antCount" "I", .fieldLink RX6 25 "AntFloor" "ants" "[LAntFloor$Ant;", .fieldLink RX6 114 "AntFloor$Ant" "x" "I", .fieldLink RX6 117 "AntFloor$Ant" "y" "I", .fieldLink RX6 120 "AntFloor$Ant" "direction" "I", .fieldLink RX6 123 "AntFloor$Ant" "rule" "I"] ++ wsX60 ++ wsX10 ++ wsX00)
def wsL_cell : List Cond := .code yL_cell cL_cell 2 (some .int) :: ([.constant RL 7 (15485957), .constant RL 8 (2147483647)])
def wsL_lays_r1 : List Cond := [Cond.methodLink RL 9 yL_cell, Cond.static yL_cell, Cond.initialized RL, Cond.code yL_cell cL_cell 2 (some .int), Cond.constant RL 7 (15485957), Cond.constant RL 8 (2147483647), Cond.methodLink RL 15 yX6_floor, Cond.instanceMethod yX6_floor, Cond.selects RX6 yX6_floor yX6_floor, Cond.initialized RX6, Cond.code yX6_floor cX6_floor 4 (some .int), Cond.fieldLink RX6 67 "AntFloor" "antCount" "I", Cond.fieldLink RX6 12 "AntFloor" "ground" "LAntFloor$Ground;", Cond.fieldLink RX6 19 "AntFloor" "rules" "LAntFloor$Rules;", Cond.fieldLink RX6 37 "AntFloor" "meetings" "LAntFloor$Meetings;", Cond.fieldLink RX6 44 "AntFloor" "marked" "LAntFloor$Mark;", Cond.fieldLink RX6 76 "AntFloor" "now" "I", Cond.methodLink RX6 63 yX6_isWithin, Cond.static yX6_isWithin, Cond.code yX6_isWithin cX6_isWithin 3 (some .boolean), Cond.methodLink RX6 71 yX1_restart, Cond.instanceMethod yX1_restart, Cond.selects RX1 yX1_restart yX1_restart, Cond.initialized RX1]
def wsL_lays_r2 : List Cond := [Cond.code yX1_restart cX1_restart 3 none, Cond.fieldLink RX1 9 "AntFloor$Ground" "kind" "I", Cond.fieldLink RX1 15 "AntFloor$Ground" "colours" "I", Cond.fieldLink RX1 19 "AntFloor$Ground" "cells" "[I", Cond.fieldLink RX1 23 "AntFloor$Ground" "comings" "[I", Cond.methodLink RX1 26 yJ7_fill_53178, Cond.static yJ7_fill_53178, Cond.initialized RJ7, Cond.code yJ7_fill_53178 cJ7_fill_53178 4 none, Cond.methodLink RX6 55 yX1_directions, Cond.instanceMethod yX1_directions, Cond.selects RX1 yX1_directions yX1_directions, Cond.code yX1_directions cX1_directions 1 (some .int), Cond.methodLink RX6 59 yX4_restart, Cond.instanceMethod yX4_restart, Cond.selects RX4 yX4_restart yX4_restart, Cond.initialized RX4, Cond.code yX4_restart cX4_restart 5 none, Cond.fieldLink RX4 11 "AntFloor$Rules" "turns" "[[I", Cond.methodLink RX4 20 yX4_turnOf, Cond.static yX4_turnOf, Cond.code yX4_turnOf cX4_turnOf 3 (some .int), Cond.methodLink RX6 72 yX3_forget, Cond.instanceMethod yX3_forget]
def wsL_lays_r3 : List Cond := [Cond.selects RX3 yX3_forget yX3_forget, Cond.initialized RX3, Cond.code yX3_forget cX3_forget 1 none, Cond.fieldLink RX3 24 "AntFloor$Meetings" "total" "I", Cond.methodLink RX6 75 yX2_forget, Cond.instanceMethod yX2_forget, Cond.selects RX2 yX2_forget yX2_forget, Cond.initialized RX2, Cond.code yX2_forget cX2_forget 1 none, Cond.fieldLink RX2 26 "AntFloor$Mark" "isTaken" "Z", Cond.methodLink RL 21 yX6_type, Cond.instanceMethod yX6_type, Cond.selects RX6 yX6_type yX6_type, Cond.code yX6_type cX6_type 4 (some .int), Cond.methodLink RX6 79 yX4_hasRoomFor, Cond.instanceMethod yX4_hasRoomFor, Cond.selects RX4 yX4_hasRoomFor yX4_hasRoomFor, Cond.code yX4_hasRoomFor cX4_hasRoomFor 2 (some .boolean), Cond.fieldLink RX4 24 "AntFloor$Rules" "typed" "I", Cond.methodLink RX6 83 yX4_takeBytes, Cond.instanceMethod yX4_takeBytes, Cond.selects RX4 yX4_takeBytes yX4_takeBytes, Cond.code yX4_takeBytes cX4_takeBytes 5 (some .int), Cond.fieldLink RX4 16 "AntFloor$Rules" "tape" "[I"]
def wsL_lays_r4 : List Cond := [Cond.methodLink RL 25 yX6_rule, Cond.instanceMethod yX6_rule, Cond.selects RX6 yX6_rule yX6_rule, Cond.code yX6_rule cX6_rule 2 (some .int), Cond.fieldLink RX6 90 "AntFloor$Ground" "colours" "I", Cond.methodLink RX6 87 yX6_isRule, Cond.static yX6_isRule, Cond.code yX6_isRule cX6_isRule 1 (some .boolean), Cond.methodLink RX6 93 yX4_setFromTape, Cond.instanceMethod yX4_setFromTape, Cond.selects RX4 yX4_setFromTape yX4_setFromTape, Cond.code yX4_setFromTape cX4_setFromTape 6 (some .boolean), Cond.methodLink RX6 96 yX2_spoil, Cond.instanceMethod yX2_spoil, Cond.selects RX2 yX2_spoil yX2_spoil, Cond.code yX2_spoil cX2_spoil 1 none, Cond.fieldLink RX2 30 "AntFloor$Mark" "isSpoilt" "Z", Cond.methodLink RL 29 yX6_ant, Cond.instanceMethod yX6_ant, Cond.selects RX6 yX6_ant yX6_ant, Cond.code yX6_ant cX6_ant 5 (some .int), Cond.fieldLink RX6 25 "AntFloor" "ants" "[LAntFloor$Ant;", Cond.methodLink RX6 99 yX6_isOn, Cond.static yX6_isOn]
def wsL_lays_r5 : List Cond := [Cond.code yX6_isOn cX6_isOn 2 (some .boolean), Cond.methodLink RX6 103 yX0_put, Cond.instanceMethod yX0_put, Cond.selects RX0 yX0_put yX0_put, Cond.initialized RX0, Cond.code yX0_put cX0_put 5 none, Cond.fieldLink RX0 7 "AntFloor$Ant" "x" "I", Cond.fieldLink RX0 13 "AntFloor$Ant" "y" "I", Cond.fieldLink RX0 16 "AntFloor$Ant" "direction" "I", Cond.fieldLink RX0 19 "AntFloor$Ant" "rule" "I"]
def wsL_lays : List Cond := .code yL_lays cL_lays 10 (some .int) :: ((wsL_lays_r1 ++ (wsL_lays_r2 ++ (wsL_lays_r3 ++ (wsL_lays_r4 ++ wsL_lays_r5)))) ++ wsX60 ++ wsX10 ++ wsX40 ++ wsX30 ++ wsX20 ++ wsX00)
def wsL_law_r1 : List Cond := [Cond.classLink RL 16 RX6, Cond.instantiable RX6 9, Cond.initialized RX6, Cond.methodLink RL 33 yX6_init, Cond.instanceMethod yX6_init, Cond.code yX6_init cX6_init 2 none, Cond.methodLink RX6 3 objectInit, Cond.instanceMethod objectInit, Cond.code objectInit ⟨#[0xb1]⟩ 1 none, Cond.classLink RX6 9 RX1, Cond.instantiable RX1 4, Cond.initialized RX1, Cond.fieldLink RX6 12 "AntFloor" "ground" "LAntFloor$Ground;", Cond.classLink RX6 16 RX4, Cond.instantiable RX4 3, Cond.initialized RX4, Cond.fieldLink RX6 19 "AntFloor" "rules" "LAntFloor$Rules;", Cond.classLink RX6 23 RX0, Cond.fieldLink RX6 25 "AntFloor" "ants" "[LAntFloor$Ant;", Cond.instantiable RX0 4, Cond.initialized RX0, Cond.arrayClass .int, Cond.fieldLink RX6 30 "AntFloor" "begun" "[I", Cond.classLink RX6 34 RX3]
def wsL_law_r2 : List Cond := [Cond.instantiable RX3 5, Cond.initialized RX3, Cond.fieldLink RX6 37 "AntFloor" "meetings" "LAntFloor$Meetings;", Cond.classLink RX6 41 RX2, Cond.instantiable RX2 7, Cond.initialized RX2, Cond.fieldLink RX6 44 "AntFloor" "marked" "LAntFloor$Mark;", Cond.classLink RX6 48 RX5, Cond.fieldLink RX6 50 "AntFloor" "sheets" "[LAntFloor$Sheet;", Cond.instantiable RX5 3, Cond.initialized RX5, Cond.instanceMethod yX1_init, Cond.code yX1_init cX1_init 1 none, Cond.methodLink RX1 3 objectInit, Cond.fieldLink RX1 9 "AntFloor$Ground" "kind" "I", Cond.fieldLink RX1 15 "AntFloor$Ground" "colours" "I", Cond.constant RX1 18 (57600), Cond.fieldLink RX1 19 "AntFloor$Ground" "cells" "[I", Cond.fieldLink RX1 23 "AntFloor$Ground" "comings" "[I", Cond.instanceMethod yX4_init, Cond.code yX4_init cX4_init 1 none, Cond.methodLink RX4 3 objectInit, Cond.classLink RX4 9 "[[I", Cond.fieldLink RX4 11 "AntFloor$Rules" "turns" "[[I"]
def wsL_law_r3 : List Cond := [Cond.fieldLink RX4 16 "AntFloor$Rules" "tape" "[I", Cond.instanceMethod yX0_init, Cond.code yX0_init cX0_init 1 none, Cond.methodLink RX0 1 objectInit, Cond.instanceMethod yX3_init, Cond.code yX3_init cX3_init 1 none, Cond.methodLink RX3 3 objectInit, Cond.fieldLink RX3 9 "AntFloor$Meetings" "times" "[I", Cond.fieldLink RX3 15 "AntFloor$Meetings" "xs" "[I", Cond.fieldLink RX3 18 "AntFloor$Meetings" "ys" "[I", Cond.fieldLink RX3 21 "AntFloor$Meetings" "whos" "[I", Cond.instanceMethod yX2_init, Cond.code yX2_init cX2_init 1 none, Cond.methodLink RX2 3 objectInit, Cond.classLink RX2 9 RX0, Cond.fieldLink RX2 12 "AntFloor$Mark" "first" "LAntFloor$Ant;", Cond.constant RX2 18 (57600), Cond.fieldLink RX2 19 "AntFloor$Mark" "cells" "[I", Cond.fieldLink RX2 23 "AntFloor$Mark" "trod" "[I", Cond.instanceMethod yX5_init, Cond.code yX5_init cX5_init 1 none, Cond.methodLink RX5 3 objectInit, Cond.fieldLink RX5 9 "AntFloor$Sheet" "lane" "I", Cond.fieldLink RX5 15 "AntFloor$Sheet" "items" "[I"]
def wsL_law_r4 : List Cond := [Cond.methodLink RX6 55 yX1_directions, Cond.instanceMethod yX1_directions, Cond.selects RX1 yX1_directions yX1_directions, Cond.code yX1_directions cX1_directions 1 (some .int), Cond.methodLink RX6 59 yX4_restart, Cond.instanceMethod yX4_restart, Cond.selects RX4 yX4_restart yX4_restart, Cond.code yX4_restart cX4_restart 5 none, Cond.methodLink RX4 20 yX4_turnOf, Cond.static yX4_turnOf, Cond.code yX4_turnOf cX4_turnOf 3 (some .int), Cond.methodLink RL 34 yL_lays, Cond.static yL_lays, Cond.initialized RL, Cond.code yL_lays cL_lays 10 (some .int), Cond.methodLink RL 9 yL_cell, Cond.static yL_cell, Cond.code yL_cell cL_cell 2 (some .int), Cond.constant RL 7 (15485957), Cond.constant RL 8 (2147483647), Cond.methodLink RL 15 yX6_floor, Cond.instanceMethod yX6_floor, Cond.selects RX6 yX6_floor yX6_floor, Cond.code yX6_floor cX6_floor 4 (some .int)]
def wsL_law_r5 : List Cond := [Cond.fieldLink RX6 67 "AntFloor" "antCount" "I", Cond.fieldLink RX6 76 "AntFloor" "now" "I", Cond.methodLink RX6 63 yX6_isWithin, Cond.static yX6_isWithin, Cond.code yX6_isWithin cX6_isWithin 3 (some .boolean), Cond.methodLink RX6 71 yX1_restart, Cond.instanceMethod yX1_restart, Cond.selects RX1 yX1_restart yX1_restart, Cond.code yX1_restart cX1_restart 3 none, Cond.methodLink RX1 26 yJ7_fill_53178, Cond.static yJ7_fill_53178, Cond.initialized RJ7, Cond.code yJ7_fill_53178 cJ7_fill_53178 4 none, Cond.methodLink RX6 72 yX3_forget, Cond.instanceMethod yX3_forget, Cond.selects RX3 yX3_forget yX3_forget, Cond.code yX3_forget cX3_forget 1 none, Cond.fieldLink RX3 24 "AntFloor$Meetings" "total" "I", Cond.methodLink RX6 75 yX2_forget, Cond.instanceMethod yX2_forget, Cond.selects RX2 yX2_forget yX2_forget, Cond.code yX2_forget cX2_forget 1 none, Cond.fieldLink RX2 26 "AntFloor$Mark" "isTaken" "Z", Cond.methodLink RL 21 yX6_type]
def wsL_law_r6 : List Cond := [Cond.instanceMethod yX6_type, Cond.selects RX6 yX6_type yX6_type, Cond.code yX6_type cX6_type 4 (some .int), Cond.methodLink RX6 79 yX4_hasRoomFor, Cond.instanceMethod yX4_hasRoomFor, Cond.selects RX4 yX4_hasRoomFor yX4_hasRoomFor, Cond.code yX4_hasRoomFor cX4_hasRoomFor 2 (some .boolean), Cond.fieldLink RX4 24 "AntFloor$Rules" "typed" "I", Cond.methodLink RX6 83 yX4_takeBytes, Cond.instanceMethod yX4_takeBytes, Cond.selects RX4 yX4_takeBytes yX4_takeBytes, Cond.code yX4_takeBytes cX4_takeBytes 5 (some .int), Cond.methodLink RL 25 yX6_rule, Cond.instanceMethod yX6_rule, Cond.selects RX6 yX6_rule yX6_rule, Cond.code yX6_rule cX6_rule 2 (some .int), Cond.fieldLink RX6 90 "AntFloor$Ground" "colours" "I", Cond.methodLink RX6 87 yX6_isRule, Cond.static yX6_isRule, Cond.code yX6_isRule cX6_isRule 1 (some .boolean), Cond.methodLink RX6 93 yX4_setFromTape, Cond.instanceMethod yX4_setFromTape, Cond.selects RX4 yX4_setFromTape yX4_setFromTape, Cond.code yX4_setFromTape cX4_setFromTape 6 (some .boolean)]
def wsL_law_r7 : List Cond := [Cond.methodLink RX6 96 yX2_spoil, Cond.instanceMethod yX2_spoil, Cond.selects RX2 yX2_spoil yX2_spoil, Cond.code yX2_spoil cX2_spoil 1 none, Cond.fieldLink RX2 30 "AntFloor$Mark" "isSpoilt" "Z", Cond.methodLink RL 29 yX6_ant, Cond.instanceMethod yX6_ant, Cond.selects RX6 yX6_ant yX6_ant, Cond.code yX6_ant cX6_ant 5 (some .int), Cond.methodLink RX6 99 yX6_isOn, Cond.static yX6_isOn, Cond.code yX6_isOn cX6_isOn 2 (some .boolean), Cond.methodLink RX6 103 yX0_put, Cond.instanceMethod yX0_put, Cond.selects RX0 yX0_put yX0_put, Cond.code yX0_put cX0_put 5 none, Cond.fieldLink RX0 7 "AntFloor$Ant" "x" "I", Cond.fieldLink RX0 13 "AntFloor$Ant" "y" "I", Cond.fieldLink RX0 16 "AntFloor$Ant" "direction" "I", Cond.fieldLink RX0 19 "AntFloor$Ant" "rule" "I", Cond.methodLink RL 38 yX6_digest, Cond.instanceMethod yX6_digest, Cond.selects RX6 yX6_digest yX6_digest, Cond.code yX6_digest cX6_digest 6 (some .long)]
def wsL_law_r8 : List Cond := [Cond.constantLong RX6 180 (7), Cond.constantLong RX6 182 (31), Cond.fieldLink RX6 111 "AntFloor$Ground" "cells" "[I", Cond.fieldLink RX6 114 "AntFloor$Ant" "x" "I", Cond.fieldLink RX6 117 "AntFloor$Ant" "y" "I", Cond.fieldLink RX6 120 "AntFloor$Ant" "direction" "I", Cond.fieldLink RX6 123 "AntFloor$Ant" "rule" "I", Cond.methodLink RL 42 yX6_run, Cond.instanceMethod yX6_run, Cond.selects RX6 yX6_run yX6_run, Cond.code yX6_run cX6_run 4 (some .int), Cond.methodLink RX6 126 yX6_stepAhead, Cond.instanceMethod yX6_stepAhead, Cond.selects RX6 yX6_stepAhead yX6_stepAhead, Cond.code yX6_stepAhead cX6_stepAhead 2 (some .boolean), Cond.methodLink RX6 107 yX6_placeOf, Cond.static yX6_placeOf, Cond.code yX6_placeOf cX6_placeOf 2 (some .int), Cond.methodLink RX6 248 yX6_act, Cond.instanceMethod yX6_act, Cond.selects RX6 yX6_act yX6_act, Cond.code yX6_act cX6_act 7 (some .boolean), Cond.fieldLink RX6 269 "AntFloor$Rules" "turns" "[[I", Cond.fieldLink RX6 150 "AntFloor$Ground" "comings" "[I"]
def wsL_law_r9 : List Cond := [Cond.methodLink RX6 273 yX1_turned, Cond.instanceMethod yX1_turned, Cond.selects RX1 yX1_turned yX1_turned, Cond.code yX1_turned cX1_turned 4 (some .int), Cond.methodLink RX1 44 yX1_directions, Cond.methodLink RX6 276 yX1_stepX, Cond.instanceMethod yX1_stepX, Cond.selects RX1 yX1_stepX yX1_stepX, Cond.code yX1_stepX cX1_stepX 2 (some .int), Cond.methodLink RX6 279 yX1_stepY, Cond.instanceMethod yX1_stepY, Cond.selects RX1 yX1_stepY yX1_stepY, Cond.code yX1_stepY cX1_stepY 2 (some .int), Cond.methodLink RX6 252 yX6_takeBackActs, Cond.instanceMethod yX6_takeBackActs, Cond.selects RX6 yX6_takeBackActs yX6_takeBackActs, Cond.code yX6_takeBackActs cX6_takeBackActs 3 none, Cond.methodLink RX6 263 yX6_actBack, Cond.instanceMethod yX6_actBack, Cond.selects RX6 yX6_actBack yX6_actBack, Cond.code yX6_actBack cX6_actBack 7 (some .boolean), Cond.methodLink RX6 256 yX2_tread, Cond.instanceMethod yX2_tread, Cond.selects RX2 yX2_tread yX2_tread]
def wsL_law_r10 : List Cond := [Cond.code yX2_tread cX2_tread 4 none, Cond.fieldLink RX2 65 "AntFloor$Mark" "trodCount" "I", Cond.methodLink RX6 260 yX6_noteMeetings, Cond.instanceMethod yX6_noteMeetings, Cond.selects RX6 yX6_noteMeetings yX6_noteMeetings, Cond.code yX6_noteMeetings cX6_noteMeetings 4 none, Cond.methodLink RX6 282 yX6_antsWith, Cond.instanceMethod yX6_antsWith, Cond.selects RX6 yX6_antsWith yX6_antsWith, Cond.code yX6_antsWith cX6_antsWith 4 (some .int), Cond.methodLink RX6 285 yX3_keep, Cond.instanceMethod yX3_keep, Cond.selects RX3 yX3_keep yX3_keep, Cond.code yX3_keep cX3_keep 5 none, Cond.methodLink RX6 130 yX6_stepBack, Cond.instanceMethod yX6_stepBack, Cond.selects RX6 yX6_stepBack yX6_stepBack, Cond.code yX6_stepBack cX6_stepBack 2 (some .boolean), Cond.methodLink RX6 266 yX6_redoActs, Cond.instanceMethod yX6_redoActs, Cond.selects RX6 yX6_redoActs yX6_redoActs, Cond.code yX6_redoActs cX6_redoActs 3 none, Cond.methodLink RL 45 yX6_time, Cond.instanceMethod yX6_time]
def wsL_law_r11 : List Cond := [Cond.selects RX6 yX6_time yX6_time, Cond.code yX6_time cX6_time 1 (some .int), Cond.methodLink RL 49 yX6_count, Cond.instanceMethod yX6_count, Cond.selects RX6 yX6_count yX6_count, Cond.code yX6_count cX6_count 2 (some .int), Cond.constant RX6 153 (57600), Cond.fieldLink RX6 158 "AntFloor$Meetings" "total" "I", Cond.fieldLink RX6 161 "AntFloor$Ground" "kind" "I", Cond.methodLink RX6 154 yX6_howMany, Cond.static yX6_howMany, Cond.code yX6_howMany cX6_howMany 4 (some .int), Cond.methodLink RL 52 yX6_told, Cond.instanceMethod yX6_told, Cond.selects RX6 yX6_told yX6_told, Cond.code yX6_told cX6_told 3 (some .int), Cond.methodLink RL 55 yX6_visits, Cond.instanceMethod yX6_visits, Cond.selects RX6 yX6_visits yX6_visits, Cond.code yX6_visits cX6_visits 4 (some .int), Cond.constant RX6 149 (-10000001)]
def wsL_law : List Cond := (wsL_law_r1 ++ (wsL_law_r2 ++ (wsL_law_r3 ++ (wsL_law_r4 ++ (wsL_law_r5 ++ (wsL_law_r6 ++ (wsL_law_r7 ++ (wsL_law_r8 ++ (wsL_law_r9 ++ (wsL_law_r10 ++ wsL_law_r11)))))))))) ++ wsX60 ++ wsX10 ++ wsX40 ++ wsX00 ++ wsX30 ++ wsX20 ++ wsX50 ++ ([] : List Cond)
set_option maxRecDepth 20000 in
theorem wsL_law_in : ∀ w ∈ wsL_law, w ∈ lw_tbl := fun w h => (goodIn_p wsL_law [21, 24, 29, 54, 74, 97, 120, 151, 165, 173, 176, 318, 313, 322, 212, 326, 329, 333, 337, 341, 345, 349, 353, 356, 360, 287, 364, 226, 251, 308, 216, 220, 223, 230, 234, 239, 243, 255, 259, 263, 267, 271, 275, 279, 283, 291, 300, 304, 209, 295] (by decide +kernel) (by decide +kernel) w h).1
theorem inlX0 : ∀ w ∈ wsX00, w ∈ wsL_law := fun _ h => List.mem_append_left _ (List.mem_append_left _ (List.mem_append_left _ (List.mem_append_left _ (List.mem_append_right _ h))))
theorem inX0 : ∀ w ∈ wsX00, w ∈ lw_tbl := fun w h => wsL_law_in w (inlX0 w h)
theorem inlX1 : ∀ w ∈ wsX10, w ∈ wsL_law := fun _ h => List.mem_append_left _ (List.mem_append_left _ (List.mem_append_left _ (List.mem_append_left _ (List.mem_append_left _ (List.mem_append_left _ (List.mem_append_right _ h))))))
theorem inX1 : ∀ w ∈ wsX10, w ∈ lw_tbl := fun w h => wsL_law_in w (inlX1 w h)
theorem inlX2 : ∀ w ∈ wsX20, w ∈ wsL_law := fun _ h => List.mem_append_left _ (List.mem_append_left _ (List.mem_append_right _ h))
theorem inX2 : ∀ w ∈ wsX20, w ∈ lw_tbl := fun w h => wsL_law_in w (inlX2 w h)
theorem inlX3 : ∀ w ∈ wsX30, w ∈ wsL_law := fun _ h => List.mem_append_left _ (List.mem_append_left _ (List.mem_append_left _ (List.mem_append_right _ h)))
theorem inX3 : ∀ w ∈ wsX30, w ∈ lw_tbl := fun w h => wsL_law_in w (inlX3 w h)
theorem inlX4 : ∀ w ∈ wsX40, w ∈ wsL_law := fun _ h => List.mem_append_left _ (List.mem_append_left _ (List.mem_append_left _ (List.mem_append_left _ (List.mem_append_left _ (List.mem_append_right _ h)))))
theorem inX4 : ∀ w ∈ wsX40, w ∈ lw_tbl := fun w h => wsL_law_in w (inlX4 w h)
theorem inlX5 : ∀ w ∈ wsX50, w ∈ wsL_law := fun _ h => List.mem_append_left _ (List.mem_append_right _ h)
theorem inX5 : ∀ w ∈ wsX50, w ∈ lw_tbl := fun w h => wsL_law_in w (inlX5 w h)
theorem inlX6 : ∀ w ∈ wsX60, w ∈ wsL_law := fun _ h => List.mem_append_left _ (List.mem_append_left _ (List.mem_append_left _ (List.mem_append_left _ (List.mem_append_left _ (List.mem_append_left _ (List.mem_append_left _ (List.mem_append_right _ h)))))))
theorem inX6 : ∀ w ∈ wsX60, w ∈ lw_tbl := fun w h => wsL_law_in w (inlX6 w h)
theorem inX7 : ∀ w ∈ wsX70, w ∈ lw_tbl := by decide +kernel
theorem inJ7 : ∀ w ∈ wsJ70, w ∈ lw_tbl := by decide +kernel
