/-! ===== BEGIN words of one list among another's, by their places ===== -/
theorem goodIn_r {big : List Cond} (ws : List Cond) (ps : List Nat) (hp : ws = ps.filterMap (fun i => big[i]?)) (h : ws.all goodWord = true) : GoodIn big ws := by
  intro w hw
  have h1 := List.all_eq_true.mp h w hw
  rw [hp] at hw
  obtain ⟨i, -, hi⟩ := List.mem_filterMap.mp hw
  have hm : w ∈ big := by first | exact List.mem_of_getElem? hi | exact List.getElem?_mem hi
  exact ⟨hm, good_of_word h1⟩
theorem goodIn_app {big a b : List Cond} (ha : GoodIn big a) (hb : GoodIn big b) : GoodIn big (a ++ b) := fun w h => (List.mem_append.mp h).elim (ha w) (hb w)
theorem goodIn_ca {big a b : List Cond} {c : Cond} (ha : GoodIn big (c :: a)) (hb : GoodIn big b) : GoodIn big (c :: (a ++ b)) := fun w h => (List.mem_cons.mp h).elim (fun e => ha w (List.mem_cons.mpr (Or.inl e))) (fun h => (List.mem_append.mp h).elim (fun h => ha w (List.mem_cons.mpr (Or.inr h))) (hb w))
theorem goodIn_sub {big ws : List Cond} (hm : ∀ w ∈ ws, w ∈ big) (h : ws.all goodWord = true) : GoodIn big ws := fun w hw => ⟨hm w hw, good_of_word (List.all_eq_true.mp h w hw)⟩
/-! ===== END ===== -/

/-! ===== BEGIN printed: names, fields, word lists, decode rows ===== -/
def RX0 : String := "CleanRuns$Recipe"
def TX0 : u_T := fun k => match k with
  | 0 => ("CleanRuns$Recipe", "steps", "[LCleanRuns$Step;", true)
  | 1 => ("CleanRuns$Recipe", "size", "I", false)
  | _ => ("CleanRuns$Recipe", "begun", "Z", false)
def tyX0 : Nat → FieldType := fun k => match k with
  | 0 => .array (.object "CleanRuns$Step")
  | 1 => .int
  | _ => .boolean
abbrev wsX00 : List Cond := u_ws RX0 TX0 3
theorem nmX0 : ∀ a, a < 3 → ∀ b, b < 3 → a ≠ b → (TX0 a).2.1 ≠ (TX0 b).2.1 := by decide +kernel
theorem tyX0_ok : ∀ k, k < 3 → parseFieldDescriptor (TX0 k).2.2.1 = some (tyX0 k) := by decide +kernel
abbrev cX0_init : ByteArray := prog_2_method_1_code
def yX0_init : MethodName := ⟨RX0, "<init>", "()V"⟩
abbrev cX0_takesAStep : ByteArray := prog_2_method_2_code
def yX0_takesAStep : MethodName := ⟨RX0, "takesAStep", "()Z"⟩
abbrev cX0_append : ByteArray := prog_2_method_3_code
def yX0_append : MethodName := ⟨RX0, "append", "(LCleanRuns$Step;)V"⟩
abbrev cX0_stepAt : ByteArray := prog_2_method_4_code
def yX0_stepAt : MethodName := ⟨RX0, "stepAt", "(I)LCleanRuns$Step;"⟩
def RX1 : String := "CleanRuns$Run"
def TX1 : u_T := fun k => match k with
  | 0 => ("CleanRuns$Run", "recipe", "LCleanRuns$Recipe;", true)
  | 1 => ("CleanRuns$Run", "goal", "I", true)
  | 2 => ("CleanRuns$Run", "stays", "[LCleanRuns$Stay;", true)
  | 3 => ("CleanRuns$Run", "current", "LCleanRuns$Stay;", false)
  | 4 => ("CleanRuns$Run", "begunSteps", "I", false)
  | 5 => ("CleanRuns$Run", "state", "I", false)
  | 6 => ("CleanRuns$Run", "second", "I", false)
  | 7 => ("CleanRuns$Run", "failures", "I", false)
  | 8 => ("CleanRuns$Run", "hasInterface", "Z", false)
  | 9 => ("CleanRuns$Run", "interfaceValue", "D", false)
  | 10 => ("CleanRuns$Run", "interfaceHold", "I", false)
  | 11 => ("CleanRuns$Run", "water", "D", false)
  | 12 => ("CleanRuns$Run", "out", "D", false)
  | _ => ("CleanRuns$Run", "back", "D", false)
def tyX1 : Nat → FieldType := fun k => match k with
  | 0 => .object "CleanRuns$Recipe"
  | 1 => .int
  | 2 => .array (.object "CleanRuns$Stay")
  | 3 => .object "CleanRuns$Stay"
  | 4 => .int
  | 5 => .int
  | 6 => .int
  | 7 => .int
  | 8 => .boolean
  | 9 => .double
  | 10 => .int
  | 11 => .double
  | 12 => .double
  | _ => .double
abbrev wsX10 : List Cond := u_ws RX1 TX1 14
theorem nmX1 : ∀ a, a < 14 → ∀ b, b < 14 → a ≠ b → (TX1 a).2.1 ≠ (TX1 b).2.1 := by decide +kernel
theorem tyX1_ok : ∀ k, k < 14 → parseFieldDescriptor (TX1 k).2.2.1 = some (tyX1 k) := by decide +kernel
abbrev cX1_init : ByteArray := prog_3_method_1_code
def yX1_init : MethodName := ⟨RX1, "<init>", "(LCleanRuns$Recipe;LCleanRuns$Step;I)V"⟩
abbrev cX1_isOver : ByteArray := prog_3_method_2_code
def yX1_isOver : MethodName := ⟨RX1, "isOver", "()Z"⟩
abbrev cX1_stayAt : ByteArray := prog_3_method_3_code
def yX1_stayAt : MethodName := ⟨RX1, "stayAt", "(I)LCleanRuns$Stay;"⟩
abbrev cX1_used : ByteArray := prog_3_method_4_code
def yX1_used : MethodName := ⟨RX1, "used", "(I)D"⟩
abbrev cX1_setInterface : ByteArray := prog_3_method_5_code
def yX1_setInterface : MethodName := ⟨RX1, "setInterface", "(DI)V"⟩
abbrev cX1_passSecond : ByteArray := prog_3_method_6_code
def yX1_passSecond : MethodName := ⟨RX1, "passSecond", "(DDD)V"⟩
abbrev cX1_use : ByteArray := prog_3_method_7_code
def yX1_use : MethodName := ⟨RX1, "use", "(DZ)V"⟩
abbrev cX1_waitASecond : ByteArray := prog_3_method_8_code
def yX1_waitASecond : MethodName := ⟨RX1, "waitASecond", "(D)V"⟩
abbrev cX1_countASecond : ByteArray := prog_3_method_9_code
def yX1_countASecond : MethodName := ⟨RX1, "countASecond", "()V"⟩
abbrev cX1_begin : ByteArray := prog_3_method_10_code
def yX1_begin : MethodName := ⟨RX1, "begin", "(LCleanRuns$Step;)V"⟩
abbrev cX1_missASecond : ByteArray := prog_3_method_11_code
def yX1_missASecond : MethodName := ⟨RX1, "missASecond", "()V"⟩
abbrev cX1_end : ByteArray := prog_3_method_12_code
def yX1_end : MethodName := ⟨RX1, "end", "(I)V"⟩
def RX2 : String := "CleanRuns$Stay"
def TX2 : u_T := fun k => match k with
  | 0 => ("CleanRuns$Stay", "step", "LCleanRuns$Step;", true)
  | 1 => ("CleanRuns$Stay", "firstSecond", "I", true)
  | 2 => ("CleanRuns$Stay", "endSecond", "I", false)
  | 3 => ("CleanRuns$Stay", "waited", "I", false)
  | 4 => ("CleanRuns$Stay", "counted", "I", false)
  | 5 => ("CleanRuns$Stay", "missed", "I", false)
  | _ => ("CleanRuns$Stay", "failures", "I", false)
def tyX2 : Nat → FieldType := fun k => match k with
  | 0 => .object "CleanRuns$Step"
  | 1 => .int
  | 2 => .int
  | 3 => .int
  | 4 => .int
  | 5 => .int
  | _ => .int
abbrev wsX20 : List Cond := u_ws RX2 TX2 7
theorem nmX2 : ∀ a, a < 7 → ∀ b, b < 7 → a ≠ b → (TX2 a).2.1 ≠ (TX2 b).2.1 := by decide +kernel
theorem tyX2_ok : ∀ k, k < 7 → parseFieldDescriptor (TX2 k).2.2.1 = some (tyX2 k) := by decide +kernel
abbrev cX2_init : ByteArray := prog_4_method_1_code
def yX2_init : MethodName := ⟨RX2, "<init>", "(LCleanRuns$Step;I)V"⟩
abbrev cX2_told : ByteArray := prog_4_method_2_code
def yX2_told : MethodName := ⟨RX2, "told", "(I)I"⟩
def RX3 : String := "CleanRuns$Step"
def TX3 : u_T := fun k => match k with
  | 0 => ("CleanRuns$Step", "kind", "I", true)
  | 1 => ("CleanRuns$Step", "seconds", "I", true)
  | 2 => ("CleanRuns$Step", "strength", "D", true)
  | _ => ("CleanRuns$Step", "degrees", "D", true)
def tyX3 : Nat → FieldType := fun k => match k with
  | 0 => .int
  | 1 => .int
  | 2 => .double
  | _ => .double
abbrev wsX30 : List Cond := u_ws RX3 TX3 4
theorem nmX3 : ∀ a, a < 4 → ∀ b, b < 4 → a ≠ b → (TX3 a).2.1 ≠ (TX3 b).2.1 := by decide +kernel
theorem tyX3_ok : ∀ k, k < 4 → parseFieldDescriptor (TX3 k).2.2.1 = some (tyX3 k) := by decide +kernel
abbrev cX3_init : ByteArray := prog_5_method_1_code
def yX3_init : MethodName := ⟨RX3, "<init>", "(IIDD)V"⟩
abbrev cX3_usesWater : ByteArray := prog_5_method_2_code
def yX3_usesWater : MethodName := ⟨RX3, "usesWater", "()Z"⟩
abbrev cX3_holds : ByteArray := prog_5_method_3_code
def yX3_holds : MethodName := ⟨RX3, "holds", "(DDD)Z"⟩
abbrev cX3_passesInterface : ByteArray := prog_5_method_4_code
def yX3_passesInterface : MethodName := ⟨RX3, "passesInterface", "(DD)Z"⟩
def RX4 : String := "CleanRuns"
def TX4 : u_T := fun k => match k with
  | 0 => ("CleanRuns", "recipes", "[LCleanRuns$Recipe;", true)
  | 1 => ("CleanRuns", "runs", "[LCleanRuns$Run;", true)
  | 2 => ("CleanRuns", "recipeCount", "I", false)
  | _ => ("CleanRuns", "runCount", "I", false)
def tyX4 : Nat → FieldType := fun k => match k with
  | 0 => .array (.object "CleanRuns$Recipe")
  | 1 => .array (.object "CleanRuns$Run")
  | 2 => .int
  | _ => .int
abbrev wsX40 : List Cond := u_ws RX4 TX4 4
theorem nmX4 : ∀ a, a < 4 → ∀ b, b < 4 → a ≠ b → (TX4 a).2.1 ≠ (TX4 b).2.1 := by decide +kernel
theorem tyX4_ok : ∀ k, k < 4 → parseFieldDescriptor (TX4 k).2.2.1 = some (tyX4 k) := by decide +kernel
abbrev cX4_init : ByteArray := prog_1_method_1_code
def yX4_init : MethodName := ⟨RX4, "<init>", "()V"⟩
abbrev cX4_recipe : ByteArray := prog_1_method_2_code
def yX4_recipe : MethodName := ⟨RX4, "recipe", "()I"⟩
abbrev cX4_step : ByteArray := prog_1_method_3_code
def yX4_step : MethodName := ⟨RX4, "step", "(IIIDD)Z"⟩
abbrev cX4_start : ByteArray := prog_1_method_4_code
def yX4_start : MethodName := ⟨RX4, "start", "(II)I"⟩
abbrev cX4_tick : ByteArray := prog_1_method_5_code
def yX4_tick : MethodName := ⟨RX4, "tick", "(IDDD)I"⟩
abbrev cX4_state : ByteArray := prog_1_method_6_code
def yX4_state : MethodName := ⟨RX4, "state", "(I)I"⟩
abbrev cX4_stepOf : ByteArray := prog_1_method_7_code
def yX4_stepOf : MethodName := ⟨RX4, "stepOf", "(I)I"⟩
abbrev cX4_counted : ByteArray := prog_1_method_8_code
def yX4_counted : MethodName := ⟨RX4, "counted", "(I)J"⟩
abbrev cX4_failed : ByteArray := prog_1_method_9_code
def yX4_failed : MethodName := ⟨RX4, "failed", "(I)I"⟩
abbrev cX4_cleaner : ByteArray := prog_1_method_10_code
def yX4_cleaner : MethodName := ⟨RX4, "cleaner", "(II)D"⟩
abbrev cX4_interface2 : ByteArray := prog_1_method_11_code
def yX4_interface2 : MethodName := ⟨RX4, "interface2", "(IDI)Z"⟩
abbrev cX4_level : ByteArray := prog_1_method_12_code
def yX4_level : MethodName := ⟨RX4, "level", "(I)I"⟩
abbrev cX4_breakOff : ByteArray := prog_1_method_13_code
def yX4_breakOff : MethodName := ⟨RX4, "breakOff", "(I)Z"⟩
abbrev cX4_record : ByteArray := prog_1_method_14_code
def yX4_record : MethodName := ⟨RX4, "record", "(III)I"⟩
abbrev cX4_states : ByteArray := prog_1_method_15_code
def yX4_states : MethodName := ⟨RX4, "states", "()I"⟩
abbrev cX4_recipeAt : ByteArray := prog_1_method_16_code
def yX4_recipeAt : MethodName := ⟨RX4, "recipeAt", "(I)LCleanRuns$Recipe;"⟩
abbrev cX4_runAt : ByteArray := prog_1_method_17_code
def yX4_runAt : MethodName := ⟨RX4, "runAt", "(I)LCleanRuns$Run;"⟩
abbrev cX4_within : ByteArray := prog_1_method_18_code
def yX4_within : MethodName := ⟨RX4, "within", "(DDD)Z"⟩
def RX5 : String := "CleanRunsModel"
def TX5 : u_T := fun k => match k with
  | 0 => ("CleanRunsModel", "recipes", "I", false)
  | 1 => ("CleanRunsModel", "lengths", "[I", true)
  | 2 => ("CleanRunsModel", "begun", "[Z", true)
  | 3 => ("CleanRunsModel", "kinds", "[I", true)
  | 4 => ("CleanRunsModel", "seconds", "[I", true)
  | 5 => ("CleanRunsModel", "strengths", "[D", true)
  | 6 => ("CleanRunsModel", "warmths", "[D", true)
  | 7 => ("CleanRunsModel", "runs", "I", false)
  | 8 => ("CleanRunsModel", "of", "[I", true)
  | 9 => ("CleanRunsModel", "levels", "[I", true)
  | 10 => ("CleanRunsModel", "states", "[I", true)
  | 11 => ("CleanRunsModel", "at", "[I", true)
  | 12 => ("CleanRunsModel", "now", "[I", true)
  | 13 => ("CleanRunsModel", "counts", "[I", true)
  | 14 => ("CleanRunsModel", "missed", "[I", true)
  | 15 => ("CleanRunsModel", "waited", "[I", true)
  | 16 => ("CleanRunsModel", "values", "[D", true)
  | 17 => ("CleanRunsModel", "holds", "[I", true)
  | 18 => ("CleanRunsModel", "water", "[D", true)
  | 19 => ("CleanRunsModel", "out", "[D", true)
  | 20 => ("CleanRunsModel", "back", "[D", true)
  | 21 => ("CleanRunsModel", "fails", "[I", true)
  | 22 => ("CleanRunsModel", "began", "[I", true)
  | _ => ("CleanRunsModel", "ended", "[I", true)
def tyX5 : Nat → FieldType := fun k => match k with
  | 0 => .int
  | 1 => .array .int
  | 2 => .array .boolean
  | 3 => .array .int
  | 4 => .array .int
  | 5 => .array .double
  | 6 => .array .double
  | 7 => .int
  | 8 => .array .int
  | 9 => .array .int
  | 10 => .array .int
  | 11 => .array .int
  | 12 => .array .int
  | 13 => .array .int
  | 14 => .array .int
  | 15 => .array .int
  | 16 => .array .double
  | 17 => .array .int
  | 18 => .array .double
  | 19 => .array .double
  | 20 => .array .double
  | 21 => .array .int
  | 22 => .array .int
  | _ => .array .int
abbrev wsX50 : List Cond := u_ws RX5 TX5 24
theorem nmX5 : ∀ a, a < 24 → ∀ b, b < 24 → a ≠ b → (TX5 a).2.1 ≠ (TX5 b).2.1 := by decide +kernel
theorem tyX5_ok : ∀ k, k < 24 → parseFieldDescriptor (TX5 k).2.2.1 = some (tyX5 k) := by decide +kernel
abbrev cX5_init : ByteArray := prog_7_method_1_code
def yX5_init : MethodName := ⟨RX5, "<init>", "()V"⟩
abbrev cX5_recipe : ByteArray := prog_7_method_2_code
def yX5_recipe : MethodName := ⟨RX5, "recipe", "()I"⟩
abbrev cX5_step : ByteArray := prog_7_method_3_code
def yX5_step : MethodName := ⟨RX5, "step", "(IIIDD)Z"⟩
abbrev cX5_start : ByteArray := prog_7_method_4_code
def yX5_start : MethodName := ⟨RX5, "start", "(II)I"⟩
abbrev cX5_isRun : ByteArray := prog_7_method_5_code
def yX5_isRun : MethodName := ⟨RX5, "isRun", "(I)Z"⟩
abbrev cX5_isOn : ByteArray := prog_7_method_6_code
def yX5_isOn : MethodName := ⟨RX5, "isOn", "(I)Z"⟩
abbrev cX5_place : ByteArray := prog_7_method_7_code
def yX5_place : MethodName := ⟨RX5, "place", "(I)I"⟩
abbrev cX5_isHeld : ByteArray := prog_7_method_8_code
def yX5_isHeld : MethodName := ⟨RX5, "isHeld", "(IDDD)Z"⟩
abbrev cX5_tick : ByteArray := prog_7_method_9_code
def yX5_tick : MethodName := ⟨RX5, "tick", "(IDDD)I"⟩
abbrev cX5_end : ByteArray := prog_7_method_10_code
def yX5_end : MethodName := ⟨RX5, "end", "(I)V"⟩
abbrev cX5_miss : ByteArray := prog_7_method_11_code
def yX5_miss : MethodName := ⟨RX5, "miss", "(I)V"⟩
abbrev cX5_state : ByteArray := prog_7_method_12_code
def yX5_state : MethodName := ⟨RX5, "state", "(I)I"⟩
abbrev cX5_stepOf : ByteArray := prog_7_method_13_code
def yX5_stepOf : MethodName := ⟨RX5, "stepOf", "(I)I"⟩
abbrev cX5_counted : ByteArray := prog_7_method_14_code
def yX5_counted : MethodName := ⟨RX5, "counted", "(I)J"⟩
abbrev cX5_failed : ByteArray := prog_7_method_15_code
def yX5_failed : MethodName := ⟨RX5, "failed", "(I)I"⟩
abbrev cX5_cleaner : ByteArray := prog_7_method_16_code
def yX5_cleaner : MethodName := ⟨RX5, "cleaner", "(II)D"⟩
abbrev cX5_interface2 : ByteArray := prog_7_method_17_code
def yX5_interface2 : MethodName := ⟨RX5, "interface2", "(IDI)Z"⟩
abbrev cX5_level : ByteArray := prog_7_method_18_code
def yX5_level : MethodName := ⟨RX5, "level", "(I)I"⟩
abbrev cX5_breakOff : ByteArray := prog_7_method_19_code
def yX5_breakOff : MethodName := ⟨RX5, "breakOff", "(I)Z"⟩
abbrev cX5_record : ByteArray := prog_7_method_20_code
def yX5_record : MethodName := ⟨RX5, "record", "(III)I"⟩
abbrev cX5_states : ByteArray := prog_7_method_21_code
def yX5_states : MethodName := ⟨RX5, "states", "()I"⟩
def RL : String := "CleanRunsLaw"
abbrev cL_law : ByteArray := code
def yL_law : MethodName := ⟨RL, "law", "([I)Z"⟩
def wsX0_init : List Cond := .code yX0_init cX0_init 1 none :: ([.methodLink RX0 3 objectInit, .instanceMethod objectInit, .code objectInit ⟨#[0xb1]⟩ 1 none, .classLink RX0 9 RX3, .fieldLink RX0 11 "CleanRuns$Recipe" "steps" "[LCleanRuns$Step;", .fieldLink RX0 17 "CleanRuns$Recipe" "size" "I", .fieldLink RX0 21 "CleanRuns$Recipe" "begun" "Z"] ++ wsX00)
def wsX0_takesAStep : List Cond := .code yX0_takesAStep cX0_takesAStep 1 (some .boolean) :: ([.fieldLink RX0 21 "CleanRuns$Recipe" "begun" "Z", .fieldLink RX0 17 "CleanRuns$Recipe" "size" "I", .fieldLink RX0 11 "CleanRuns$Recipe" "steps" "[LCleanRuns$Step;"] ++ wsX00)
def wsX0_append : List Cond := .code yX0_append cX0_append 2 none :: ([.fieldLink RX0 17 "CleanRuns$Recipe" "size" "I", .fieldLink RX0 11 "CleanRuns$Recipe" "steps" "[LCleanRuns$Step;"] ++ wsX00)
def wsX0_stepAt : List Cond := .code yX0_stepAt cX0_stepAt 2 (some (.object "CleanRuns$Step")) :: ([.fieldLink RX0 17 "CleanRuns$Recipe" "size" "I", .fieldLink RX0 11 "CleanRuns$Recipe" "steps" "[LCleanRuns$Step;"] ++ wsX00)
def wsX2_init : List Cond := .code yX2_init cX2_init 3 none :: ([.methodLink RX2 3 objectInit, .instanceMethod objectInit, .code objectInit ⟨#[0xb1]⟩ 1 none, .fieldLink RX2 9 "CleanRuns$Stay" "step" "LCleanRuns$Step;", .fieldLink RX2 15 "CleanRuns$Stay" "firstSecond" "I", .fieldLink RX2 19 "CleanRuns$Stay" "endSecond" "I", .fieldLink RX2 22 "CleanRuns$Stay" "waited" "I", .fieldLink RX2 25 "CleanRuns$Stay" "counted" "I", .fieldLink RX2 28 "CleanRuns$Stay" "missed" "I", .fieldLink RX2 31 "CleanRuns$Stay" "failures" "I"] ++ wsX20)
def wsX1_init_r1 : List Cond := [Cond.methodLink RX1 3 objectInit, Cond.instanceMethod objectInit, Cond.code objectInit ⟨#[0xb1]⟩ 1 none, Cond.fieldLink RX1 9 "CleanRuns$Run" "recipe" "LCleanRuns$Recipe;", Cond.fieldLink RX1 15 "CleanRuns$Run" "goal" "I", Cond.classLink RX1 19 RX2, Cond.fieldLink RX1 21 "CleanRuns$Run" "stays" "[LCleanRuns$Stay;", Cond.instantiable RX2 7, Cond.initialized RX2, Cond.fieldLink RX1 28 "CleanRuns$Run" "current" "LCleanRuns$Stay;", Cond.fieldLink RX1 32 "CleanRuns$Run" "begunSteps" "I", Cond.fieldLink RX1 35 "CleanRuns$Run" "state" "I", Cond.fieldLink RX1 38 "CleanRuns$Run" "second" "I", Cond.fieldLink RX1 41 "CleanRuns$Run" "failures" "I", Cond.fieldLink RX1 44 "CleanRuns$Run" "hasInterface" "Z", Cond.fieldLink RX1 48 "CleanRuns$Run" "interfaceValue" "D", Cond.fieldLink RX1 52 "CleanRuns$Run" "interfaceHold" "I", Cond.fieldLink RX1 55 "CleanRuns$Run" "water" "D", Cond.fieldLink RX1 58 "CleanRuns$Run" "out" "D", Cond.fieldLink RX1 61 "CleanRuns$Run" "back" "D", Cond.methodLink RX1 25 yX2_init, Cond.instanceMethod yX2_init, Cond.code yX2_init cX2_init 3 none, Cond.methodLink RX2 3 objectInit]
def wsX1_init_r2 : List Cond := [Cond.fieldLink RX2 9 "CleanRuns$Stay" "step" "LCleanRuns$Step;", Cond.fieldLink RX2 15 "CleanRuns$Stay" "firstSecond" "I", Cond.fieldLink RX2 19 "CleanRuns$Stay" "endSecond" "I", Cond.fieldLink RX2 22 "CleanRuns$Stay" "waited" "I", Cond.fieldLink RX2 25 "CleanRuns$Stay" "counted" "I", Cond.fieldLink RX2 28 "CleanRuns$Stay" "missed" "I", Cond.fieldLink RX2 31 "CleanRuns$Stay" "failures" "I"]
def wsX1_init : List Cond := .code yX1_init cX1_init 4 none :: ((wsX1_init_r1 ++ wsX1_init_r2) ++ wsX10 ++ wsX20)
def wsX1_isOver : List Cond := .code yX1_isOver cX1_isOver 1 (some .boolean) :: ([.fieldLink RX1 35 "CleanRuns$Run" "state" "I"] ++ wsX10)
def wsX1_stayAt : List Cond := .code yX1_stayAt cX1_stayAt 2 (some (.object "CleanRuns$Stay")) :: ([.fieldLink RX1 32 "CleanRuns$Run" "begunSteps" "I", .fieldLink RX1 21 "CleanRuns$Run" "stays" "[LCleanRuns$Stay;"] ++ wsX10)
def wsX1_used : List Cond := .code yX1_used cX1_used 2 (some .double) :: ([.fieldLink RX1 55 "CleanRuns$Run" "water" "D", .fieldLink RX1 58 "CleanRuns$Run" "out" "D", .fieldLink RX1 61 "CleanRuns$Run" "back" "D", .constantDouble RX1 64 (4652007308841189376), .constantDouble RX1 66 (13830554455654793216)] ++ wsX10)
def wsX1_setInterface : List Cond := .code yX1_setInterface cX1_setInterface 4 none :: ([.fieldLink RX1 44 "CleanRuns$Run" "hasInterface" "Z", .fieldLink RX1 48 "CleanRuns$Run" "interfaceValue" "D", .fieldLink RX1 52 "CleanRuns$Run" "interfaceHold" "I"] ++ wsX10)
def wsX3_holds : List Cond := .code yX3_holds cX3_holds 7 (some .boolean) :: ([.fieldLink RX3 9 "CleanRuns$Step" "kind" "I", .fieldLink RX3 18 "CleanRuns$Step" "strength" "D", .fieldLink RX3 22 "CleanRuns$Step" "degrees" "D", .constantDouble RX3 25 (4602678819172646912), .constantDouble RX3 27 (4593671619917905920)] ++ wsX30)
def wsX3_usesWater : List Cond := .code yX3_usesWater cX3_usesWater 1 (some .boolean) :: ([.fieldLink RX3 9 "CleanRuns$Step" "kind" "I"] ++ wsX30)
def wsX1_use : List Cond := .code yX1_use cX1_use 4 none :: ([.fieldLink RX1 28 "CleanRuns$Run" "current" "LCleanRuns$Stay;", .fieldLink RX1 72 "CleanRuns$Stay" "step" "LCleanRuns$Step;", .fieldLink RX1 55 "CleanRuns$Run" "water" "D", .fieldLink RX1 58 "CleanRuns$Run" "out" "D", .fieldLink RX1 35 "CleanRuns$Run" "state" "I", .fieldLink RX1 61 "CleanRuns$Run" "back" "D", .constantDouble RX1 99 (4602678819172646912), .methodLink RX1 96 yX3_usesWater, .instanceMethod yX3_usesWater, .selects RX3 yX3_usesWater yX3_usesWater, .initialized RX3, .code yX3_usesWater cX3_usesWater 1 (some .boolean), .fieldLink RX3 9 "CleanRuns$Step" "kind" "I"] ++ wsX10 ++ wsX20 ++ wsX30)
def wsX3_passesInterface : List Cond := .code yX3_passesInterface cX3_passesInterface 5 (some .boolean) :: ([.methodLink RX3 29 yX3_usesWater, .instanceMethod yX3_usesWater, .selects RX3 yX3_usesWater yX3_usesWater, .initialized RX3, .code yX3_usesWater cX3_usesWater 1 (some .boolean), .fieldLink RX3 9 "CleanRuns$Step" "kind" "I"] ++ wsX30)
def wsX1_waitASecond : List Cond := .code yX1_waitASecond cX1_waitASecond 3 none :: ([.fieldLink RX1 28 "CleanRuns$Run" "current" "LCleanRuns$Stay;", .fieldLink RX1 72 "CleanRuns$Stay" "step" "LCleanRuns$Step;", .fieldLink RX1 48 "CleanRuns$Run" "interfaceValue" "D", .fieldLink RX1 105 "CleanRuns$Stay" "waited" "I", .fieldLink RX1 52 "CleanRuns$Run" "interfaceHold" "I", .fieldLink RX1 35 "CleanRuns$Run" "state" "I", .methodLink RX1 101 yX3_passesInterface, .instanceMethod yX3_passesInterface, .selects RX3 yX3_passesInterface yX3_passesInterface, .initialized RX3, .code yX3_passesInterface cX3_passesInterface 5 (some .boolean), .methodLink RX3 29 yX3_usesWater, .instanceMethod yX3_usesWater, .selects RX3 yX3_usesWater yX3_usesWater, .code yX3_usesWater cX3_usesWater 1 (some .boolean), .fieldLink RX3 9 "CleanRuns$Step" "kind" "I"] ++ wsX10 ++ wsX20 ++ wsX30)
def wsX1_end : List Cond := .code yX1_end cX1_end 2 none :: ([.fieldLink RX1 28 "CleanRuns$Run" "current" "LCleanRuns$Stay;", .fieldLink RX1 38 "CleanRuns$Run" "second" "I", .fieldLink RX1 127 "CleanRuns$Stay" "endSecond" "I", .fieldLink RX1 35 "CleanRuns$Run" "state" "I"] ++ wsX10 ++ wsX20)
def wsX1_begin : List Cond := .code yX1_begin cX1_begin 2 none :: ([.fieldLink RX1 32 "CleanRuns$Run" "begunSteps" "I", .fieldLink RX1 21 "CleanRuns$Run" "stays" "[LCleanRuns$Stay;", .classLink RX1 19 RX2, .instantiable RX2 7, .initialized RX2, .fieldLink RX1 38 "CleanRuns$Run" "second" "I", .fieldLink RX1 28 "CleanRuns$Run" "current" "LCleanRuns$Stay;", .fieldLink RX1 44 "CleanRuns$Run" "hasInterface" "Z", .fieldLink RX1 35 "CleanRuns$Run" "state" "I", .methodLink RX1 25 yX2_init, .instanceMethod yX2_init, .code yX2_init cX2_init 3 none, .methodLink RX2 3 objectInit, .instanceMethod objectInit, .code objectInit ⟨#[0xb1]⟩ 1 none, .fieldLink RX2 9 "CleanRuns$Stay" "step" "LCleanRuns$Step;", .fieldLink RX2 15 "CleanRuns$Stay" "firstSecond" "I", .fieldLink RX2 19 "CleanRuns$Stay" "endSecond" "I", .fieldLink RX2 22 "CleanRuns$Stay" "waited" "I", .fieldLink RX2 25 "CleanRuns$Stay" "counted" "I", .fieldLink RX2 28 "CleanRuns$Stay" "missed" "I", .fieldLink RX2 31 "CleanRuns$Stay" "failures" "I"] ++ wsX10 ++ wsX20)
def wsX1_countASecond_r1 : List Cond := [Cond.fieldLink RX1 28 "CleanRuns$Run" "current" "LCleanRuns$Stay;", Cond.fieldLink RX1 108 "CleanRuns$Stay" "missed" "I", Cond.fieldLink RX1 111 "CleanRuns$Stay" "counted" "I", Cond.fieldLink RX1 72 "CleanRuns$Stay" "step" "LCleanRuns$Step;", Cond.fieldLink RX1 114 "CleanRuns$Step" "seconds" "I", Cond.fieldLink RX1 9 "CleanRuns$Run" "recipe" "LCleanRuns$Recipe;", Cond.fieldLink RX1 32 "CleanRuns$Run" "begunSteps" "I", Cond.fieldLink RX1 38 "CleanRuns$Run" "second" "I", Cond.fieldLink RX1 127 "CleanRuns$Stay" "endSecond" "I", Cond.methodLink RX1 117 yX0_stepAt, Cond.instanceMethod yX0_stepAt, Cond.selects RX0 yX0_stepAt yX0_stepAt, Cond.initialized RX0, Cond.code yX0_stepAt cX0_stepAt 2 (some (.object "CleanRuns$Step")), Cond.fieldLink RX0 17 "CleanRuns$Recipe" "size" "I", Cond.fieldLink RX0 11 "CleanRuns$Recipe" "steps" "[LCleanRuns$Step;", Cond.methodLink RX1 123 yX1_end, Cond.instanceMethod yX1_end, Cond.selects RX1 yX1_end yX1_end, Cond.initialized RX1, Cond.code yX1_end cX1_end 2 none, Cond.fieldLink RX1 35 "CleanRuns$Run" "state" "I", Cond.methodLink RX1 130 yX1_begin, Cond.instanceMethod yX1_begin]
def wsX1_countASecond_r2 : List Cond := [Cond.selects RX1 yX1_begin yX1_begin, Cond.code yX1_begin cX1_begin 2 none, Cond.fieldLink RX1 21 "CleanRuns$Run" "stays" "[LCleanRuns$Stay;", Cond.classLink RX1 19 RX2, Cond.instantiable RX2 7, Cond.initialized RX2, Cond.fieldLink RX1 44 "CleanRuns$Run" "hasInterface" "Z", Cond.methodLink RX1 25 yX2_init, Cond.instanceMethod yX2_init, Cond.code yX2_init cX2_init 3 none, Cond.methodLink RX2 3 objectInit, Cond.instanceMethod objectInit, Cond.code objectInit ⟨#[0xb1]⟩ 1 none, Cond.fieldLink RX2 9 "CleanRuns$Stay" "step" "LCleanRuns$Step;", Cond.fieldLink RX2 15 "CleanRuns$Stay" "firstSecond" "I", Cond.fieldLink RX2 19 "CleanRuns$Stay" "endSecond" "I", Cond.fieldLink RX2 22 "CleanRuns$Stay" "waited" "I", Cond.fieldLink RX2 25 "CleanRuns$Stay" "counted" "I", Cond.fieldLink RX2 28 "CleanRuns$Stay" "missed" "I", Cond.fieldLink RX2 31 "CleanRuns$Stay" "failures" "I"]
def wsX1_countASecond : List Cond := .code yX1_countASecond cX1_countASecond 2 none :: ((wsX1_countASecond_r1 ++ wsX1_countASecond_r2) ++ wsX10 ++ wsX20 ++ wsX30 ++ wsX00)
def wsX1_missASecond : List Cond := .code yX1_missASecond cX1_missASecond 1 none :: ([.fieldLink RX1 28 "CleanRuns$Run" "current" "LCleanRuns$Stay;", .fieldLink RX1 108 "CleanRuns$Stay" "missed" "I", .fieldLink RX1 41 "CleanRuns$Run" "failures" "I", .fieldLink RX1 134 "CleanRuns$Stay" "failures" "I", .fieldLink RX1 111 "CleanRuns$Stay" "counted" "I", .methodLink RX1 123 yX1_end, .instanceMethod yX1_end, .selects RX1 yX1_end yX1_end, .initialized RX1, .code yX1_end cX1_end 2 none, .fieldLink RX1 38 "CleanRuns$Run" "second" "I", .fieldLink RX1 127 "CleanRuns$Stay" "endSecond" "I", .fieldLink RX1 35 "CleanRuns$Run" "state" "I"] ++ wsX10 ++ wsX20)
def wsX1_passSecond_r1 : List Cond := [Cond.fieldLink RX1 28 "CleanRuns$Run" "current" "LCleanRuns$Stay;", Cond.fieldLink RX1 72 "CleanRuns$Stay" "step" "LCleanRuns$Step;", Cond.fieldLink RX1 38 "CleanRuns$Run" "second" "I", Cond.fieldLink RX1 35 "CleanRuns$Run" "state" "I", Cond.methodLink RX1 68 yX1_isOver, Cond.instanceMethod yX1_isOver, Cond.selects RX1 yX1_isOver yX1_isOver, Cond.initialized RX1, Cond.code yX1_isOver cX1_isOver 1 (some .boolean), Cond.methodLink RX1 76 yX3_holds, Cond.instanceMethod yX3_holds, Cond.selects RX3 yX3_holds yX3_holds, Cond.initialized RX3, Cond.code yX3_holds cX3_holds 7 (some .boolean), Cond.fieldLink RX3 9 "CleanRuns$Step" "kind" "I", Cond.fieldLink RX3 18 "CleanRuns$Step" "strength" "D", Cond.fieldLink RX3 22 "CleanRuns$Step" "degrees" "D", Cond.constantDouble RX3 25 (4602678819172646912), Cond.constantDouble RX3 27 (4593671619917905920), Cond.methodLink RX1 82 yX1_use, Cond.instanceMethod yX1_use, Cond.selects RX1 yX1_use yX1_use, Cond.code yX1_use cX1_use 4 none, Cond.fieldLink RX1 55 "CleanRuns$Run" "water" "D"]
def wsX1_passSecond_r2 : List Cond := [Cond.fieldLink RX1 58 "CleanRuns$Run" "out" "D", Cond.fieldLink RX1 61 "CleanRuns$Run" "back" "D", Cond.constantDouble RX1 99 (4602678819172646912), Cond.methodLink RX1 96 yX3_usesWater, Cond.instanceMethod yX3_usesWater, Cond.selects RX3 yX3_usesWater yX3_usesWater, Cond.code yX3_usesWater cX3_usesWater 1 (some .boolean), Cond.methodLink RX1 86 yX1_waitASecond, Cond.instanceMethod yX1_waitASecond, Cond.selects RX1 yX1_waitASecond yX1_waitASecond, Cond.code yX1_waitASecond cX1_waitASecond 3 none, Cond.fieldLink RX1 48 "CleanRuns$Run" "interfaceValue" "D", Cond.fieldLink RX1 105 "CleanRuns$Stay" "waited" "I", Cond.fieldLink RX1 52 "CleanRuns$Run" "interfaceHold" "I", Cond.methodLink RX1 101 yX3_passesInterface, Cond.instanceMethod yX3_passesInterface, Cond.selects RX3 yX3_passesInterface yX3_passesInterface, Cond.code yX3_passesInterface cX3_passesInterface 5 (some .boolean), Cond.methodLink RX3 29 yX3_usesWater, Cond.methodLink RX1 90 yX1_countASecond, Cond.instanceMethod yX1_countASecond, Cond.selects RX1 yX1_countASecond yX1_countASecond, Cond.code yX1_countASecond cX1_countASecond 2 none, Cond.fieldLink RX1 108 "CleanRuns$Stay" "missed" "I"]
def wsX1_passSecond_r3 : List Cond := [Cond.fieldLink RX1 111 "CleanRuns$Stay" "counted" "I", Cond.fieldLink RX1 114 "CleanRuns$Step" "seconds" "I", Cond.fieldLink RX1 9 "CleanRuns$Run" "recipe" "LCleanRuns$Recipe;", Cond.fieldLink RX1 32 "CleanRuns$Run" "begunSteps" "I", Cond.fieldLink RX1 127 "CleanRuns$Stay" "endSecond" "I", Cond.methodLink RX1 117 yX0_stepAt, Cond.instanceMethod yX0_stepAt, Cond.selects RX0 yX0_stepAt yX0_stepAt, Cond.initialized RX0, Cond.code yX0_stepAt cX0_stepAt 2 (some (.object "CleanRuns$Step")), Cond.fieldLink RX0 17 "CleanRuns$Recipe" "size" "I", Cond.fieldLink RX0 11 "CleanRuns$Recipe" "steps" "[LCleanRuns$Step;", Cond.methodLink RX1 123 yX1_end, Cond.instanceMethod yX1_end, Cond.selects RX1 yX1_end yX1_end, Cond.code yX1_end cX1_end 2 none, Cond.methodLink RX1 130 yX1_begin, Cond.instanceMethod yX1_begin, Cond.selects RX1 yX1_begin yX1_begin, Cond.code yX1_begin cX1_begin 2 none, Cond.fieldLink RX1 21 "CleanRuns$Run" "stays" "[LCleanRuns$Stay;", Cond.classLink RX1 19 RX2, Cond.instantiable RX2 7, Cond.initialized RX2]
def wsX1_passSecond_r4 : List Cond := [Cond.fieldLink RX1 44 "CleanRuns$Run" "hasInterface" "Z", Cond.methodLink RX1 25 yX2_init, Cond.instanceMethod yX2_init, Cond.code yX2_init cX2_init 3 none, Cond.methodLink RX2 3 objectInit, Cond.instanceMethod objectInit, Cond.code objectInit ⟨#[0xb1]⟩ 1 none, Cond.fieldLink RX2 9 "CleanRuns$Stay" "step" "LCleanRuns$Step;", Cond.fieldLink RX2 15 "CleanRuns$Stay" "firstSecond" "I", Cond.fieldLink RX2 19 "CleanRuns$Stay" "endSecond" "I", Cond.fieldLink RX2 22 "CleanRuns$Stay" "waited" "I", Cond.fieldLink RX2 25 "CleanRuns$Stay" "counted" "I", Cond.fieldLink RX2 28 "CleanRuns$Stay" "missed" "I", Cond.fieldLink RX2 31 "CleanRuns$Stay" "failures" "I", Cond.methodLink RX1 93 yX1_missASecond, Cond.instanceMethod yX1_missASecond, Cond.selects RX1 yX1_missASecond yX1_missASecond, Cond.code yX1_missASecond cX1_missASecond 1 none, Cond.fieldLink RX1 41 "CleanRuns$Run" "failures" "I", Cond.fieldLink RX1 134 "CleanRuns$Stay" "failures" "I"]
def wsX1_passSecond : List Cond := .code yX1_passSecond cX1_passSecond 8 none :: ((wsX1_passSecond_r1 ++ (wsX1_passSecond_r2 ++ (wsX1_passSecond_r3 ++ wsX1_passSecond_r4))) ++ wsX10 ++ wsX20 ++ wsX30 ++ wsX00)
def wsX2_told : List Cond := .code yX2_told cX2_told 2 (some .int) :: ([.fieldLink RX2 9 "CleanRuns$Stay" "step" "LCleanRuns$Step;", .fieldLink RX2 34 "CleanRuns$Step" "kind" "I", .fieldLink RX2 31 "CleanRuns$Stay" "failures" "I", .fieldLink RX2 15 "CleanRuns$Stay" "firstSecond" "I", .fieldLink RX2 19 "CleanRuns$Stay" "endSecond" "I"] ++ wsX20 ++ wsX30)
def wsX3_init : List Cond := .code yX3_init cX3_init 7 none :: ([.methodLink RX3 3 objectInit, .instanceMethod objectInit, .code objectInit ⟨#[0xb1]⟩ 1 none, .fieldLink RX3 9 "CleanRuns$Step" "kind" "I", .fieldLink RX3 15 "CleanRuns$Step" "seconds" "I", .fieldLink RX3 18 "CleanRuns$Step" "strength" "D", .fieldLink RX3 22 "CleanRuns$Step" "degrees" "D"] ++ wsX30)
def wsX4_init : List Cond := .code yX4_init cX4_init 1 none :: ([.methodLink RX4 1 objectInit, .instanceMethod objectInit, .code objectInit ⟨#[0xb1]⟩ 1 none, .classLink RX4 9 RX0, .fieldLink RX4 11 "CleanRuns" "recipes" "[LCleanRuns$Recipe;", .classLink RX4 15 RX1, .fieldLink RX4 17 "CleanRuns" "runs" "[LCleanRuns$Run;", .fieldLink RX4 21 "CleanRuns" "recipeCount" "I", .fieldLink RX4 25 "CleanRuns" "runCount" "I"] ++ wsX40)
def wsX4_recipe : List Cond := .code yX4_recipe cX4_recipe 2 (some .int) :: ([.fieldLink RX4 21 "CleanRuns" "recipeCount" "I", .fieldLink RX4 11 "CleanRuns" "recipes" "[LCleanRuns$Recipe;", .classLink RX4 9 RX0, .instantiable RX0 3, .initialized RX0, .methodLink RX4 28 yX0_init, .instanceMethod yX0_init, .code yX0_init cX0_init 1 none, .methodLink RX0 3 objectInit, .instanceMethod objectInit, .code objectInit ⟨#[0xb1]⟩ 1 none, .classLink RX0 9 RX3, .fieldLink RX0 11 "CleanRuns$Recipe" "steps" "[LCleanRuns$Step;", .fieldLink RX0 17 "CleanRuns$Recipe" "size" "I", .fieldLink RX0 21 "CleanRuns$Recipe" "begun" "Z"] ++ wsX40 ++ wsX00)
def wsX4_recipeAt : List Cond := .code yX4_recipeAt cX4_recipeAt 2 (some (.object "CleanRuns$Recipe")) :: ([.fieldLink RX4 21 "CleanRuns" "recipeCount" "I", .fieldLink RX4 11 "CleanRuns" "recipes" "[LCleanRuns$Recipe;"] ++ wsX40)
def wsX4_within : List Cond := .code yX4_within cX4_within 6 (some .boolean) :: ([])
def wsX4_step_r1 : List Cond := [Cond.constantDouble RX4 37 (4636737291354636288), Cond.constantDouble RX4 43 (4639481672377565184), Cond.classLink RX4 45 RX3, Cond.instantiable RX3 4, Cond.initialized RX3, Cond.methodLink RX4 29 yX4_recipeAt, Cond.instanceMethod yX4_recipeAt, Cond.selects RX4 yX4_recipeAt yX4_recipeAt, Cond.initialized RX4, Cond.code yX4_recipeAt cX4_recipeAt 2 (some (.object "CleanRuns$Recipe")), Cond.fieldLink RX4 21 "CleanRuns" "recipeCount" "I", Cond.fieldLink RX4 11 "CleanRuns" "recipes" "[LCleanRuns$Recipe;", Cond.methodLink RX4 33 yX0_takesAStep, Cond.instanceMethod yX0_takesAStep, Cond.selects RX0 yX0_takesAStep yX0_takesAStep, Cond.initialized RX0, Cond.code yX0_takesAStep cX0_takesAStep 1 (some .boolean), Cond.fieldLink RX0 21 "CleanRuns$Recipe" "begun" "Z", Cond.fieldLink RX0 17 "CleanRuns$Recipe" "size" "I", Cond.fieldLink RX0 11 "CleanRuns$Recipe" "steps" "[LCleanRuns$Step;", Cond.methodLink RX4 39 yX4_within, Cond.static yX4_within, Cond.code yX4_within cX4_within 6 (some .boolean), Cond.methodLink RX4 47 yX3_init]
def wsX4_step_r2 : List Cond := [Cond.instanceMethod yX3_init, Cond.code yX3_init cX3_init 7 none, Cond.methodLink RX3 3 objectInit, Cond.instanceMethod objectInit, Cond.code objectInit ⟨#[0xb1]⟩ 1 none, Cond.fieldLink RX3 9 "CleanRuns$Step" "kind" "I", Cond.fieldLink RX3 15 "CleanRuns$Step" "seconds" "I", Cond.fieldLink RX3 18 "CleanRuns$Step" "strength" "D", Cond.fieldLink RX3 22 "CleanRuns$Step" "degrees" "D", Cond.methodLink RX4 50 yX0_append, Cond.instanceMethod yX0_append, Cond.selects RX0 yX0_append yX0_append, Cond.code yX0_append cX0_append 2 none]
def wsX4_step : List Cond := .code yX4_step cX4_step 9 (some .boolean) :: ((wsX4_step_r1 ++ wsX4_step_r2) ++ wsX30 ++ wsX40 ++ wsX00)
def wsX4_start_r1 : List Cond := [Cond.fieldLink RX4 25 "CleanRuns" "runCount" "I", Cond.fieldLink RX4 17 "CleanRuns" "runs" "[LCleanRuns$Run;", Cond.classLink RX4 15 RX1, Cond.instantiable RX1 14, Cond.initialized RX1, Cond.fieldLink RX4 61 "CleanRuns$Recipe" "begun" "Z", Cond.methodLink RX4 29 yX4_recipeAt, Cond.instanceMethod yX4_recipeAt, Cond.selects RX4 yX4_recipeAt yX4_recipeAt, Cond.initialized RX4, Cond.code yX4_recipeAt cX4_recipeAt 2 (some (.object "CleanRuns$Recipe")), Cond.fieldLink RX4 21 "CleanRuns" "recipeCount" "I", Cond.fieldLink RX4 11 "CleanRuns" "recipes" "[LCleanRuns$Recipe;", Cond.methodLink RX4 54 yX0_stepAt, Cond.instanceMethod yX0_stepAt, Cond.selects RX0 yX0_stepAt yX0_stepAt, Cond.initialized RX0, Cond.code yX0_stepAt cX0_stepAt 2 (some (.object "CleanRuns$Step")), Cond.fieldLink RX0 17 "CleanRuns$Recipe" "size" "I", Cond.fieldLink RX0 11 "CleanRuns$Recipe" "steps" "[LCleanRuns$Step;", Cond.methodLink RX4 58 yX1_init, Cond.instanceMethod yX1_init, Cond.code yX1_init cX1_init 4 none, Cond.methodLink RX1 3 objectInit]
def wsX4_start_r2 : List Cond := [Cond.instanceMethod objectInit, Cond.code objectInit ⟨#[0xb1]⟩ 1 none, Cond.fieldLink RX1 9 "CleanRuns$Run" "recipe" "LCleanRuns$Recipe;", Cond.fieldLink RX1 15 "CleanRuns$Run" "goal" "I", Cond.classLink RX1 19 RX2, Cond.fieldLink RX1 21 "CleanRuns$Run" "stays" "[LCleanRuns$Stay;", Cond.instantiable RX2 7, Cond.initialized RX2, Cond.fieldLink RX1 28 "CleanRuns$Run" "current" "LCleanRuns$Stay;", Cond.fieldLink RX1 32 "CleanRuns$Run" "begunSteps" "I", Cond.fieldLink RX1 35 "CleanRuns$Run" "state" "I", Cond.fieldLink RX1 38 "CleanRuns$Run" "second" "I", Cond.fieldLink RX1 41 "CleanRuns$Run" "failures" "I", Cond.fieldLink RX1 44 "CleanRuns$Run" "hasInterface" "Z", Cond.fieldLink RX1 48 "CleanRuns$Run" "interfaceValue" "D", Cond.fieldLink RX1 52 "CleanRuns$Run" "interfaceHold" "I", Cond.fieldLink RX1 55 "CleanRuns$Run" "water" "D", Cond.fieldLink RX1 58 "CleanRuns$Run" "out" "D", Cond.fieldLink RX1 61 "CleanRuns$Run" "back" "D", Cond.methodLink RX1 25 yX2_init, Cond.instanceMethod yX2_init, Cond.code yX2_init cX2_init 3 none, Cond.methodLink RX2 3 objectInit, Cond.fieldLink RX2 9 "CleanRuns$Stay" "step" "LCleanRuns$Step;"]
def wsX4_start_r3 : List Cond := [Cond.fieldLink RX2 15 "CleanRuns$Stay" "firstSecond" "I", Cond.fieldLink RX2 19 "CleanRuns$Stay" "endSecond" "I", Cond.fieldLink RX2 22 "CleanRuns$Stay" "waited" "I", Cond.fieldLink RX2 25 "CleanRuns$Stay" "counted" "I", Cond.fieldLink RX2 28 "CleanRuns$Stay" "missed" "I", Cond.fieldLink RX2 31 "CleanRuns$Stay" "failures" "I"]
def wsX4_start : List Cond := .code yX4_start cX4_start 6 (some .int) :: ((wsX4_start_r1 ++ (wsX4_start_r2 ++ wsX4_start_r3)) ++ wsX40 ++ wsX10 ++ wsX00 ++ wsX20)
def wsX4_runAt : List Cond := .code yX4_runAt cX4_runAt 2 (some (.object "CleanRuns$Run")) :: ([.fieldLink RX4 25 "CleanRuns" "runCount" "I", .fieldLink RX4 17 "CleanRuns" "runs" "[LCleanRuns$Run;"] ++ wsX40)
def wsX4_tick_r1 : List Cond := [Cond.constantDouble RX4 69 (4652007308841189376), Cond.constantDouble RX4 71 (13855605728582041600), Cond.constantDouble RX4 73 (4641240890982006784), Cond.fieldLink RX4 79 "CleanRuns$Run" "state" "I", Cond.methodLink RX4 65 yX4_runAt, Cond.instanceMethod yX4_runAt, Cond.selects RX4 yX4_runAt yX4_runAt, Cond.initialized RX4, Cond.code yX4_runAt cX4_runAt 2 (some (.object "CleanRuns$Run")), Cond.fieldLink RX4 25 "CleanRuns" "runCount" "I", Cond.fieldLink RX4 17 "CleanRuns" "runs" "[LCleanRuns$Run;", Cond.methodLink RX4 39 yX4_within, Cond.static yX4_within, Cond.code yX4_within cX4_within 6 (some .boolean), Cond.methodLink RX4 75 yX1_passSecond, Cond.instanceMethod yX1_passSecond, Cond.selects RX1 yX1_passSecond yX1_passSecond, Cond.initialized RX1, Cond.code yX1_passSecond cX1_passSecond 8 none, Cond.fieldLink RX1 28 "CleanRuns$Run" "current" "LCleanRuns$Stay;", Cond.fieldLink RX1 72 "CleanRuns$Stay" "step" "LCleanRuns$Step;", Cond.fieldLink RX1 38 "CleanRuns$Run" "second" "I", Cond.fieldLink RX1 35 "CleanRuns$Run" "state" "I", Cond.methodLink RX1 68 yX1_isOver]
def wsX4_tick_r2 : List Cond := [Cond.instanceMethod yX1_isOver, Cond.selects RX1 yX1_isOver yX1_isOver, Cond.code yX1_isOver cX1_isOver 1 (some .boolean), Cond.methodLink RX1 76 yX3_holds, Cond.instanceMethod yX3_holds, Cond.selects RX3 yX3_holds yX3_holds, Cond.initialized RX3, Cond.code yX3_holds cX3_holds 7 (some .boolean), Cond.fieldLink RX3 9 "CleanRuns$Step" "kind" "I", Cond.fieldLink RX3 18 "CleanRuns$Step" "strength" "D", Cond.fieldLink RX3 22 "CleanRuns$Step" "degrees" "D", Cond.constantDouble RX3 25 (4602678819172646912), Cond.constantDouble RX3 27 (4593671619917905920), Cond.methodLink RX1 82 yX1_use, Cond.instanceMethod yX1_use, Cond.selects RX1 yX1_use yX1_use, Cond.code yX1_use cX1_use 4 none, Cond.fieldLink RX1 55 "CleanRuns$Run" "water" "D", Cond.fieldLink RX1 58 "CleanRuns$Run" "out" "D", Cond.fieldLink RX1 61 "CleanRuns$Run" "back" "D", Cond.constantDouble RX1 99 (4602678819172646912), Cond.methodLink RX1 96 yX3_usesWater, Cond.instanceMethod yX3_usesWater, Cond.selects RX3 yX3_usesWater yX3_usesWater]
def wsX4_tick_r3 : List Cond := [Cond.code yX3_usesWater cX3_usesWater 1 (some .boolean), Cond.methodLink RX1 86 yX1_waitASecond, Cond.instanceMethod yX1_waitASecond, Cond.selects RX1 yX1_waitASecond yX1_waitASecond, Cond.code yX1_waitASecond cX1_waitASecond 3 none, Cond.fieldLink RX1 48 "CleanRuns$Run" "interfaceValue" "D", Cond.fieldLink RX1 105 "CleanRuns$Stay" "waited" "I", Cond.fieldLink RX1 52 "CleanRuns$Run" "interfaceHold" "I", Cond.methodLink RX1 101 yX3_passesInterface, Cond.instanceMethod yX3_passesInterface, Cond.selects RX3 yX3_passesInterface yX3_passesInterface, Cond.code yX3_passesInterface cX3_passesInterface 5 (some .boolean), Cond.methodLink RX3 29 yX3_usesWater, Cond.methodLink RX1 90 yX1_countASecond, Cond.instanceMethod yX1_countASecond, Cond.selects RX1 yX1_countASecond yX1_countASecond, Cond.code yX1_countASecond cX1_countASecond 2 none, Cond.fieldLink RX1 108 "CleanRuns$Stay" "missed" "I", Cond.fieldLink RX1 111 "CleanRuns$Stay" "counted" "I", Cond.fieldLink RX1 114 "CleanRuns$Step" "seconds" "I", Cond.fieldLink RX1 9 "CleanRuns$Run" "recipe" "LCleanRuns$Recipe;", Cond.fieldLink RX1 32 "CleanRuns$Run" "begunSteps" "I", Cond.fieldLink RX1 127 "CleanRuns$Stay" "endSecond" "I", Cond.methodLink RX1 117 yX0_stepAt]
def wsX4_tick_r4 : List Cond := [Cond.instanceMethod yX0_stepAt, Cond.selects RX0 yX0_stepAt yX0_stepAt, Cond.initialized RX0, Cond.code yX0_stepAt cX0_stepAt 2 (some (.object "CleanRuns$Step")), Cond.fieldLink RX0 17 "CleanRuns$Recipe" "size" "I", Cond.fieldLink RX0 11 "CleanRuns$Recipe" "steps" "[LCleanRuns$Step;", Cond.methodLink RX1 123 yX1_end, Cond.instanceMethod yX1_end, Cond.selects RX1 yX1_end yX1_end, Cond.code yX1_end cX1_end 2 none, Cond.methodLink RX1 130 yX1_begin, Cond.instanceMethod yX1_begin, Cond.selects RX1 yX1_begin yX1_begin, Cond.code yX1_begin cX1_begin 2 none, Cond.fieldLink RX1 21 "CleanRuns$Run" "stays" "[LCleanRuns$Stay;", Cond.classLink RX1 19 RX2, Cond.instantiable RX2 7, Cond.initialized RX2, Cond.fieldLink RX1 44 "CleanRuns$Run" "hasInterface" "Z", Cond.methodLink RX1 25 yX2_init, Cond.instanceMethod yX2_init, Cond.code yX2_init cX2_init 3 none, Cond.methodLink RX2 3 objectInit, Cond.instanceMethod objectInit]
def wsX4_tick_r5 : List Cond := [Cond.code objectInit ⟨#[0xb1]⟩ 1 none, Cond.fieldLink RX2 9 "CleanRuns$Stay" "step" "LCleanRuns$Step;", Cond.fieldLink RX2 15 "CleanRuns$Stay" "firstSecond" "I", Cond.fieldLink RX2 19 "CleanRuns$Stay" "endSecond" "I", Cond.fieldLink RX2 22 "CleanRuns$Stay" "waited" "I", Cond.fieldLink RX2 25 "CleanRuns$Stay" "counted" "I", Cond.fieldLink RX2 28 "CleanRuns$Stay" "missed" "I", Cond.fieldLink RX2 31 "CleanRuns$Stay" "failures" "I", Cond.methodLink RX1 93 yX1_missASecond, Cond.instanceMethod yX1_missASecond, Cond.selects RX1 yX1_missASecond yX1_missASecond, Cond.code yX1_missASecond cX1_missASecond 1 none, Cond.fieldLink RX1 41 "CleanRuns$Run" "failures" "I", Cond.fieldLink RX1 134 "CleanRuns$Stay" "failures" "I"]
def wsX4_tick : List Cond := .code yX4_tick cX4_tick 9 (some .int) :: ((wsX4_tick_r1 ++ (wsX4_tick_r2 ++ (wsX4_tick_r3 ++ (wsX4_tick_r4 ++ wsX4_tick_r5)))) ++ wsX10 ++ wsX40 ++ wsX20 ++ wsX30 ++ wsX00)
def wsX4_state : List Cond := .code yX4_state cX4_state 3 (some .int) :: ([.fieldLink RX4 79 "CleanRuns$Run" "state" "I", .methodLink RX4 65 yX4_runAt, .instanceMethod yX4_runAt, .selects RX4 yX4_runAt yX4_runAt, .initialized RX4, .code yX4_runAt cX4_runAt 2 (some (.object "CleanRuns$Run")), .fieldLink RX4 25 "CleanRuns" "runCount" "I", .fieldLink RX4 17 "CleanRuns" "runs" "[LCleanRuns$Run;"] ++ wsX10 ++ wsX40)
def wsX4_stepOf : List Cond := .code yX4_stepOf cX4_stepOf 3 (some .int) :: ([.fieldLink RX4 82 "CleanRuns$Run" "begunSteps" "I", .methodLink RX4 65 yX4_runAt, .instanceMethod yX4_runAt, .selects RX4 yX4_runAt yX4_runAt, .initialized RX4, .code yX4_runAt cX4_runAt 2 (some (.object "CleanRuns$Run")), .fieldLink RX4 25 "CleanRuns" "runCount" "I", .fieldLink RX4 17 "CleanRuns" "runs" "[LCleanRuns$Run;"] ++ wsX10 ++ wsX40)
def wsX4_counted : List Cond := .code yX4_counted cX4_counted 3 (some .long) :: ([.constantLong RX4 85 (-1), .fieldLink RX4 87 "CleanRuns$Run" "current" "LCleanRuns$Stay;", .fieldLink RX4 91 "CleanRuns$Stay" "counted" "I", .methodLink RX4 65 yX4_runAt, .instanceMethod yX4_runAt, .selects RX4 yX4_runAt yX4_runAt, .initialized RX4, .code yX4_runAt cX4_runAt 2 (some (.object "CleanRuns$Run")), .fieldLink RX4 25 "CleanRuns" "runCount" "I", .fieldLink RX4 17 "CleanRuns" "runs" "[LCleanRuns$Run;"] ++ wsX10 ++ wsX20 ++ wsX40)
def wsX4_failed : List Cond := .code yX4_failed cX4_failed 3 (some .int) :: ([.fieldLink RX4 96 "CleanRuns$Run" "failures" "I", .methodLink RX4 65 yX4_runAt, .instanceMethod yX4_runAt, .selects RX4 yX4_runAt yX4_runAt, .initialized RX4, .code yX4_runAt cX4_runAt 2 (some (.object "CleanRuns$Run")), .fieldLink RX4 25 "CleanRuns" "runCount" "I", .fieldLink RX4 17 "CleanRuns" "runs" "[LCleanRuns$Run;"] ++ wsX10 ++ wsX40)
def wsX4_cleaner : List Cond := .code yX4_cleaner cX4_cleaner 4 (some .double) :: ([.constantDouble RX4 99 (13830554455654793216), .methodLink RX4 65 yX4_runAt, .instanceMethod yX4_runAt, .selects RX4 yX4_runAt yX4_runAt, .initialized RX4, .code yX4_runAt cX4_runAt 2 (some (.object "CleanRuns$Run")), .fieldLink RX4 25 "CleanRuns" "runCount" "I", .fieldLink RX4 17 "CleanRuns" "runs" "[LCleanRuns$Run;", .methodLink RX4 101 yX1_used, .instanceMethod yX1_used, .selects RX1 yX1_used yX1_used, .initialized RX1, .code yX1_used cX1_used 2 (some .double), .fieldLink RX1 55 "CleanRuns$Run" "water" "D", .fieldLink RX1 58 "CleanRuns$Run" "out" "D", .fieldLink RX1 61 "CleanRuns$Run" "back" "D", .constantDouble RX1 64 (4652007308841189376), .constantDouble RX1 66 (13830554455654793216)] ++ wsX40 ++ wsX10)
def wsX4_interface2 : List Cond := .code yX4_interface2 cX4_interface2 6 (some .boolean) :: ([.constantDouble RX4 37 (4636737291354636288), .methodLink RX4 65 yX4_runAt, .instanceMethod yX4_runAt, .selects RX4 yX4_runAt yX4_runAt, .initialized RX4, .code yX4_runAt cX4_runAt 2 (some (.object "CleanRuns$Run")), .fieldLink RX4 25 "CleanRuns" "runCount" "I", .fieldLink RX4 17 "CleanRuns" "runs" "[LCleanRuns$Run;", .methodLink RX4 105 yX1_isOver, .instanceMethod yX1_isOver, .selects RX1 yX1_isOver yX1_isOver, .initialized RX1, .code yX1_isOver cX1_isOver 1 (some .boolean), .fieldLink RX1 35 "CleanRuns$Run" "state" "I", .methodLink RX4 39 yX4_within, .static yX4_within, .code yX4_within cX4_within 6 (some .boolean), .methodLink RX4 108 yX1_setInterface, .instanceMethod yX1_setInterface, .selects RX1 yX1_setInterface yX1_setInterface, .code yX1_setInterface cX1_setInterface 4 none, .fieldLink RX1 44 "CleanRuns$Run" "hasInterface" "Z", .fieldLink RX1 48 "CleanRuns$Run" "interfaceValue" "D", .fieldLink RX1 52 "CleanRuns$Run" "interfaceHold" "I"] ++ wsX40 ++ wsX10)
def wsX4_level : List Cond := .code yX4_level cX4_level 3 (some .int) :: ([.fieldLink RX4 79 "CleanRuns$Run" "state" "I", .fieldLink RX4 112 "CleanRuns$Run" "goal" "I", .methodLink RX4 65 yX4_runAt, .instanceMethod yX4_runAt, .selects RX4 yX4_runAt yX4_runAt, .initialized RX4, .code yX4_runAt cX4_runAt 2 (some (.object "CleanRuns$Run")), .fieldLink RX4 25 "CleanRuns" "runCount" "I", .fieldLink RX4 17 "CleanRuns" "runs" "[LCleanRuns$Run;"] ++ wsX10 ++ wsX40)
def wsX4_breakOff : List Cond := .code yX4_breakOff cX4_breakOff 3 (some .boolean) :: ([.methodLink RX4 65 yX4_runAt, .instanceMethod yX4_runAt, .selects RX4 yX4_runAt yX4_runAt, .initialized RX4, .code yX4_runAt cX4_runAt 2 (some (.object "CleanRuns$Run")), .fieldLink RX4 25 "CleanRuns" "runCount" "I", .fieldLink RX4 17 "CleanRuns" "runs" "[LCleanRuns$Run;", .methodLink RX4 105 yX1_isOver, .instanceMethod yX1_isOver, .selects RX1 yX1_isOver yX1_isOver, .initialized RX1, .code yX1_isOver cX1_isOver 1 (some .boolean), .fieldLink RX1 35 "CleanRuns$Run" "state" "I", .methodLink RX4 115 yX1_end, .instanceMethod yX1_end, .selects RX1 yX1_end yX1_end, .code yX1_end cX1_end 2 none, .fieldLink RX1 28 "CleanRuns$Run" "current" "LCleanRuns$Stay;", .fieldLink RX1 38 "CleanRuns$Run" "second" "I", .fieldLink RX1 127 "CleanRuns$Stay" "endSecond" "I"] ++ wsX40 ++ wsX10 ++ wsX20)
def wsX4_record : List Cond := .code yX4_record cX4_record 6 (some .int) :: ([.methodLink RX4 65 yX4_runAt, .instanceMethod yX4_runAt, .selects RX4 yX4_runAt yX4_runAt, .initialized RX4, .code yX4_runAt cX4_runAt 2 (some (.object "CleanRuns$Run")), .fieldLink RX4 25 "CleanRuns" "runCount" "I", .fieldLink RX4 17 "CleanRuns" "runs" "[LCleanRuns$Run;", .methodLink RX4 119 yX1_stayAt, .instanceMethod yX1_stayAt, .selects RX1 yX1_stayAt yX1_stayAt, .initialized RX1, .code yX1_stayAt cX1_stayAt 2 (some (.object "CleanRuns$Stay")), .fieldLink RX1 32 "CleanRuns$Run" "begunSteps" "I", .fieldLink RX1 21 "CleanRuns$Run" "stays" "[LCleanRuns$Stay;", .methodLink RX4 123 yX2_told, .instanceMethod yX2_told, .selects RX2 yX2_told yX2_told, .initialized RX2, .code yX2_told cX2_told 2 (some .int), .fieldLink RX2 9 "CleanRuns$Stay" "step" "LCleanRuns$Step;", .fieldLink RX2 34 "CleanRuns$Step" "kind" "I", .fieldLink RX2 31 "CleanRuns$Stay" "failures" "I", .fieldLink RX2 15 "CleanRuns$Stay" "firstSecond" "I", .fieldLink RX2 19 "CleanRuns$Stay" "endSecond" "I"] ++ wsX40 ++ wsX10 ++ wsX20 ++ wsX30)
def wsX4_states : List Cond := .code yX4_states cX4_states 1 (some .int) :: ([])
def wsX5_init_r1 : List Cond := [Cond.methodLink RX5 1 objectInit, Cond.instanceMethod objectInit, Cond.code objectInit ⟨#[0xb1]⟩ 1 none, Cond.arrayClass .int, Cond.fieldLink RX5 9 "CleanRunsModel" "lengths" "[I", Cond.arrayClass .boolean, Cond.fieldLink RX5 13 "CleanRunsModel" "begun" "[Z", Cond.fieldLink RX5 17 "CleanRunsModel" "kinds" "[I", Cond.fieldLink RX5 20 "CleanRunsModel" "seconds" "[I", Cond.arrayClass .double, Cond.fieldLink RX5 23 "CleanRunsModel" "strengths" "[D", Cond.fieldLink RX5 27 "CleanRunsModel" "warmths" "[D", Cond.fieldLink RX5 30 "CleanRunsModel" "of" "[I", Cond.fieldLink RX5 33 "CleanRunsModel" "levels" "[I", Cond.fieldLink RX5 36 "CleanRunsModel" "states" "[I", Cond.fieldLink RX5 39 "CleanRunsModel" "at" "[I", Cond.fieldLink RX5 42 "CleanRunsModel" "now" "[I", Cond.fieldLink RX5 45 "CleanRunsModel" "counts" "[I", Cond.fieldLink RX5 48 "CleanRunsModel" "missed" "[I", Cond.fieldLink RX5 51 "CleanRunsModel" "waited" "[I", Cond.fieldLink RX5 54 "CleanRunsModel" "values" "[D", Cond.fieldLink RX5 57 "CleanRunsModel" "holds" "[I", Cond.fieldLink RX5 60 "CleanRunsModel" "water" "[D", Cond.fieldLink RX5 63 "CleanRunsModel" "out" "[D"]
def wsX5_init_r2 : List Cond := [Cond.fieldLink RX5 66 "CleanRunsModel" "back" "[D", Cond.fieldLink RX5 69 "CleanRunsModel" "fails" "[I", Cond.fieldLink RX5 72 "CleanRunsModel" "began" "[I", Cond.fieldLink RX5 75 "CleanRunsModel" "ended" "[I"]
def wsX5_init : List Cond := .code yX5_init cX5_init 1 none :: ((wsX5_init_r1 ++ wsX5_init_r2) ++ wsX50)
def wsX5_recipe : List Cond := .code yX5_recipe cX5_recipe 1 (some .int) :: ([.fieldLink RX5 78 "CleanRunsModel" "recipes" "I"] ++ wsX50)
def wsX5_step : List Cond := .code yX5_step cX5_step 10 (some .boolean) :: ([.fieldLink RX5 78 "CleanRunsModel" "recipes" "I", .fieldLink RX5 13 "CleanRunsModel" "begun" "[Z", .fieldLink RX5 9 "CleanRunsModel" "lengths" "[I", .constantDouble RX5 82 (4636737291354636288), .constantDouble RX5 84 (4639481672377565184), .fieldLink RX5 17 "CleanRunsModel" "kinds" "[I", .fieldLink RX5 20 "CleanRunsModel" "seconds" "[I", .fieldLink RX5 23 "CleanRunsModel" "strengths" "[D", .fieldLink RX5 27 "CleanRunsModel" "warmths" "[D"] ++ wsX50)
def wsX5_start : List Cond := .code yX5_start cX5_start 3 (some .int) :: ([.fieldLink RX5 78 "CleanRunsModel" "recipes" "I", .fieldLink RX5 9 "CleanRunsModel" "lengths" "[I", .fieldLink RX5 86 "CleanRunsModel" "runs" "I", .fieldLink RX5 13 "CleanRunsModel" "begun" "[Z", .fieldLink RX5 30 "CleanRunsModel" "of" "[I", .fieldLink RX5 33 "CleanRunsModel" "levels" "[I", .fieldLink RX5 36 "CleanRunsModel" "states" "[I", .fieldLink RX5 75 "CleanRunsModel" "ended" "[I"] ++ wsX50)
def wsX5_isRun : List Cond := .code yX5_isRun cX5_isRun 2 (some .boolean) :: ([.fieldLink RX5 86 "CleanRunsModel" "runs" "I"] ++ wsX50)
def wsX5_isOn : List Cond := .code yX5_isOn cX5_isOn 2 (some .boolean) :: ([.fieldLink RX5 36 "CleanRunsModel" "states" "[I", .methodLink RX5 89 yX5_isRun, .instanceMethod yX5_isRun, .selects RX5 yX5_isRun yX5_isRun, .initialized RX5, .code yX5_isRun cX5_isRun 2 (some .boolean), .fieldLink RX5 86 "CleanRunsModel" "runs" "I"] ++ wsX50)
def wsX5_place : List Cond := .code yX5_place cX5_place 2 (some .int) :: ([.fieldLink RX5 30 "CleanRunsModel" "of" "[I", .fieldLink RX5 39 "CleanRunsModel" "at" "[I"] ++ wsX50)
def wsX5_isHeld : List Cond := .code yX5_isHeld cX5_isHeld 8 (some .boolean) :: ([.fieldLink RX5 17 "CleanRunsModel" "kinds" "[I", .fieldLink RX5 23 "CleanRunsModel" "strengths" "[D", .constantDouble RX5 93 (4602678819172646912), .fieldLink RX5 27 "CleanRunsModel" "warmths" "[D", .constantDouble RX5 95 (4593671619917905920)] ++ wsX50)
def wsX5_end : List Cond := .code yX5_end cX5_end 2 none :: ([.fieldLink RX5 75 "CleanRunsModel" "ended" "[I", .fieldLink RX5 39 "CleanRunsModel" "at" "[I", .fieldLink RX5 42 "CleanRunsModel" "now" "[I", .fieldLink RX5 9 "CleanRunsModel" "lengths" "[I", .fieldLink RX5 30 "CleanRunsModel" "of" "[I", .fieldLink RX5 36 "CleanRunsModel" "states" "[I", .fieldLink RX5 72 "CleanRunsModel" "began" "[I", .fieldLink RX5 45 "CleanRunsModel" "counts" "[I", .fieldLink RX5 48 "CleanRunsModel" "missed" "[I", .fieldLink RX5 51 "CleanRunsModel" "waited" "[I", .fieldLink RX5 57 "CleanRunsModel" "holds" "[I"] ++ wsX50)
def wsX5_miss : List Cond := .code yX5_miss cX5_miss 3 none :: ([.fieldLink RX5 39 "CleanRunsModel" "at" "[I", .fieldLink RX5 45 "CleanRunsModel" "counts" "[I", .fieldLink RX5 48 "CleanRunsModel" "missed" "[I", .fieldLink RX5 69 "CleanRunsModel" "fails" "[I", .fieldLink RX5 36 "CleanRunsModel" "states" "[I", .fieldLink RX5 75 "CleanRunsModel" "ended" "[I", .fieldLink RX5 42 "CleanRunsModel" "now" "[I"] ++ wsX50)
def wsX5_tick_r1 : List Cond := [Cond.constantDouble RX5 97 (4652007308841189376), Cond.constantDouble RX5 99 (13855605728582041600), Cond.constantDouble RX5 101 (4641240890982006784), Cond.fieldLink RX5 36 "CleanRunsModel" "states" "[I", Cond.fieldLink RX5 17 "CleanRunsModel" "kinds" "[I", Cond.fieldLink RX5 60 "CleanRunsModel" "water" "[D", Cond.fieldLink RX5 63 "CleanRunsModel" "out" "[D", Cond.fieldLink RX5 66 "CleanRunsModel" "back" "[D", Cond.constantDouble RX5 93 (4602678819172646912), Cond.fieldLink RX5 42 "CleanRunsModel" "now" "[I", Cond.fieldLink RX5 54 "CleanRunsModel" "values" "[D", Cond.fieldLink RX5 51 "CleanRunsModel" "waited" "[I", Cond.fieldLink RX5 57 "CleanRunsModel" "holds" "[I", Cond.fieldLink RX5 48 "CleanRunsModel" "missed" "[I", Cond.fieldLink RX5 45 "CleanRunsModel" "counts" "[I", Cond.fieldLink RX5 20 "CleanRunsModel" "seconds" "[I", Cond.methodLink RX5 89 yX5_isRun, Cond.instanceMethod yX5_isRun, Cond.selects RX5 yX5_isRun yX5_isRun, Cond.initialized RX5, Cond.code yX5_isRun cX5_isRun 2 (some .boolean), Cond.fieldLink RX5 86 "CleanRunsModel" "runs" "I", Cond.methodLink RX5 103 yX5_isOn, Cond.instanceMethod yX5_isOn]
def wsX5_tick_r2 : List Cond := [Cond.selects RX5 yX5_isOn yX5_isOn, Cond.code yX5_isOn cX5_isOn 2 (some .boolean), Cond.methodLink RX5 106 yX5_place, Cond.instanceMethod yX5_place, Cond.selects RX5 yX5_place yX5_place, Cond.code yX5_place cX5_place 2 (some .int), Cond.fieldLink RX5 30 "CleanRunsModel" "of" "[I", Cond.fieldLink RX5 39 "CleanRunsModel" "at" "[I", Cond.methodLink RX5 110 yX5_isHeld, Cond.instanceMethod yX5_isHeld, Cond.selects RX5 yX5_isHeld yX5_isHeld, Cond.code yX5_isHeld cX5_isHeld 8 (some .boolean), Cond.fieldLink RX5 23 "CleanRunsModel" "strengths" "[D", Cond.fieldLink RX5 27 "CleanRunsModel" "warmths" "[D", Cond.constantDouble RX5 95 (4593671619917905920), Cond.methodLink RX5 114 yX5_end, Cond.instanceMethod yX5_end, Cond.selects RX5 yX5_end yX5_end, Cond.code yX5_end cX5_end 2 none, Cond.fieldLink RX5 75 "CleanRunsModel" "ended" "[I", Cond.fieldLink RX5 9 "CleanRunsModel" "lengths" "[I", Cond.fieldLink RX5 72 "CleanRunsModel" "began" "[I", Cond.methodLink RX5 118 yX5_miss, Cond.instanceMethod yX5_miss]
def wsX5_tick_r3 : List Cond := [Cond.selects RX5 yX5_miss yX5_miss, Cond.code yX5_miss cX5_miss 3 none, Cond.fieldLink RX5 69 "CleanRunsModel" "fails" "[I"]
def wsX5_tick : List Cond := .code yX5_tick cX5_tick 13 (some .int) :: ((wsX5_tick_r1 ++ (wsX5_tick_r2 ++ wsX5_tick_r3)) ++ wsX50)
def wsX5_state : List Cond := .code yX5_state cX5_state 2 (some .int) :: ([.fieldLink RX5 36 "CleanRunsModel" "states" "[I", .methodLink RX5 89 yX5_isRun, .instanceMethod yX5_isRun, .selects RX5 yX5_isRun yX5_isRun, .initialized RX5, .code yX5_isRun cX5_isRun 2 (some .boolean), .fieldLink RX5 86 "CleanRunsModel" "runs" "I"] ++ wsX50)
def wsX5_stepOf : List Cond := .code yX5_stepOf cX5_stepOf 2 (some .int) :: ([.fieldLink RX5 39 "CleanRunsModel" "at" "[I", .methodLink RX5 89 yX5_isRun, .instanceMethod yX5_isRun, .selects RX5 yX5_isRun yX5_isRun, .initialized RX5, .code yX5_isRun cX5_isRun 2 (some .boolean), .fieldLink RX5 86 "CleanRunsModel" "runs" "I"] ++ wsX50)
def wsX5_counted : List Cond := .code yX5_counted cX5_counted 2 (some .long) :: ([.fieldLink RX5 45 "CleanRunsModel" "counts" "[I", .constantLong RX5 121 (-1), .methodLink RX5 89 yX5_isRun, .instanceMethod yX5_isRun, .selects RX5 yX5_isRun yX5_isRun, .initialized RX5, .code yX5_isRun cX5_isRun 2 (some .boolean), .fieldLink RX5 86 "CleanRunsModel" "runs" "I"] ++ wsX50)
def wsX5_failed : List Cond := .code yX5_failed cX5_failed 4 (some .int) :: ([.fieldLink RX5 69 "CleanRunsModel" "fails" "[I", .methodLink RX5 89 yX5_isRun, .instanceMethod yX5_isRun, .selects RX5 yX5_isRun yX5_isRun, .initialized RX5, .code yX5_isRun cX5_isRun 2 (some .boolean), .fieldLink RX5 86 "CleanRunsModel" "runs" "I"] ++ wsX50)
def wsX5_cleaner : List Cond := .code yX5_cleaner cX5_cleaner 3 (some .double) :: ([.constantDouble RX5 123 (13830554455654793216), .fieldLink RX5 60 "CleanRunsModel" "water" "[D", .fieldLink RX5 63 "CleanRunsModel" "out" "[D", .fieldLink RX5 66 "CleanRunsModel" "back" "[D", .constantDouble RX5 97 (4652007308841189376), .methodLink RX5 89 yX5_isRun, .instanceMethod yX5_isRun, .selects RX5 yX5_isRun yX5_isRun, .initialized RX5, .code yX5_isRun cX5_isRun 2 (some .boolean), .fieldLink RX5 86 "CleanRunsModel" "runs" "I"] ++ wsX50)
def wsX5_interface2 : List Cond := .code yX5_interface2 cX5_interface2 5 (some .boolean) :: ([.constantDouble RX5 82 (4636737291354636288), .fieldLink RX5 54 "CleanRunsModel" "values" "[D", .fieldLink RX5 57 "CleanRunsModel" "holds" "[I", .methodLink RX5 103 yX5_isOn, .instanceMethod yX5_isOn, .selects RX5 yX5_isOn yX5_isOn, .initialized RX5, .code yX5_isOn cX5_isOn 2 (some .boolean), .fieldLink RX5 36 "CleanRunsModel" "states" "[I", .methodLink RX5 89 yX5_isRun, .instanceMethod yX5_isRun, .selects RX5 yX5_isRun yX5_isRun, .code yX5_isRun cX5_isRun 2 (some .boolean), .fieldLink RX5 86 "CleanRunsModel" "runs" "I"] ++ wsX50)
def wsX5_level : List Cond := .code yX5_level cX5_level 2 (some .int) :: ([.fieldLink RX5 36 "CleanRunsModel" "states" "[I", .fieldLink RX5 33 "CleanRunsModel" "levels" "[I", .methodLink RX5 89 yX5_isRun, .instanceMethod yX5_isRun, .selects RX5 yX5_isRun yX5_isRun, .initialized RX5, .code yX5_isRun cX5_isRun 2 (some .boolean), .fieldLink RX5 86 "CleanRunsModel" "runs" "I"] ++ wsX50)
def wsX5_breakOff : List Cond := .code yX5_breakOff cX5_breakOff 2 (some .boolean) :: ([.fieldLink RX5 36 "CleanRunsModel" "states" "[I", .fieldLink RX5 75 "CleanRunsModel" "ended" "[I", .fieldLink RX5 39 "CleanRunsModel" "at" "[I", .fieldLink RX5 42 "CleanRunsModel" "now" "[I", .methodLink RX5 103 yX5_isOn, .instanceMethod yX5_isOn, .selects RX5 yX5_isOn yX5_isOn, .initialized RX5, .code yX5_isOn cX5_isOn 2 (some .boolean), .methodLink RX5 89 yX5_isRun, .instanceMethod yX5_isRun, .selects RX5 yX5_isRun yX5_isRun, .code yX5_isRun cX5_isRun 2 (some .boolean), .fieldLink RX5 86 "CleanRunsModel" "runs" "I"] ++ wsX50)
def wsX5_record : List Cond := .code yX5_record cX5_record 4 (some .int) :: ([.fieldLink RX5 39 "CleanRunsModel" "at" "[I", .fieldLink RX5 17 "CleanRunsModel" "kinds" "[I", .fieldLink RX5 30 "CleanRunsModel" "of" "[I", .fieldLink RX5 69 "CleanRunsModel" "fails" "[I", .fieldLink RX5 72 "CleanRunsModel" "began" "[I", .fieldLink RX5 75 "CleanRunsModel" "ended" "[I", .methodLink RX5 89 yX5_isRun, .instanceMethod yX5_isRun, .selects RX5 yX5_isRun yX5_isRun, .initialized RX5, .code yX5_isRun cX5_isRun 2 (some .boolean), .fieldLink RX5 86 "CleanRunsModel" "runs" "I"] ++ wsX50)
def wsX5_states : List Cond := .code yX5_states cX5_states 1 (some .int) :: ([])
def wsL_law_r1 : List Cond := [Cond.classLink RL 7 RX4, Cond.instantiable RX4 4, Cond.initialized RX4, Cond.classLink RL 10 RX5, Cond.instantiable RX5 24, Cond.initialized RX5, Cond.constantDouble RL 18 (4593671619917905920), Cond.methodLink RL 9 yX4_init, Cond.instanceMethod yX4_init, Cond.code yX4_init cX4_init 1 none, Cond.methodLink RX4 1 objectInit, Cond.instanceMethod objectInit, Cond.code objectInit ⟨#[0xb1]⟩ 1 none, Cond.classLink RX4 9 RX0, Cond.fieldLink RX4 11 "CleanRuns" "recipes" "[LCleanRuns$Recipe;", Cond.classLink RX4 15 RX1, Cond.fieldLink RX4 17 "CleanRuns" "runs" "[LCleanRuns$Run;", Cond.fieldLink RX4 21 "CleanRuns" "recipeCount" "I", Cond.fieldLink RX4 25 "CleanRuns" "runCount" "I", Cond.methodLink RL 12 yX5_init, Cond.instanceMethod yX5_init, Cond.code yX5_init cX5_init 1 none, Cond.methodLink RX5 1 objectInit, Cond.arrayClass .int]
def wsL_law_r2 : List Cond := [Cond.fieldLink RX5 9 "CleanRunsModel" "lengths" "[I", Cond.arrayClass .boolean, Cond.fieldLink RX5 13 "CleanRunsModel" "begun" "[Z", Cond.fieldLink RX5 17 "CleanRunsModel" "kinds" "[I", Cond.fieldLink RX5 20 "CleanRunsModel" "seconds" "[I", Cond.arrayClass .double, Cond.fieldLink RX5 23 "CleanRunsModel" "strengths" "[D", Cond.fieldLink RX5 27 "CleanRunsModel" "warmths" "[D", Cond.fieldLink RX5 30 "CleanRunsModel" "of" "[I", Cond.fieldLink RX5 33 "CleanRunsModel" "levels" "[I", Cond.fieldLink RX5 36 "CleanRunsModel" "states" "[I", Cond.fieldLink RX5 39 "CleanRunsModel" "at" "[I", Cond.fieldLink RX5 42 "CleanRunsModel" "now" "[I", Cond.fieldLink RX5 45 "CleanRunsModel" "counts" "[I", Cond.fieldLink RX5 48 "CleanRunsModel" "missed" "[I", Cond.fieldLink RX5 51 "CleanRunsModel" "waited" "[I", Cond.fieldLink RX5 54 "CleanRunsModel" "values" "[D", Cond.fieldLink RX5 57 "CleanRunsModel" "holds" "[I", Cond.fieldLink RX5 60 "CleanRunsModel" "water" "[D", Cond.fieldLink RX5 63 "CleanRunsModel" "out" "[D", Cond.fieldLink RX5 66 "CleanRunsModel" "back" "[D", Cond.fieldLink RX5 69 "CleanRunsModel" "fails" "[I", Cond.fieldLink RX5 72 "CleanRunsModel" "began" "[I", Cond.fieldLink RX5 75 "CleanRunsModel" "ended" "[I"]
def wsL_law_r3 : List Cond := [Cond.methodLink RL 13 yX4_recipe, Cond.instanceMethod yX4_recipe, Cond.selects RX4 yX4_recipe yX4_recipe, Cond.code yX4_recipe cX4_recipe 2 (some .int), Cond.instantiable RX0 3, Cond.initialized RX0, Cond.methodLink RX4 28 yX0_init, Cond.instanceMethod yX0_init, Cond.code yX0_init cX0_init 1 none, Cond.methodLink RX0 3 objectInit, Cond.classLink RX0 9 RX3, Cond.fieldLink RX0 11 "CleanRuns$Recipe" "steps" "[LCleanRuns$Step;", Cond.fieldLink RX0 17 "CleanRuns$Recipe" "size" "I", Cond.fieldLink RX0 21 "CleanRuns$Recipe" "begun" "Z", Cond.methodLink RL 17 yX5_recipe, Cond.instanceMethod yX5_recipe, Cond.selects RX5 yX5_recipe yX5_recipe, Cond.code yX5_recipe cX5_recipe 1 (some .int), Cond.fieldLink RX5 78 "CleanRunsModel" "recipes" "I", Cond.methodLink RL 20 yX4_step, Cond.instanceMethod yX4_step, Cond.selects RX4 yX4_step yX4_step, Cond.code yX4_step cX4_step 9 (some .boolean), Cond.constantDouble RX4 37 (4636737291354636288)]
def wsL_law_r4 : List Cond := [Cond.constantDouble RX4 43 (4639481672377565184), Cond.classLink RX4 45 RX3, Cond.instantiable RX3 4, Cond.initialized RX3, Cond.methodLink RX4 29 yX4_recipeAt, Cond.instanceMethod yX4_recipeAt, Cond.selects RX4 yX4_recipeAt yX4_recipeAt, Cond.code yX4_recipeAt cX4_recipeAt 2 (some (.object "CleanRuns$Recipe")), Cond.methodLink RX4 33 yX0_takesAStep, Cond.instanceMethod yX0_takesAStep, Cond.selects RX0 yX0_takesAStep yX0_takesAStep, Cond.code yX0_takesAStep cX0_takesAStep 1 (some .boolean), Cond.methodLink RX4 39 yX4_within, Cond.static yX4_within, Cond.code yX4_within cX4_within 6 (some .boolean), Cond.methodLink RX4 47 yX3_init, Cond.instanceMethod yX3_init, Cond.code yX3_init cX3_init 7 none, Cond.methodLink RX3 3 objectInit, Cond.fieldLink RX3 9 "CleanRuns$Step" "kind" "I", Cond.fieldLink RX3 15 "CleanRuns$Step" "seconds" "I", Cond.fieldLink RX3 18 "CleanRuns$Step" "strength" "D", Cond.fieldLink RX3 22 "CleanRuns$Step" "degrees" "D", Cond.methodLink RX4 50 yX0_append]
def wsL_law_r5 : List Cond := [Cond.instanceMethod yX0_append, Cond.selects RX0 yX0_append yX0_append, Cond.code yX0_append cX0_append 2 none, Cond.methodLink RL 24 yX5_step, Cond.instanceMethod yX5_step, Cond.selects RX5 yX5_step yX5_step, Cond.code yX5_step cX5_step 10 (some .boolean), Cond.constantDouble RX5 82 (4636737291354636288), Cond.constantDouble RX5 84 (4639481672377565184), Cond.methodLink RL 25 yX4_start, Cond.instanceMethod yX4_start, Cond.selects RX4 yX4_start yX4_start, Cond.code yX4_start cX4_start 6 (some .int), Cond.instantiable RX1 14, Cond.initialized RX1, Cond.fieldLink RX4 61 "CleanRuns$Recipe" "begun" "Z", Cond.methodLink RX4 54 yX0_stepAt, Cond.instanceMethod yX0_stepAt, Cond.selects RX0 yX0_stepAt yX0_stepAt, Cond.code yX0_stepAt cX0_stepAt 2 (some (.object "CleanRuns$Step")), Cond.methodLink RX4 58 yX1_init, Cond.instanceMethod yX1_init, Cond.code yX1_init cX1_init 4 none, Cond.methodLink RX1 3 objectInit]
def wsL_law_r6 : List Cond := [Cond.fieldLink RX1 9 "CleanRuns$Run" "recipe" "LCleanRuns$Recipe;", Cond.fieldLink RX1 15 "CleanRuns$Run" "goal" "I", Cond.classLink RX1 19 RX2, Cond.fieldLink RX1 21 "CleanRuns$Run" "stays" "[LCleanRuns$Stay;", Cond.instantiable RX2 7, Cond.initialized RX2, Cond.fieldLink RX1 28 "CleanRuns$Run" "current" "LCleanRuns$Stay;", Cond.fieldLink RX1 32 "CleanRuns$Run" "begunSteps" "I", Cond.fieldLink RX1 35 "CleanRuns$Run" "state" "I", Cond.fieldLink RX1 38 "CleanRuns$Run" "second" "I", Cond.fieldLink RX1 41 "CleanRuns$Run" "failures" "I", Cond.fieldLink RX1 44 "CleanRuns$Run" "hasInterface" "Z", Cond.fieldLink RX1 48 "CleanRuns$Run" "interfaceValue" "D", Cond.fieldLink RX1 52 "CleanRuns$Run" "interfaceHold" "I", Cond.fieldLink RX1 55 "CleanRuns$Run" "water" "D", Cond.fieldLink RX1 58 "CleanRuns$Run" "out" "D", Cond.fieldLink RX1 61 "CleanRuns$Run" "back" "D", Cond.methodLink RX1 25 yX2_init, Cond.instanceMethod yX2_init, Cond.code yX2_init cX2_init 3 none, Cond.methodLink RX2 3 objectInit, Cond.fieldLink RX2 9 "CleanRuns$Stay" "step" "LCleanRuns$Step;", Cond.fieldLink RX2 15 "CleanRuns$Stay" "firstSecond" "I", Cond.fieldLink RX2 19 "CleanRuns$Stay" "endSecond" "I"]
def wsL_law_r7 : List Cond := [Cond.fieldLink RX2 22 "CleanRuns$Stay" "waited" "I", Cond.fieldLink RX2 25 "CleanRuns$Stay" "counted" "I", Cond.fieldLink RX2 28 "CleanRuns$Stay" "missed" "I", Cond.fieldLink RX2 31 "CleanRuns$Stay" "failures" "I", Cond.methodLink RL 29 yX5_start, Cond.instanceMethod yX5_start, Cond.selects RX5 yX5_start yX5_start, Cond.code yX5_start cX5_start 3 (some .int), Cond.fieldLink RX5 86 "CleanRunsModel" "runs" "I", Cond.methodLink RL 30 yX4_tick, Cond.instanceMethod yX4_tick, Cond.selects RX4 yX4_tick yX4_tick, Cond.code yX4_tick cX4_tick 9 (some .int), Cond.constantDouble RX4 69 (4652007308841189376), Cond.constantDouble RX4 71 (13855605728582041600), Cond.constantDouble RX4 73 (4641240890982006784), Cond.fieldLink RX4 79 "CleanRuns$Run" "state" "I", Cond.methodLink RX4 65 yX4_runAt, Cond.instanceMethod yX4_runAt, Cond.selects RX4 yX4_runAt yX4_runAt, Cond.code yX4_runAt cX4_runAt 2 (some (.object "CleanRuns$Run")), Cond.methodLink RX4 75 yX1_passSecond, Cond.instanceMethod yX1_passSecond, Cond.selects RX1 yX1_passSecond yX1_passSecond]
def wsL_law_r8 : List Cond := [Cond.code yX1_passSecond cX1_passSecond 8 none, Cond.fieldLink RX1 72 "CleanRuns$Stay" "step" "LCleanRuns$Step;", Cond.methodLink RX1 68 yX1_isOver, Cond.instanceMethod yX1_isOver, Cond.selects RX1 yX1_isOver yX1_isOver, Cond.code yX1_isOver cX1_isOver 1 (some .boolean), Cond.methodLink RX1 76 yX3_holds, Cond.instanceMethod yX3_holds, Cond.selects RX3 yX3_holds yX3_holds, Cond.code yX3_holds cX3_holds 7 (some .boolean), Cond.constantDouble RX3 25 (4602678819172646912), Cond.constantDouble RX3 27 (4593671619917905920), Cond.methodLink RX1 82 yX1_use, Cond.instanceMethod yX1_use, Cond.selects RX1 yX1_use yX1_use, Cond.code yX1_use cX1_use 4 none, Cond.constantDouble RX1 99 (4602678819172646912), Cond.methodLink RX1 96 yX3_usesWater, Cond.instanceMethod yX3_usesWater, Cond.selects RX3 yX3_usesWater yX3_usesWater, Cond.code yX3_usesWater cX3_usesWater 1 (some .boolean), Cond.methodLink RX1 86 yX1_waitASecond, Cond.instanceMethod yX1_waitASecond, Cond.selects RX1 yX1_waitASecond yX1_waitASecond]
def wsL_law_r9 : List Cond := [Cond.code yX1_waitASecond cX1_waitASecond 3 none, Cond.fieldLink RX1 105 "CleanRuns$Stay" "waited" "I", Cond.methodLink RX1 101 yX3_passesInterface, Cond.instanceMethod yX3_passesInterface, Cond.selects RX3 yX3_passesInterface yX3_passesInterface, Cond.code yX3_passesInterface cX3_passesInterface 5 (some .boolean), Cond.methodLink RX3 29 yX3_usesWater, Cond.methodLink RX1 90 yX1_countASecond, Cond.instanceMethod yX1_countASecond, Cond.selects RX1 yX1_countASecond yX1_countASecond, Cond.code yX1_countASecond cX1_countASecond 2 none, Cond.fieldLink RX1 108 "CleanRuns$Stay" "missed" "I", Cond.fieldLink RX1 111 "CleanRuns$Stay" "counted" "I", Cond.fieldLink RX1 114 "CleanRuns$Step" "seconds" "I", Cond.fieldLink RX1 127 "CleanRuns$Stay" "endSecond" "I", Cond.methodLink RX1 117 yX0_stepAt, Cond.methodLink RX1 123 yX1_end, Cond.instanceMethod yX1_end, Cond.selects RX1 yX1_end yX1_end, Cond.code yX1_end cX1_end 2 none, Cond.methodLink RX1 130 yX1_begin, Cond.instanceMethod yX1_begin, Cond.selects RX1 yX1_begin yX1_begin, Cond.code yX1_begin cX1_begin 2 none]
def wsL_law_r10 : List Cond := [Cond.methodLink RX1 93 yX1_missASecond, Cond.instanceMethod yX1_missASecond, Cond.selects RX1 yX1_missASecond yX1_missASecond, Cond.code yX1_missASecond cX1_missASecond 1 none, Cond.fieldLink RX1 134 "CleanRuns$Stay" "failures" "I", Cond.methodLink RL 34 yX5_tick, Cond.instanceMethod yX5_tick, Cond.selects RX5 yX5_tick yX5_tick, Cond.code yX5_tick cX5_tick 13 (some .int), Cond.constantDouble RX5 97 (4652007308841189376), Cond.constantDouble RX5 99 (13855605728582041600), Cond.constantDouble RX5 101 (4641240890982006784), Cond.constantDouble RX5 93 (4602678819172646912), Cond.methodLink RX5 89 yX5_isRun, Cond.instanceMethod yX5_isRun, Cond.selects RX5 yX5_isRun yX5_isRun, Cond.code yX5_isRun cX5_isRun 2 (some .boolean), Cond.methodLink RX5 103 yX5_isOn, Cond.instanceMethod yX5_isOn, Cond.selects RX5 yX5_isOn yX5_isOn, Cond.code yX5_isOn cX5_isOn 2 (some .boolean), Cond.methodLink RX5 106 yX5_place, Cond.instanceMethod yX5_place, Cond.selects RX5 yX5_place yX5_place]
def wsL_law_r11 : List Cond := [Cond.code yX5_place cX5_place 2 (some .int), Cond.methodLink RX5 110 yX5_isHeld, Cond.instanceMethod yX5_isHeld, Cond.selects RX5 yX5_isHeld yX5_isHeld, Cond.code yX5_isHeld cX5_isHeld 8 (some .boolean), Cond.constantDouble RX5 95 (4593671619917905920), Cond.methodLink RX5 114 yX5_end, Cond.instanceMethod yX5_end, Cond.selects RX5 yX5_end yX5_end, Cond.code yX5_end cX5_end 2 none, Cond.methodLink RX5 118 yX5_miss, Cond.instanceMethod yX5_miss, Cond.selects RX5 yX5_miss yX5_miss, Cond.code yX5_miss cX5_miss 3 none, Cond.methodLink RL 35 yX4_state, Cond.instanceMethod yX4_state, Cond.selects RX4 yX4_state yX4_state, Cond.code yX4_state cX4_state 3 (some .int), Cond.methodLink RL 39 yX5_state, Cond.instanceMethod yX5_state, Cond.selects RX5 yX5_state yX5_state, Cond.code yX5_state cX5_state 2 (some .int), Cond.methodLink RL 40 yX4_stepOf, Cond.instanceMethod yX4_stepOf]
def wsL_law_r12 : List Cond := [Cond.selects RX4 yX4_stepOf yX4_stepOf, Cond.code yX4_stepOf cX4_stepOf 3 (some .int), Cond.fieldLink RX4 82 "CleanRuns$Run" "begunSteps" "I", Cond.methodLink RL 43 yX5_stepOf, Cond.instanceMethod yX5_stepOf, Cond.selects RX5 yX5_stepOf yX5_stepOf, Cond.code yX5_stepOf cX5_stepOf 2 (some .int), Cond.methodLink RL 44 yX4_counted, Cond.instanceMethod yX4_counted, Cond.selects RX4 yX4_counted yX4_counted, Cond.code yX4_counted cX4_counted 3 (some .long), Cond.constantLong RX4 85 (-1), Cond.fieldLink RX4 87 "CleanRuns$Run" "current" "LCleanRuns$Stay;", Cond.fieldLink RX4 91 "CleanRuns$Stay" "counted" "I", Cond.methodLink RL 48 yX5_counted, Cond.instanceMethod yX5_counted, Cond.selects RX5 yX5_counted yX5_counted, Cond.code yX5_counted cX5_counted 2 (some .long), Cond.constantLong RX5 121 (-1), Cond.methodLink RL 49 yX4_failed, Cond.instanceMethod yX4_failed, Cond.selects RX4 yX4_failed yX4_failed, Cond.code yX4_failed cX4_failed 3 (some .int), Cond.fieldLink RX4 96 "CleanRuns$Run" "failures" "I"]
def wsL_law_r13 : List Cond := [Cond.methodLink RL 52 yX5_failed, Cond.instanceMethod yX5_failed, Cond.selects RX5 yX5_failed yX5_failed, Cond.code yX5_failed cX5_failed 4 (some .int), Cond.methodLink RL 53 yX4_cleaner, Cond.instanceMethod yX4_cleaner, Cond.selects RX4 yX4_cleaner yX4_cleaner, Cond.code yX4_cleaner cX4_cleaner 4 (some .double), Cond.constantDouble RX4 99 (13830554455654793216), Cond.methodLink RX4 101 yX1_used, Cond.instanceMethod yX1_used, Cond.selects RX1 yX1_used yX1_used, Cond.code yX1_used cX1_used 2 (some .double), Cond.constantDouble RX1 64 (4652007308841189376), Cond.constantDouble RX1 66 (13830554455654793216), Cond.methodLink RL 57 yX5_cleaner, Cond.instanceMethod yX5_cleaner, Cond.selects RX5 yX5_cleaner yX5_cleaner, Cond.code yX5_cleaner cX5_cleaner 3 (some .double), Cond.constantDouble RX5 123 (13830554455654793216), Cond.methodLink RL 58 yX4_interface2, Cond.instanceMethod yX4_interface2, Cond.selects RX4 yX4_interface2 yX4_interface2, Cond.code yX4_interface2 cX4_interface2 6 (some .boolean)]
def wsL_law_r14 : List Cond := [Cond.methodLink RX4 105 yX1_isOver, Cond.methodLink RX4 108 yX1_setInterface, Cond.instanceMethod yX1_setInterface, Cond.selects RX1 yX1_setInterface yX1_setInterface, Cond.code yX1_setInterface cX1_setInterface 4 none, Cond.methodLink RL 62 yX5_interface2, Cond.instanceMethod yX5_interface2, Cond.selects RX5 yX5_interface2 yX5_interface2, Cond.code yX5_interface2 cX5_interface2 5 (some .boolean), Cond.methodLink RL 63 yX4_level, Cond.instanceMethod yX4_level, Cond.selects RX4 yX4_level yX4_level, Cond.code yX4_level cX4_level 3 (some .int), Cond.fieldLink RX4 112 "CleanRuns$Run" "goal" "I", Cond.methodLink RL 66 yX5_level, Cond.instanceMethod yX5_level, Cond.selects RX5 yX5_level yX5_level, Cond.code yX5_level cX5_level 2 (some .int), Cond.methodLink RL 67 yX4_breakOff, Cond.instanceMethod yX4_breakOff, Cond.selects RX4 yX4_breakOff yX4_breakOff, Cond.code yX4_breakOff cX4_breakOff 3 (some .boolean), Cond.methodLink RX4 115 yX1_end, Cond.methodLink RL 71 yX5_breakOff]
def wsL_law_r15 : List Cond := [Cond.instanceMethod yX5_breakOff, Cond.selects RX5 yX5_breakOff yX5_breakOff, Cond.code yX5_breakOff cX5_breakOff 2 (some .boolean), Cond.methodLink RL 72 yX4_record, Cond.instanceMethod yX4_record, Cond.selects RX4 yX4_record yX4_record, Cond.code yX4_record cX4_record 6 (some .int), Cond.methodLink RX4 119 yX1_stayAt, Cond.instanceMethod yX1_stayAt, Cond.selects RX1 yX1_stayAt yX1_stayAt, Cond.code yX1_stayAt cX1_stayAt 2 (some (.object "CleanRuns$Stay")), Cond.methodLink RX4 123 yX2_told, Cond.instanceMethod yX2_told, Cond.selects RX2 yX2_told yX2_told, Cond.code yX2_told cX2_told 2 (some .int), Cond.fieldLink RX2 34 "CleanRuns$Step" "kind" "I", Cond.methodLink RL 76 yX5_record, Cond.instanceMethod yX5_record, Cond.selects RX5 yX5_record yX5_record, Cond.code yX5_record cX5_record 4 (some .int), Cond.methodLink RL 77 yX4_states, Cond.instanceMethod yX4_states, Cond.selects RX4 yX4_states yX4_states, Cond.code yX4_states cX4_states 1 (some .int)]
def wsL_law_r16 : List Cond := [Cond.methodLink RL 80 yX5_states, Cond.instanceMethod yX5_states, Cond.selects RX5 yX5_states yX5_states, Cond.code yX5_states cX5_states 1 (some .int)]
def wsL_law : List Cond := (wsL_law_r1 ++ (wsL_law_r2 ++ (wsL_law_r3 ++ (wsL_law_r4 ++ (wsL_law_r5 ++ (wsL_law_r6 ++ (wsL_law_r7 ++ (wsL_law_r8 ++ (wsL_law_r9 ++ (wsL_law_r10 ++ (wsL_law_r11 ++ (wsL_law_r12 ++ (wsL_law_r13 ++ (wsL_law_r14 ++ (wsL_law_r15 ++ wsL_law_r16))))))))))))))) ++ wsX40 ++ wsX50 ++ wsX00 ++ wsX30 ++ wsX10 ++ wsX20 ++ ([] : List Cond)
set_option maxRecDepth 20000 in
theorem ggX1_init_X2_init : GoodIn wsX1_init wsX2_init := goodIn_r _ [23, 24, 2, 3, 25, 26, 27, 28, 29, 30, 31, 46, 47, 48, 49, 50, 51, 52] (by decide +kernel) (by decide +kernel)
set_option maxRecDepth 20000 in
theorem gX1_init_X2_init : GoodIn wsX1_init (wsX2_init) := ggX1_init_X2_init
set_option maxRecDepth 20000 in
theorem ggX1_passSecond_X1_isOver : GoodIn wsX1_passSecond wsX1_isOver := goodIn_r _ [9, 4, 93, 94, 95, 96, 97, 98, 99, 100, 101, 102, 103, 104, 105, 106] (by decide +kernel) (by decide +kernel)
set_option maxRecDepth 20000 in
theorem gX1_passSecond_X1_isOver : GoodIn wsX1_passSecond (wsV RX1 68 RX1 yX1_isOver wsX1_isOver) := goodIn_app (goodIn_of _ (by decide +kernel)) ggX1_passSecond_X1_isOver
set_option maxRecDepth 20000 in
theorem ggX1_passSecond_X3_holds : GoodIn wsX1_passSecond wsX3_holds := goodIn_r _ [14, 15, 16, 17, 18, 19, 114, 115, 116, 117] (by decide +kernel) (by decide +kernel)
set_option maxRecDepth 20000 in
theorem gX1_passSecond_X3_holds : GoodIn wsX1_passSecond (wsV RX1 76 RX3 yX3_holds wsX3_holds) := goodIn_app (goodIn_of _ (by decide +kernel)) ggX1_passSecond_X3_holds
set_option maxRecDepth 20000 in
theorem ggX1_passSecond_X1_use : GoodIn wsX1_passSecond wsX1_use := goodIn_r _ [23, 1, 2, 24, 25, 4, 26, 27, 28, 29, 30, 13, 31, 15, 93, 94, 95, 96, 97, 98, 99, 100, 101, 102, 103, 104, 105, 106, 107, 108, 109, 110, 111, 112, 113, 114, 115, 116, 117] (by decide +kernel) (by decide +kernel)
set_option maxRecDepth 20000 in
theorem gX1_passSecond_X1_use : GoodIn wsX1_passSecond (wsV RX1 82 RX1 yX1_use wsX1_use) := goodIn_app (goodIn_of _ (by decide +kernel)) ggX1_passSecond_X1_use
set_option maxRecDepth 20000 in
theorem ggX1_passSecond_X1_waitASecond : GoodIn wsX1_passSecond wsX1_waitASecond := goodIn_r _ [35, 1, 2, 36, 37, 38, 4, 39, 40, 41, 13, 42, 43, 29, 30, 31, 15, 93, 94, 95, 96, 97, 98, 99, 100, 101, 102, 103, 104, 105, 106, 107, 108, 109, 110, 111, 112, 113, 114, 115, 116, 117] (by decide +kernel) (by decide +kernel)
set_option maxRecDepth 20000 in
theorem gX1_passSecond_X1_waitASecond : GoodIn wsX1_passSecond (wsV RX1 86 RX1 yX1_waitASecond wsX1_waitASecond) := goodIn_app (goodIn_of _ (by decide +kernel)) ggX1_passSecond_X1_waitASecond
set_option maxRecDepth 20000 in
theorem ggX1_passSecond_X1_countASecond : GoodIn wsX1_passSecond wsX1_countASecond := goodIn_r _ [47, 1, 48, 49, 2, 50, 51, 52, 3, 53, 54, 55, 56, 57, 58, 59, 60, 61, 62, 63, 8, 64, 4, 65, 66, 67, 68, 69, 70, 71, 72, 73, 74, 75, 76, 77, 78, 79, 80, 81, 82, 83, 84, 85, 86, 93, 94, 95, 96, 97, 98, 99, 100, 101, 102, 103, 104, 105, 106, 107, 108, 109, 110, 111, 112, 113, 114, 115, 116, 117, 118, 119, 120] (by decide +kernel) (by decide +kernel)
set_option maxRecDepth 20000 in
theorem gX1_passSecond_X1_countASecond : GoodIn wsX1_passSecond (wsV RX1 90 RX1 yX1_countASecond wsX1_countASecond) := goodIn_app (goodIn_of _ (by decide +kernel)) ggX1_passSecond_X1_countASecond
set_option maxRecDepth 20000 in
theorem ggX1_passSecond_X1_missASecond : GoodIn wsX1_passSecond wsX1_missASecond := goodIn_r _ [90, 1, 48, 91, 92, 49, 61, 62, 63, 8, 64, 3, 53, 4, 93, 94, 95, 96, 97, 98, 99, 100, 101, 102, 103, 104, 105, 106, 107, 108, 109, 110, 111, 112, 113] (by decide +kernel) (by decide +kernel)
set_option maxRecDepth 20000 in
theorem gX1_passSecond_X1_missASecond : GoodIn wsX1_passSecond (wsV RX1 93 RX1 yX1_missASecond wsX1_missASecond) := goodIn_app (goodIn_of _ (by decide +kernel)) ggX1_passSecond_X1_missASecond
set_option maxRecDepth 20000 in
theorem ggX1_use_X3_usesWater : GoodIn wsX1_use wsX3_usesWater := goodIn_r _ [12, 13, 35, 36, 37, 38] (by decide +kernel) (by decide +kernel)
set_option maxRecDepth 20000 in
theorem gX1_use_X3_usesWater : GoodIn wsX1_use (wsV RX1 96 RX3 yX3_usesWater wsX3_usesWater) := goodIn_app (goodIn_of _ (by decide +kernel)) ggX1_use_X3_usesWater
set_option maxRecDepth 20000 in
theorem ggX1_waitASecond_X3_passesInterface : GoodIn wsX1_waitASecond wsX3_passesInterface := goodIn_r _ [11, 12, 13, 14, 10, 15, 16, 38, 39, 40, 41] (by decide +kernel) (by decide +kernel)
set_option maxRecDepth 20000 in
theorem gX1_waitASecond_X3_passesInterface : GoodIn wsX1_waitASecond (wsV RX1 101 RX3 yX3_passesInterface wsX3_passesInterface) := goodIn_app (goodIn_of _ (by decide +kernel)) ggX1_waitASecond_X3_passesInterface
set_option maxRecDepth 20000 in
theorem ggX1_countASecond_X0_stepAt : GoodIn wsX1_countASecond wsX0_stepAt := goodIn_r _ [14, 15, 16, 70, 71, 72] (by decide +kernel) (by decide +kernel)
set_option maxRecDepth 20000 in
theorem gX1_countASecond_X0_stepAt : GoodIn wsX1_countASecond (wsV RX1 117 RX0 yX0_stepAt wsX0_stepAt) := goodIn_app (goodIn_of _ (by decide +kernel)) ggX1_countASecond_X0_stepAt
set_option maxRecDepth 20000 in
theorem ggX1_countASecond_X1_end : GoodIn wsX1_countASecond wsX1_end := goodIn_r _ [21, 1, 8, 9, 22, 45, 46, 47, 48, 49, 50, 51, 52, 53, 54, 55, 56, 57, 58, 59, 60, 61, 62, 63, 64, 65] (by decide +kernel) (by decide +kernel)
set_option maxRecDepth 20000 in
theorem gX1_countASecond_X1_end : GoodIn wsX1_countASecond (wsV RX1 123 RX1 yX1_end wsX1_end) := goodIn_app (goodIn_of _ (by decide +kernel)) ggX1_countASecond_X1_end
set_option maxRecDepth 20000 in
theorem ggX1_countASecond_X1_begin : GoodIn wsX1_countASecond wsX1_begin := goodIn_r _ [26, 7, 27, 28, 29, 30, 8, 1, 31, 22, 32, 33, 34, 35, 36, 37, 38, 39, 40, 41, 42, 43, 44, 45, 46, 47, 48, 49, 50, 51, 52, 53, 54, 55, 56, 57, 58, 59, 60, 61, 62, 63, 64, 65] (by decide +kernel) (by decide +kernel)
set_option maxRecDepth 20000 in
theorem gX1_countASecond_X1_begin : GoodIn wsX1_countASecond (wsV RX1 130 RX1 yX1_begin wsX1_begin) := goodIn_app (goodIn_of _ (by decide +kernel)) ggX1_countASecond_X1_begin
set_option maxRecDepth 20000 in
theorem ggX1_begin_X2_init : GoodIn wsX1_begin wsX2_init := goodIn_r _ [12, 13, 14, 15, 16, 17, 18, 19, 20, 21, 22, 37, 38, 39, 40, 41, 42, 43] (by decide +kernel) (by decide +kernel)
set_option maxRecDepth 20000 in
theorem gX1_begin_X2_init : GoodIn wsX1_begin (wsX2_init) := ggX1_begin_X2_init
set_option maxRecDepth 20000 in
theorem ggX1_missASecond_X1_end : GoodIn wsX1_missASecond wsX1_end := goodIn_r _ [10, 1, 11, 12, 13, 14, 15, 16, 17, 18, 19, 20, 21, 22, 23, 24, 25, 26, 27, 28, 29, 30, 31, 32, 33, 34] (by decide +kernel) (by decide +kernel)
set_option maxRecDepth 20000 in
theorem gX1_missASecond_X1_end : GoodIn wsX1_missASecond (wsV RX1 123 RX1 yX1_end wsX1_end) := goodIn_app (goodIn_of _ (by decide +kernel)) ggX1_missASecond_X1_end
set_option maxRecDepth 20000 in
theorem ggX3_passesInterface_X3_usesWater : GoodIn wsX3_passesInterface wsX3_usesWater := goodIn_r _ [5, 6, 7, 8, 9, 10] (by decide +kernel) (by decide +kernel)
set_option maxRecDepth 20000 in
theorem gX3_passesInterface_X3_usesWater : GoodIn wsX3_passesInterface (wsV RX3 29 RX3 yX3_usesWater wsX3_usesWater) := goodIn_app (goodIn_of _ (by decide +kernel)) ggX3_passesInterface_X3_usesWater
set_option maxRecDepth 20000 in
theorem ggX4_recipe_X0_init : GoodIn wsX4_recipe wsX0_init := goodIn_r _ [8, 9, 10, 11, 12, 13, 14, 15, 20, 21, 22] (by decide +kernel) (by decide +kernel)
set_option maxRecDepth 20000 in
theorem gX4_recipe_X0_init : GoodIn wsX4_recipe (wsX0_init) := ggX4_recipe_X0_init
set_option maxRecDepth 20000 in
theorem ggX4_step_X4_recipeAt : GoodIn wsX4_step wsX4_recipeAt := goodIn_r _ [10, 11, 12, 42, 43, 44, 45] (by decide +kernel) (by decide +kernel)
set_option maxRecDepth 20000 in
theorem gX4_step_X4_recipeAt : GoodIn wsX4_step (wsV RX4 29 RX4 yX4_recipeAt wsX4_recipeAt) := goodIn_app (goodIn_of _ (by decide +kernel)) ggX4_step_X4_recipeAt
set_option maxRecDepth 20000 in
theorem ggX4_step_X0_takesAStep : GoodIn wsX4_step wsX0_takesAStep := goodIn_r _ [17, 18, 19, 20, 46, 47, 48] (by decide +kernel) (by decide +kernel)
set_option maxRecDepth 20000 in
theorem gX4_step_X0_takesAStep : GoodIn wsX4_step (wsV RX4 33 RX0 yX0_takesAStep wsX0_takesAStep) := goodIn_app (goodIn_of _ (by decide +kernel)) ggX4_step_X0_takesAStep
set_option maxRecDepth 20000 in
theorem ggX4_step_X4_within : GoodIn wsX4_step wsX4_within := goodIn_r _ [23] (by decide +kernel) (by decide +kernel)
set_option maxRecDepth 20000 in
theorem gX4_step_X4_within : GoodIn wsX4_step (va_wsS RX4 39 yX4_within wsX4_within) := goodIn_app (goodIn_of _ (by decide +kernel)) ggX4_step_X4_within
set_option maxRecDepth 20000 in
theorem ggX4_step_X3_init : GoodIn wsX4_step wsX3_init := goodIn_r _ [26, 27, 28, 29, 30, 31, 32, 33, 38, 39, 40, 41] (by decide +kernel) (by decide +kernel)
set_option maxRecDepth 20000 in
theorem gX4_step_X3_init : GoodIn wsX4_step (wsX3_init) := ggX4_step_X3_init
set_option maxRecDepth 20000 in
theorem ggX4_step_X0_append : GoodIn wsX4_step wsX0_append := goodIn_r _ [37, 19, 20, 46, 47, 48] (by decide +kernel) (by decide +kernel)
set_option maxRecDepth 20000 in
theorem gX4_step_X0_append : GoodIn wsX4_step (wsV RX4 50 RX0 yX0_append wsX0_append) := goodIn_app (goodIn_of _ (by decide +kernel)) ggX4_step_X0_append
set_option maxRecDepth 20000 in
theorem ggX4_start_X4_recipeAt : GoodIn wsX4_start wsX4_recipeAt := goodIn_r _ [11, 12, 13, 55, 56, 57, 58] (by decide +kernel) (by decide +kernel)
set_option maxRecDepth 20000 in
theorem gX4_start_X4_recipeAt : GoodIn wsX4_start (wsV RX4 29 RX4 yX4_recipeAt wsX4_recipeAt) := goodIn_app (goodIn_of _ (by decide +kernel)) ggX4_start_X4_recipeAt
set_option maxRecDepth 20000 in
theorem ggX4_start_X0_stepAt : GoodIn wsX4_start wsX0_stepAt := goodIn_r _ [18, 19, 20, 73, 74, 75] (by decide +kernel) (by decide +kernel)
set_option maxRecDepth 20000 in
theorem gX4_start_X0_stepAt : GoodIn wsX4_start (wsV RX4 54 RX0 yX0_stepAt wsX0_stepAt) := goodIn_app (goodIn_of _ (by decide +kernel)) ggX4_start_X0_stepAt
set_option maxRecDepth 20000 in
theorem ggX4_start_X1_init : GoodIn wsX4_start wsX1_init := goodIn_r _ [23, 24, 25, 26, 27, 28, 29, 30, 31, 32, 33, 34, 35, 36, 37, 38, 39, 40, 41, 42, 43, 44, 45, 46, 47, 48, 49, 50, 51, 52, 53, 54, 59, 60, 61, 62, 63, 64, 65, 66, 67, 68, 69, 70, 71, 72, 76, 77, 78, 79, 80, 81, 82] (by decide +kernel) (by decide +kernel)
set_option maxRecDepth 20000 in
theorem gX4_start_X1_init : GoodIn wsX4_start (wsX1_init) := ggX4_start_X1_init
set_option maxRecDepth 20000 in
theorem ggX4_tick_X4_runAt : GoodIn wsX4_tick wsX4_runAt := goodIn_r _ [9, 10, 11, 125, 126, 127, 128] (by decide +kernel) (by decide +kernel)
set_option maxRecDepth 20000 in
theorem gX4_tick_X4_runAt : GoodIn wsX4_tick (wsV RX4 65 RX4 yX4_runAt wsX4_runAt) := goodIn_app (goodIn_of _ (by decide +kernel)) ggX4_tick_X4_runAt
set_option maxRecDepth 20000 in
theorem ggX4_tick_X4_within : GoodIn wsX4_tick wsX4_within := goodIn_r _ [14] (by decide +kernel) (by decide +kernel)
set_option maxRecDepth 20000 in
theorem gX4_tick_X4_within : GoodIn wsX4_tick (va_wsS RX4 39 yX4_within wsX4_within) := goodIn_app (goodIn_of _ (by decide +kernel)) ggX4_tick_X4_within
set_option maxRecDepth 20000 in
theorem ggX4_tick_X1_passSecond : GoodIn wsX4_tick wsX1_passSecond := goodIn_r _ [19, 20, 21, 22, 23, 24, 25, 26, 18, 27, 28, 29, 30, 31, 32, 33, 34, 35, 36, 37, 38, 39, 40, 41, 42, 43, 44, 45, 46, 47, 48, 49, 50, 51, 52, 53, 54, 55, 56, 57, 58, 59, 60, 61, 62, 63, 64, 65, 66, 67, 68, 69, 70, 71, 72, 73, 74, 75, 76, 77, 78, 79, 80, 81, 82, 83, 84, 85, 86, 87, 88, 89, 90, 91, 92, 93, 94, 95, 96, 97, 98, 99, 100, 101, 102, 103, 104, 105, 106, 107, 108, 109, 110, 111, 112, 113, 114, 115, 116, 117, 118, 119, 120, 121, 122, 123, 124, 129, 130, 131, 132, 133, 134, 135, 136, 137, 138, 139, 140, 141, 142] (by decide +kernel) (by decide +kernel)
set_option maxRecDepth 20000 in
theorem gX4_tick_X1_passSecond : GoodIn wsX4_tick (wsV RX4 75 RX1 yX1_passSecond wsX1_passSecond) := goodIn_app (goodIn_of _ (by decide +kernel)) ggX4_tick_X1_passSecond
set_option maxRecDepth 20000 in
theorem ggX4_state_X4_runAt : GoodIn wsX4_state wsX4_runAt := goodIn_r _ [6, 7, 8, 23, 24, 25, 26] (by decide +kernel) (by decide +kernel)
set_option maxRecDepth 20000 in
theorem gX4_state_X4_runAt : GoodIn wsX4_state (wsV RX4 65 RX4 yX4_runAt wsX4_runAt) := goodIn_app (goodIn_of _ (by decide +kernel)) ggX4_state_X4_runAt
set_option maxRecDepth 20000 in
theorem ggX4_stepOf_X4_runAt : GoodIn wsX4_stepOf wsX4_runAt := goodIn_r _ [6, 7, 8, 23, 24, 25, 26] (by decide +kernel) (by decide +kernel)
set_option maxRecDepth 20000 in
theorem gX4_stepOf_X4_runAt : GoodIn wsX4_stepOf (wsV RX4 65 RX4 yX4_runAt wsX4_runAt) := goodIn_app (goodIn_of _ (by decide +kernel)) ggX4_stepOf_X4_runAt
set_option maxRecDepth 20000 in
theorem ggX4_counted_X4_runAt : GoodIn wsX4_counted wsX4_runAt := goodIn_r _ [8, 9, 10, 32, 33, 34, 35] (by decide +kernel) (by decide +kernel)
set_option maxRecDepth 20000 in
theorem gX4_counted_X4_runAt : GoodIn wsX4_counted (wsV RX4 65 RX4 yX4_runAt wsX4_runAt) := goodIn_app (goodIn_of _ (by decide +kernel)) ggX4_counted_X4_runAt
set_option maxRecDepth 20000 in
theorem ggX4_failed_X4_runAt : GoodIn wsX4_failed wsX4_runAt := goodIn_r _ [6, 7, 8, 23, 24, 25, 26] (by decide +kernel) (by decide +kernel)
set_option maxRecDepth 20000 in
theorem gX4_failed_X4_runAt : GoodIn wsX4_failed (wsV RX4 65 RX4 yX4_runAt wsX4_runAt) := goodIn_app (goodIn_of _ (by decide +kernel)) ggX4_failed_X4_runAt
set_option maxRecDepth 20000 in
theorem ggX4_cleaner_X4_runAt : GoodIn wsX4_cleaner wsX4_runAt := goodIn_r _ [6, 7, 8, 19, 20, 21, 22] (by decide +kernel) (by decide +kernel)
set_option maxRecDepth 20000 in
theorem gX4_cleaner_X4_runAt : GoodIn wsX4_cleaner (wsV RX4 65 RX4 yX4_runAt wsX4_runAt) := goodIn_app (goodIn_of _ (by decide +kernel)) ggX4_cleaner_X4_runAt
set_option maxRecDepth 20000 in
theorem ggX4_cleaner_X1_used : GoodIn wsX4_cleaner wsX1_used := goodIn_r _ [13, 14, 15, 16, 17, 18, 23, 24, 25, 26, 27, 28, 29, 30, 31, 32, 33, 34, 35, 36] (by decide +kernel) (by decide +kernel)
set_option maxRecDepth 20000 in
theorem gX4_cleaner_X1_used : GoodIn wsX4_cleaner (wsV RX4 101 RX1 yX1_used wsX1_used) := goodIn_app (goodIn_of _ (by decide +kernel)) ggX4_cleaner_X1_used
set_option maxRecDepth 20000 in
theorem ggX4_interface2_X4_runAt : GoodIn wsX4_interface2 wsX4_runAt := goodIn_r _ [6, 7, 8, 25, 26, 27, 28] (by decide +kernel) (by decide +kernel)
set_option maxRecDepth 20000 in
theorem gX4_interface2_X4_runAt : GoodIn wsX4_interface2 (wsV RX4 65 RX4 yX4_runAt wsX4_runAt) := goodIn_app (goodIn_of _ (by decide +kernel)) ggX4_interface2_X4_runAt
set_option maxRecDepth 20000 in
theorem ggX4_interface2_X1_isOver : GoodIn wsX4_interface2 wsX1_isOver := goodIn_r _ [13, 14, 29, 30, 31, 32, 33, 34, 35, 36, 37, 38, 39, 40, 41, 42] (by decide +kernel) (by decide +kernel)
set_option maxRecDepth 20000 in
theorem gX4_interface2_X1_isOver : GoodIn wsX4_interface2 (wsV RX4 105 RX1 yX1_isOver wsX1_isOver) := goodIn_app (goodIn_of _ (by decide +kernel)) ggX4_interface2_X1_isOver
set_option maxRecDepth 20000 in
theorem ggX4_interface2_X4_within : GoodIn wsX4_interface2 wsX4_within := goodIn_r _ [17] (by decide +kernel) (by decide +kernel)
set_option maxRecDepth 20000 in
theorem gX4_interface2_X4_within : GoodIn wsX4_interface2 (va_wsS RX4 39 yX4_within wsX4_within) := goodIn_app (goodIn_of _ (by decide +kernel)) ggX4_interface2_X4_within
set_option maxRecDepth 20000 in
theorem ggX4_interface2_X1_setInterface : GoodIn wsX4_interface2 wsX1_setInterface := goodIn_r _ [21, 22, 23, 24, 29, 30, 31, 32, 33, 34, 35, 36, 37, 38, 39, 40, 41, 42] (by decide +kernel) (by decide +kernel)
set_option maxRecDepth 20000 in
theorem gX4_interface2_X1_setInterface : GoodIn wsX4_interface2 (wsV RX4 108 RX1 yX1_setInterface wsX1_setInterface) := goodIn_app (goodIn_of _ (by decide +kernel)) ggX4_interface2_X1_setInterface
set_option maxRecDepth 20000 in
theorem ggX4_level_X4_runAt : GoodIn wsX4_level wsX4_runAt := goodIn_r _ [7, 8, 9, 24, 25, 26, 27] (by decide +kernel) (by decide +kernel)
set_option maxRecDepth 20000 in
theorem gX4_level_X4_runAt : GoodIn wsX4_level (wsV RX4 65 RX4 yX4_runAt wsX4_runAt) := goodIn_app (goodIn_of _ (by decide +kernel)) ggX4_level_X4_runAt
set_option maxRecDepth 20000 in
theorem ggX4_breakOff_X4_runAt : GoodIn wsX4_breakOff wsX4_runAt := goodIn_r _ [5, 6, 7, 21, 22, 23, 24] (by decide +kernel) (by decide +kernel)
set_option maxRecDepth 20000 in
theorem gX4_breakOff_X4_runAt : GoodIn wsX4_breakOff (wsV RX4 65 RX4 yX4_runAt wsX4_runAt) := goodIn_app (goodIn_of _ (by decide +kernel)) ggX4_breakOff_X4_runAt
set_option maxRecDepth 20000 in
theorem ggX4_breakOff_X1_isOver : GoodIn wsX4_breakOff wsX1_isOver := goodIn_r _ [12, 13, 25, 26, 27, 28, 29, 30, 31, 32, 33, 34, 35, 36, 37, 38] (by decide +kernel) (by decide +kernel)
set_option maxRecDepth 20000 in
theorem gX4_breakOff_X1_isOver : GoodIn wsX4_breakOff (wsV RX4 105 RX1 yX1_isOver wsX1_isOver) := goodIn_app (goodIn_of _ (by decide +kernel)) ggX4_breakOff_X1_isOver
set_option maxRecDepth 20000 in
theorem ggX4_breakOff_X1_end : GoodIn wsX4_breakOff wsX1_end := goodIn_r _ [17, 18, 19, 20, 13, 25, 26, 27, 28, 29, 30, 31, 32, 33, 34, 35, 36, 37, 38, 39, 40, 41, 42, 43, 44, 45] (by decide +kernel) (by decide +kernel)
set_option maxRecDepth 20000 in
theorem gX4_breakOff_X1_end : GoodIn wsX4_breakOff (wsV RX4 115 RX1 yX1_end wsX1_end) := goodIn_app (goodIn_of _ (by decide +kernel)) ggX4_breakOff_X1_end
set_option maxRecDepth 20000 in
theorem ggX4_record_X4_runAt : GoodIn wsX4_record wsX4_runAt := goodIn_r _ [5, 6, 7, 25, 26, 27, 28] (by decide +kernel) (by decide +kernel)
set_option maxRecDepth 20000 in
theorem gX4_record_X4_runAt : GoodIn wsX4_record (wsV RX4 65 RX4 yX4_runAt wsX4_runAt) := goodIn_app (goodIn_of _ (by decide +kernel)) ggX4_record_X4_runAt
set_option maxRecDepth 20000 in
theorem ggX4_record_X1_stayAt : GoodIn wsX4_record wsX1_stayAt := goodIn_r _ [12, 13, 14, 29, 30, 31, 32, 33, 34, 35, 36, 37, 38, 39, 40, 41, 42] (by decide +kernel) (by decide +kernel)
set_option maxRecDepth 20000 in
theorem gX4_record_X1_stayAt : GoodIn wsX4_record (wsV RX4 119 RX1 yX1_stayAt wsX1_stayAt) := goodIn_app (goodIn_of _ (by decide +kernel)) ggX4_record_X1_stayAt
set_option maxRecDepth 20000 in
theorem ggX4_record_X2_told : GoodIn wsX4_record wsX2_told := goodIn_r _ [19, 20, 21, 22, 23, 24, 43, 44, 45, 46, 47, 48, 49, 50, 51, 52, 53] (by decide +kernel) (by decide +kernel)
set_option maxRecDepth 20000 in
theorem gX4_record_X2_told : GoodIn wsX4_record (wsV RX4 123 RX2 yX2_told wsX2_told) := goodIn_app (goodIn_of _ (by decide +kernel)) ggX4_record_X2_told
set_option maxRecDepth 20000 in
theorem ggX5_isOn_X5_isRun : GoodIn wsX5_isOn wsX5_isRun := goodIn_r _ [6, 7, 8, 9, 10, 11, 12, 13, 14, 15, 16, 17, 18, 19, 20, 21, 22, 23, 24, 25, 26, 27, 28, 29, 30, 31] (by decide +kernel) (by decide +kernel)
set_option maxRecDepth 20000 in
theorem gX5_isOn_X5_isRun : GoodIn wsX5_isOn (wsV RX5 89 RX5 yX5_isRun wsX5_isRun) := goodIn_app (goodIn_of _ (by decide +kernel)) ggX5_isOn_X5_isRun
set_option maxRecDepth 20000 in
theorem ggX5_tick_X5_isRun : GoodIn wsX5_tick wsX5_isRun := goodIn_r _ [21, 22, 52, 53, 54, 55, 56, 57, 58, 59, 60, 61, 62, 63, 64, 65, 66, 67, 68, 69, 70, 71, 72, 73, 74, 75] (by decide +kernel) (by decide +kernel)
set_option maxRecDepth 20000 in
theorem gX5_tick_X5_isRun : GoodIn wsX5_tick (wsV RX5 89 RX5 yX5_isRun wsX5_isRun) := goodIn_app (goodIn_of _ (by decide +kernel)) ggX5_tick_X5_isRun
set_option maxRecDepth 20000 in
theorem ggX5_tick_X5_isOn : GoodIn wsX5_tick wsX5_isOn := goodIn_r _ [26, 4, 17, 18, 19, 20, 21, 22, 52, 53, 54, 55, 56, 57, 58, 59, 60, 61, 62, 63, 64, 65, 66, 67, 68, 69, 70, 71, 72, 73, 74, 75] (by decide +kernel) (by decide +kernel)
set_option maxRecDepth 20000 in
theorem gX5_tick_X5_isOn : GoodIn wsX5_tick (wsV RX5 103 RX5 yX5_isOn wsX5_isOn) := goodIn_app (goodIn_of _ (by decide +kernel)) ggX5_tick_X5_isOn
set_option maxRecDepth 20000 in
theorem ggX5_tick_X5_place : GoodIn wsX5_tick wsX5_place := goodIn_r _ [30, 31, 32, 52, 53, 54, 55, 56, 57, 58, 59, 60, 61, 62, 63, 64, 65, 66, 67, 68, 69, 70, 71, 72, 73, 74, 75] (by decide +kernel) (by decide +kernel)
set_option maxRecDepth 20000 in
theorem gX5_tick_X5_place : GoodIn wsX5_tick (wsV RX5 106 RX5 yX5_place wsX5_place) := goodIn_app (goodIn_of _ (by decide +kernel)) ggX5_tick_X5_place
set_option maxRecDepth 20000 in
theorem ggX5_tick_X5_isHeld : GoodIn wsX5_tick wsX5_isHeld := goodIn_r _ [36, 5, 37, 9, 38, 39, 52, 53, 54, 55, 56, 57, 58, 59, 60, 61, 62, 63, 64, 65, 66, 67, 68, 69, 70, 71, 72, 73, 74, 75] (by decide +kernel) (by decide +kernel)
set_option maxRecDepth 20000 in
theorem gX5_tick_X5_isHeld : GoodIn wsX5_tick (wsV RX5 110 RX5 yX5_isHeld wsX5_isHeld) := goodIn_app (goodIn_of _ (by decide +kernel)) ggX5_tick_X5_isHeld
set_option maxRecDepth 20000 in
theorem ggX5_tick_X5_end : GoodIn wsX5_tick wsX5_end := goodIn_r _ [43, 44, 32, 10, 45, 31, 4, 46, 15, 14, 12, 13, 52, 53, 54, 55, 56, 57, 58, 59, 60, 61, 62, 63, 64, 65, 66, 67, 68, 69, 70, 71, 72, 73, 74, 75] (by decide +kernel) (by decide +kernel)
set_option maxRecDepth 20000 in
theorem gX5_tick_X5_end : GoodIn wsX5_tick (wsV RX5 114 RX5 yX5_end wsX5_end) := goodIn_app (goodIn_of _ (by decide +kernel)) ggX5_tick_X5_end
set_option maxRecDepth 20000 in
theorem ggX5_tick_X5_miss : GoodIn wsX5_tick wsX5_miss := goodIn_r _ [50, 32, 15, 14, 51, 4, 44, 10, 52, 53, 54, 55, 56, 57, 58, 59, 60, 61, 62, 63, 64, 65, 66, 67, 68, 69, 70, 71, 72, 73, 74, 75] (by decide +kernel) (by decide +kernel)
set_option maxRecDepth 20000 in
theorem gX5_tick_X5_miss : GoodIn wsX5_tick (wsV RX5 118 RX5 yX5_miss wsX5_miss) := goodIn_app (goodIn_of _ (by decide +kernel)) ggX5_tick_X5_miss
set_option maxRecDepth 20000 in
theorem ggX5_state_X5_isRun : GoodIn wsX5_state wsX5_isRun := goodIn_r _ [6, 7, 8, 9, 10, 11, 12, 13, 14, 15, 16, 17, 18, 19, 20, 21, 22, 23, 24, 25, 26, 27, 28, 29, 30, 31] (by decide +kernel) (by decide +kernel)
set_option maxRecDepth 20000 in
theorem gX5_state_X5_isRun : GoodIn wsX5_state (wsV RX5 89 RX5 yX5_isRun wsX5_isRun) := goodIn_app (goodIn_of _ (by decide +kernel)) ggX5_state_X5_isRun
set_option maxRecDepth 20000 in
theorem ggX5_stepOf_X5_isRun : GoodIn wsX5_stepOf wsX5_isRun := goodIn_r _ [6, 7, 8, 9, 10, 11, 12, 13, 14, 15, 16, 17, 18, 19, 20, 21, 22, 23, 24, 25, 26, 27, 28, 29, 30, 31] (by decide +kernel) (by decide +kernel)
set_option maxRecDepth 20000 in
theorem gX5_stepOf_X5_isRun : GoodIn wsX5_stepOf (wsV RX5 89 RX5 yX5_isRun wsX5_isRun) := goodIn_app (goodIn_of _ (by decide +kernel)) ggX5_stepOf_X5_isRun
set_option maxRecDepth 20000 in
theorem ggX5_counted_X5_isRun : GoodIn wsX5_counted wsX5_isRun := goodIn_r _ [7, 8, 9, 10, 11, 12, 13, 14, 15, 16, 17, 18, 19, 20, 21, 22, 23, 24, 25, 26, 27, 28, 29, 30, 31, 32] (by decide +kernel) (by decide +kernel)
set_option maxRecDepth 20000 in
theorem gX5_counted_X5_isRun : GoodIn wsX5_counted (wsV RX5 89 RX5 yX5_isRun wsX5_isRun) := goodIn_app (goodIn_of _ (by decide +kernel)) ggX5_counted_X5_isRun
set_option maxRecDepth 20000 in
theorem ggX5_failed_X5_isRun : GoodIn wsX5_failed wsX5_isRun := goodIn_r _ [6, 7, 8, 9, 10, 11, 12, 13, 14, 15, 16, 17, 18, 19, 20, 21, 22, 23, 24, 25, 26, 27, 28, 29, 30, 31] (by decide +kernel) (by decide +kernel)
set_option maxRecDepth 20000 in
theorem gX5_failed_X5_isRun : GoodIn wsX5_failed (wsV RX5 89 RX5 yX5_isRun wsX5_isRun) := goodIn_app (goodIn_of _ (by decide +kernel)) ggX5_failed_X5_isRun
set_option maxRecDepth 20000 in
theorem ggX5_cleaner_X5_isRun : GoodIn wsX5_cleaner wsX5_isRun := goodIn_r _ [10, 11, 12, 13, 14, 15, 16, 17, 18, 19, 20, 21, 22, 23, 24, 25, 26, 27, 28, 29, 30, 31, 32, 33, 34, 35] (by decide +kernel) (by decide +kernel)
set_option maxRecDepth 20000 in
theorem gX5_cleaner_X5_isRun : GoodIn wsX5_cleaner (wsV RX5 89 RX5 yX5_isRun wsX5_isRun) := goodIn_app (goodIn_of _ (by decide +kernel)) ggX5_cleaner_X5_isRun
set_option maxRecDepth 20000 in
theorem ggX5_interface2_X5_isOn : GoodIn wsX5_interface2 wsX5_isOn := goodIn_r _ [8, 9, 10, 11, 12, 7, 13, 14, 15, 16, 17, 18, 19, 20, 21, 22, 23, 24, 25, 26, 27, 28, 29, 30, 31, 32, 33, 34, 35, 36, 37, 38] (by decide +kernel) (by decide +kernel)
set_option maxRecDepth 20000 in
theorem gX5_interface2_X5_isOn : GoodIn wsX5_interface2 (wsV RX5 103 RX5 yX5_isOn wsX5_isOn) := goodIn_app (goodIn_of _ (by decide +kernel)) ggX5_interface2_X5_isOn
set_option maxRecDepth 20000 in
theorem ggX5_level_X5_isRun : GoodIn wsX5_level wsX5_isRun := goodIn_r _ [7, 8, 9, 10, 11, 12, 13, 14, 15, 16, 17, 18, 19, 20, 21, 22, 23, 24, 25, 26, 27, 28, 29, 30, 31, 32] (by decide +kernel) (by decide +kernel)
set_option maxRecDepth 20000 in
theorem gX5_level_X5_isRun : GoodIn wsX5_level (wsV RX5 89 RX5 yX5_isRun wsX5_isRun) := goodIn_app (goodIn_of _ (by decide +kernel)) ggX5_level_X5_isRun
set_option maxRecDepth 20000 in
theorem ggX5_breakOff_X5_isOn : GoodIn wsX5_breakOff wsX5_isOn := goodIn_r _ [9, 1, 10, 11, 12, 8, 13, 14, 15, 16, 17, 18, 19, 20, 21, 22, 23, 24, 25, 26, 27, 28, 29, 30, 31, 32, 33, 34, 35, 36, 37, 38] (by decide +kernel) (by decide +kernel)
set_option maxRecDepth 20000 in
theorem gX5_breakOff_X5_isOn : GoodIn wsX5_breakOff (wsV RX5 103 RX5 yX5_isOn wsX5_isOn) := goodIn_app (goodIn_of _ (by decide +kernel)) ggX5_breakOff_X5_isOn
set_option maxRecDepth 20000 in
theorem ggX5_record_X5_isRun : GoodIn wsX5_record wsX5_isRun := goodIn_r _ [11, 12, 13, 14, 15, 16, 17, 18, 19, 20, 21, 22, 23, 24, 25, 26, 27, 28, 29, 30, 31, 32, 33, 34, 35, 36] (by decide +kernel) (by decide +kernel)
set_option maxRecDepth 20000 in
theorem gX5_record_X5_isRun : GoodIn wsX5_record (wsV RX5 89 RX5 yX5_isRun wsX5_isRun) := goodIn_app (goodIn_of _ (by decide +kernel)) ggX5_record_X5_isRun
abbrev vwCl : List vw_C := [(RX0, TX0, 3), (RX1, TX1, 14), (RX2, TX2, 7), (RX3, TX3, 4), (RX4, TX4, 4), (RX5, TX5, 24)]
