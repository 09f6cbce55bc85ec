section
-- ===== PART A: goes FIRST, ahead of the names: the tables' words, and 'selects' of the private methods out of them =====
/-- a private method of a class that the tables say can be made, by its rows of tables_1 -/
def lw_okq (q : MethodName × Nat) : Prop := (q.1.cls ≠ "java/lang/invoke/MethodHandle" ∧ q.1.cls ≠ "java/lang/invoke/VarHandle") ∧ Cond.instantiable q.1.cls q.2 ∈ tables_1 ∧ Cond.privateMethod q.1 ∈ tables_1 ∧ Cond.instanceMethod q.1 ∈ tables_1
theorem lw_p0 : lw_okq (⟨"CleanRuns", "recipeAt", "(I)LCleanRuns$Recipe;"⟩, 4) := ⟨⟨by decide +kernel, by decide +kernel⟩, List.mem_of_getElem? (i := 8) (by decide +kernel), List.mem_of_getElem? (i := 59) (by decide +kernel), List.mem_of_getElem? (i := 60) (by decide +kernel)⟩
theorem lw_p1 : lw_okq (⟨"CleanRuns", "runAt", "(I)LCleanRuns$Run;"⟩, 4) := ⟨⟨by decide +kernel, by decide +kernel⟩, List.mem_of_getElem? (i := 8) (by decide +kernel), List.mem_of_getElem? (i := 198) (by decide +kernel), List.mem_of_getElem? (i := 199) (by decide +kernel)⟩
theorem lw_p2 : lw_okq (⟨"CleanRuns$Run", "use", "(DZ)V"⟩, 14) := ⟨⟨by decide +kernel, by decide +kernel⟩, List.mem_of_getElem? (i := 104) (by decide +kernel), List.mem_of_getElem? (i := 219) (by decide +kernel), List.mem_of_getElem? (i := 220) (by decide +kernel)⟩
theorem lw_p3 : lw_okq (⟨"CleanRuns$Run", "waitASecond", "(D)V"⟩, 14) := ⟨⟨by decide +kernel, by decide +kernel⟩, List.mem_of_getElem? (i := 104) (by decide +kernel), List.mem_of_getElem? (i := 228) (by decide +kernel), List.mem_of_getElem? (i := 229) (by decide +kernel)⟩
theorem lw_p4 : lw_okq (⟨"CleanRuns$Run", "countASecond", "()V"⟩, 14) := ⟨⟨by decide +kernel, by decide +kernel⟩, List.mem_of_getElem? (i := 104) (by decide +kernel), List.mem_of_getElem? (i := 237) (by decide +kernel), List.mem_of_getElem? (i := 238) (by decide +kernel)⟩
theorem lw_p5 : lw_okq (⟨"CleanRuns$Run", "begin", "(LCleanRuns$Step;)V"⟩, 14) := ⟨⟨by decide +kernel, by decide +kernel⟩, List.mem_of_getElem? (i := 104) (by decide +kernel), List.mem_of_getElem? (i := 246) (by decide +kernel), List.mem_of_getElem? (i := 247) (by decide +kernel)⟩
theorem lw_p6 : lw_okq (⟨"CleanRuns$Run", "missASecond", "()V"⟩, 14) := ⟨⟨by decide +kernel, by decide +kernel⟩, List.mem_of_getElem? (i := 104) (by decide +kernel), List.mem_of_getElem? (i := 250) (by decide +kernel), List.mem_of_getElem? (i := 251) (by decide +kernel)⟩
theorem lw_p7 : lw_okq (⟨"CleanRunsModel", "isRun", "(I)Z"⟩, 24) := ⟨⟨by decide +kernel, by decide +kernel⟩, List.mem_of_getElem? (i := 316) (by decide +kernel), List.mem_of_getElem? (i := 416) (by decide +kernel), List.mem_of_getElem? (i := 417) (by decide +kernel)⟩
theorem lw_p8 : lw_okq (⟨"CleanRunsModel", "isOn", "(I)Z"⟩, 24) := ⟨⟨by decide +kernel, by decide +kernel⟩, List.mem_of_getElem? (i := 316) (by decide +kernel), List.mem_of_getElem? (i := 423) (by decide +kernel), List.mem_of_getElem? (i := 424) (by decide +kernel)⟩
theorem lw_p9 : lw_okq (⟨"CleanRunsModel", "place", "(I)I"⟩, 24) := ⟨⟨by decide +kernel, by decide +kernel⟩, List.mem_of_getElem? (i := 316) (by decide +kernel), List.mem_of_getElem? (i := 427) (by decide +kernel), List.mem_of_getElem? (i := 428) (by decide +kernel)⟩
theorem lw_p10 : lw_okq (⟨"CleanRunsModel", "isHeld", "(IDDD)Z"⟩, 24) := ⟨⟨by decide +kernel, by decide +kernel⟩, List.mem_of_getElem? (i := 316) (by decide +kernel), List.mem_of_getElem? (i := 431) (by decide +kernel), List.mem_of_getElem? (i := 432) (by decide +kernel)⟩
theorem lw_p11 : lw_okq (⟨"CleanRunsModel", "end", "(I)V"⟩, 24) := ⟨⟨by decide +kernel, by decide +kernel⟩, List.mem_of_getElem? (i := 316) (by decide +kernel), List.mem_of_getElem? (i := 437) (by decide +kernel), List.mem_of_getElem? (i := 438) (by decide +kernel)⟩
theorem lw_p12 : lw_okq (⟨"CleanRunsModel", "miss", "(I)V"⟩, 24) := ⟨⟨by decide +kernel, by decide +kernel⟩, List.mem_of_getElem? (i := 316) (by decide +kernel), List.mem_of_getElem? (i := 441) (by decide +kernel), List.mem_of_getElem? (i := 442) (by decide +kernel)⟩
def lw_privs_1 : List (MethodName × Nat) := [(⟨"CleanRuns", "recipeAt", "(I)LCleanRuns$Recipe;"⟩, 4), (⟨"CleanRuns", "runAt", "(I)LCleanRuns$Run;"⟩, 4), (⟨"CleanRuns$Run", "use", "(DZ)V"⟩, 14), (⟨"CleanRuns$Run", "waitASecond", "(D)V"⟩, 14), (⟨"CleanRuns$Run", "countASecond", "()V"⟩, 14), (⟨"CleanRuns$Run", "begin", "(LCleanRuns$Step;)V"⟩, 14), (⟨"CleanRuns$Run", "missASecond", "()V"⟩, 14), (⟨"CleanRunsModel", "isRun", "(I)Z"⟩, 24), (⟨"CleanRunsModel", "isOn", "(I)Z"⟩, 24), (⟨"CleanRunsModel", "place", "(I)I"⟩, 24), (⟨"CleanRunsModel", "isHeld", "(IDDD)Z"⟩, 24), (⟨"CleanRunsModel", "end", "(I)V"⟩, 24), (⟨"CleanRunsModel", "miss", "(I)V"⟩, 24)]
theorem lw_r1 : ∀ q ∈ lw_privs_1, lw_okq q := List.forall_mem_cons.mpr ⟨lw_p0, List.forall_mem_cons.mpr ⟨lw_p1, List.forall_mem_cons.mpr ⟨lw_p2, List.forall_mem_cons.mpr ⟨lw_p3, List.forall_mem_cons.mpr ⟨lw_p4, List.forall_mem_cons.mpr ⟨lw_p5, List.forall_mem_cons.mpr ⟨lw_p6, List.forall_mem_cons.mpr ⟨lw_p7, List.forall_mem_cons.mpr ⟨lw_p8, List.forall_mem_cons.mpr ⟨lw_p9, List.forall_mem_cons.mpr ⟨lw_p10, List.forall_mem_cons.mpr ⟨lw_p11, List.forall_mem_cons.mpr ⟨lw_p12, fun _ h => absurd h List.not_mem_nil⟩⟩⟩⟩⟩⟩⟩⟩⟩⟩⟩⟩⟩
def lw_privs : List (MethodName × Nat) := lw_privs_1
def lw_tbl : List Cond := k2_sels lw_privs ++ tables_1
theorem lw_privs_ok : ∀ q ∈ lw_privs, lw_okq q := lw_r1
/-- the streams that the claim lets the run draw from -/
abbrev lw_cs : List Choice := [Jvm.Choice.named "NaN.bits"]
theorem lw_bits : nanBits ∈ lw_cs := by first | decide | exact List.mem_cons_self | simp [lw_cs, nanBits]
-- ===== end of PART A; then your names; then what follows =====
end
section
/-! ===== BEGIN words of one list among another's, by their places ===== -/
theorem goodIn_r {big : List Cond} (ws : List Cond) (ps : List Nat) (hp : ws = ps.filterMap (fun i => big[i]?)) (h : ws.all goodWord = true) : GoodIn big ws := by
  intro w hw
  have h1 := List.all_eq_true.mp h w hw
  rw [hp] at hw
  obtain ⟨i, -, hi⟩ := List.mem_filterMap.mp hw
  have hm : w ∈ big := by first | exact List.mem_of_getElem? hi | exact List.getElem?_mem hi
  exact ⟨hm, good_of_word h1⟩
theorem goodIn_app {big a b : List Cond} (ha : GoodIn big a) (hb : GoodIn big b) : GoodIn big (a ++ b) := fun w h => (List.mem_append.mp h).elim (ha w) (hb w)
theorem goodIn_ca {big a b : List Cond} {c : Cond} (ha : GoodIn big (c :: a)) (hb : GoodIn big b) : GoodIn big (c :: (a ++ b)) := fun w h => (List.mem_cons.mp h).elim (fun e => ha w (List.mem_cons.mpr (Or.inl e))) (fun h => (List.mem_append.mp h).elim (fun h => ha w (List.mem_cons.mpr (Or.inr h))) (hb w))
theorem goodIn_sub {big ws : List Cond} (hm : ∀ w ∈ ws, w ∈ big) (h : ws.all goodWord = true) : GoodIn big ws := fun w hw => ⟨hm w hw, good_of_word (List.all_eq_true.mp h w hw)⟩
/-! ===== END ===== -/

/-! ===== BEGIN printed: names, fields, word lists, decode rows ===== -/
def RX0 : String := "CleanRuns$Recipe"
def TX0 : u_T := fun k => match k with
  | 0 => ("CleanRuns$Recipe", "steps", "[LCleanRuns$Step;", true)
  | 1 => ("CleanRuns$Recipe", "size", "I", false)
  | _ => ("CleanRuns$Recipe", "begun", "Z", false)
def tyX0 : Nat → FieldType := fun k => match k with
  | 0 => .array (.object "CleanRuns$Step")
  | 1 => .int
  | _ => .boolean
abbrev wsX00 : List Cond := u_ws RX0 TX0 3
theorem nmX0 : ∀ a, a < 3 → ∀ b, b < 3 → a ≠ b → (TX0 a).2.1 ≠ (TX0 b).2.1 := by decide +kernel
theorem tyX0_ok : ∀ k, k < 3 → parseFieldDescriptor (TX0 k).2.2.1 = some (tyX0 k) := by decide +kernel
abbrev cX0_init : ByteArray := prog_2_method_1_code
def yX0_init : MethodName := ⟨RX0, "<init>", "()V"⟩
abbrev cX0_takesAStep : ByteArray := prog_2_method_2_code
def yX0_takesAStep : MethodName := ⟨RX0, "takesAStep", "()Z"⟩
abbrev cX0_append : ByteArray := prog_2_method_3_code
def yX0_append : MethodName := ⟨RX0, "append", "(LCleanRuns$Step;)V"⟩
abbrev cX0_stepAt : ByteArray := prog_2_method_4_code
def yX0_stepAt : MethodName := ⟨RX0, "stepAt", "(I)LCleanRuns$Step;"⟩
def RX1 : String := "CleanRuns$Run"
def TX1 : u_T := fun k => match k with
  | 0 => ("CleanRuns$Run", "recipe", "LCleanRuns$Recipe;", true)
  | 1 => ("CleanRuns$Run", "goal", "I", true)
  | 2 => ("CleanRuns$Run", "stays", "[LCleanRuns$Stay;", true)
  | 3 => ("CleanRuns$Run", "current", "LCleanRuns$Stay;", false)
  | 4 => ("CleanRuns$Run", "begunSteps", "I", false)
  | 5 => ("CleanRuns$Run", "state", "I", false)
  | 6 => ("CleanRuns$Run", "second", "I", false)
  | 7 => ("CleanRuns$Run", "failures", "I", false)
  | 8 => ("CleanRuns$Run", "hasInterface", "Z", false)
  | 9 => ("CleanRuns$Run", "interfaceValue", "D", false)
  | 10 => ("CleanRuns$Run", "interfaceHold", "I", false)
  | 11 => ("CleanRuns$Run", "water", "D", false)
  | 12 => ("CleanRuns$Run", "out", "D", false)
  | _ => ("CleanRuns$Run", "back", "D", false)
def tyX1 : Nat → FieldType := fun k => match k with
  | 0 => .object "CleanRuns$Recipe"
  | 1 => .int
  | 2 => .array (.object "CleanRuns$Stay")
  | 3 => .object "CleanRuns$Stay"
  | 4 => .int
  | 5 => .int
  | 6 => .int
  | 7 => .int
  | 8 => .boolean
  | 9 => .double
  | 10 => .int
  | 11 => .double
  | 12 => .double
  | _ => .double
abbrev wsX10 : List Cond := u_ws RX1 TX1 14
theorem nmX1 : ∀ a, a < 14 → ∀ b, b < 14 → a ≠ b → (TX1 a).2.1 ≠ (TX1 b).2.1 := by decide +kernel
theorem tyX1_ok : ∀ k, k < 14 → parseFieldDescriptor (TX1 k).2.2.1 = some (tyX1 k) := by decide +kernel
abbrev cX1_init : ByteArray := prog_3_method_1_code
def yX1_init : MethodName := ⟨RX1, "<init>", "(LCleanRuns$Recipe;LCleanRuns$Step;I)V"⟩
abbrev cX1_isOver : ByteArray := prog_3_method_2_code
def yX1_isOver : MethodName := ⟨RX1, "isOver", "()Z"⟩
abbrev cX1_stayAt : ByteArray := prog_3_method_3_code
def yX1_stayAt : MethodName := ⟨RX1, "stayAt", "(I)LCleanRuns$Stay;"⟩
abbrev cX1_used : ByteArray := prog_3_method_4_code
def yX1_used : MethodName := ⟨RX1, "used", "(I)D"⟩
abbrev cX1_setInterface : ByteArray := prog_3_method_5_code
def yX1_setInterface : MethodName := ⟨RX1, "setInterface", "(DI)V"⟩
abbrev cX1_passSecond : ByteArray := prog_3_method_6_code
def yX1_passSecond : MethodName := ⟨RX1, "passSecond", "(DDD)V"⟩
abbrev cX1_use : ByteArray := prog_3_method_7_code
def yX1_use : MethodName := ⟨RX1, "use", "(DZ)V"⟩
abbrev cX1_waitASecond : ByteArray := prog_3_method_8_code
def yX1_waitASecond : MethodName := ⟨RX1, "waitASecond", "(D)V"⟩
abbrev cX1_countASecond : ByteArray := prog_3_method_9_code
def yX1_countASecond : MethodName := ⟨RX1, "countASecond", "()V"⟩
abbrev cX1_begin : ByteArray := prog_3_method_10_code
def yX1_begin : MethodName := ⟨RX1, "begin", "(LCleanRuns$Step;)V"⟩
abbrev cX1_missASecond : ByteArray := prog_3_method_11_code
def yX1_missASecond : MethodName := ⟨RX1, "missASecond", "()V"⟩
abbrev cX1_end : ByteArray := prog_3_method_12_code
def yX1_end : MethodName := ⟨RX1, "end", "(I)V"⟩
def RX2 : String := "CleanRuns$Stay"
def TX2 : u_T := fun k => match k with
  | 0 => ("CleanRuns$Stay", "step", "LCleanRuns$Step;", true)
  | 1 => ("CleanRuns$Stay", "firstSecond", "I", true)
  | 2 => ("CleanRuns$Stay", "endSecond", "I", false)
  | 3 => ("CleanRuns$Stay", "waited", "I", false)
  | 4 => ("CleanRuns$Stay", "counted", "I", false)
  | 5 => ("CleanRuns$Stay", "missed", "I", false)
  | _ => ("CleanRuns$Stay", "failures", "I", false)
def tyX2 : Nat → FieldType := fun k => match k with
  | 0 => .object "CleanRuns$Step"
  | 1 => .int
  | 2 => .int
  | 3 => .int
  | 4 => .int
  | 5 => .int
  | _ => .int
abbrev wsX20 : List Cond := u_ws RX2 TX2 7
theorem nmX2 : ∀ a, a < 7 → ∀ b, b < 7 → a ≠ b → (TX2 a).2.1 ≠ (TX2 b).2.1 := by decide +kernel
theorem tyX2_ok : ∀ k, k < 7 → parseFieldDescriptor (TX2 k).2.2.1 = some (tyX2 k) := by decide +kernel
abbrev cX2_init : ByteArray := prog_4_method_1_code
def yX2_init : MethodName := ⟨RX2, "<init>", "(LCleanRuns$Step;I)V"⟩
abbrev cX2_told : ByteArray := prog_4_method_2_code
def yX2_told : MethodName := ⟨RX2, "told", "(I)I"⟩
def RX3 : String := "CleanRuns$Step"
def TX3 : u_T := fun k => match k with
  | 0 => ("CleanRuns$Step", "kind", "I", true)
  | 1 => ("CleanRuns$Step", "seconds", "I", true)
  | 2 => ("CleanRuns$Step", "strength", "D", true)
  | _ => ("CleanRuns$Step", "degrees", "D", true)
def tyX3 : Nat → FieldType := fun k => match k with
  | 0 => .int
  | 1 => .int
  | 2 => .double
  | _ => .double
abbrev wsX30 : List Cond := u_ws RX3 TX3 4
theorem nmX3 : ∀ a, a < 4 → ∀ b, b < 4 → a ≠ b → (TX3 a).2.1 ≠ (TX3 b).2.1 := by decide +kernel
theorem tyX3_ok : ∀ k, k < 4 → parseFieldDescriptor (TX3 k).2.2.1 = some (tyX3 k) := by decide +kernel
abbrev cX3_init : ByteArray := prog_5_method_1_code
def yX3_init : MethodName := ⟨RX3, "<init>", "(IIDD)V"⟩
abbrev cX3_usesWater : ByteArray := prog_5_method_2_code
def yX3_usesWater : MethodName := ⟨RX3, "usesWater", "()Z"⟩
abbrev cX3_holds : ByteArray := prog_5_method_3_code
def yX3_holds : MethodName := ⟨RX3, "holds", "(DDD)Z"⟩
abbrev cX3_passesInterface : ByteArray := prog_5_method_4_code
def yX3_passesInterface : MethodName := ⟨RX3, "passesInterface", "(DD)Z"⟩
def RX4 : String := "CleanRuns"
def TX4 : u_T := fun k => match k with
  | 0 => ("CleanRuns", "recipes", "[LCleanRuns$Recipe;", true)
  | 1 => ("CleanRuns", "runs", "[LCleanRuns$Run;", true)
  | 2 => ("CleanRuns", "recipeCount", "I", false)
  | _ => ("CleanRuns", "runCount", "I", false)
def tyX4 : Nat → FieldType := fun k => match k with
  | 0 => .array (.object "CleanRuns$Recipe")
  | 1 => .array (.object "CleanRuns$Run")
  | 2 => .int
  | _ => .int
abbrev wsX40 : List Cond := u_ws RX4 TX4 4
theorem nmX4 : ∀ a, a < 4 → ∀ b, b < 4 → a ≠ b → (TX4 a).2.1 ≠ (TX4 b).2.1 := by decide +kernel
theorem tyX4_ok : ∀ k, k < 4 → parseFieldDescriptor (TX4 k).2.2.1 = some (tyX4 k) := by decide +kernel
abbrev cX4_init : ByteArray := prog_1_method_1_code
def yX4_init : MethodName := ⟨RX4, "<init>", "()V"⟩
abbrev cX4_recipe : ByteArray := prog_1_method_2_code
def yX4_recipe : MethodName := ⟨RX4, "recipe", "()I"⟩
abbrev cX4_step : ByteArray := prog_1_method_3_code
def yX4_step : MethodName := ⟨RX4, "step", "(IIIDD)Z"⟩
abbrev cX4_start : ByteArray := prog_1_method_4_code
def yX4_start : MethodName := ⟨RX4, "start", "(II)I"⟩
abbrev cX4_tick : ByteArray := prog_1_method_5_code
def yX4_tick : MethodName := ⟨RX4, "tick", "(IDDD)I"⟩
abbrev cX4_state : ByteArray := prog_1_method_6_code
def yX4_state : MethodName := ⟨RX4, "state", "(I)I"⟩
abbrev cX4_stepOf : ByteArray := prog_1_method_7_code
def yX4_stepOf : MethodName := ⟨RX4, "stepOf", "(I)I"⟩
abbrev cX4_counted : ByteArray := prog_1_method_8_code
def yX4_counted : MethodName := ⟨RX4, "counted", "(I)J"⟩
abbrev cX4_failed : ByteArray := prog_1_method_9_code
def yX4_failed : MethodName := ⟨RX4, "failed", "(I)I"⟩
abbrev cX4_cleaner : ByteArray := prog_1_method_10_code
def yX4_cleaner : MethodName := ⟨RX4, "cleaner", "(II)D"⟩
abbrev cX4_interface2 : ByteArray := prog_1_method_11_code
def yX4_interface2 : MethodName := ⟨RX4, "interface2", "(IDI)Z"⟩
abbrev cX4_level : ByteArray := prog_1_method_12_code
def yX4_level : MethodName := ⟨RX4, "level", "(I)I"⟩
abbrev cX4_breakOff : ByteArray := prog_1_method_13_code
def yX4_breakOff : MethodName := ⟨RX4, "breakOff", "(I)Z"⟩
abbrev cX4_record : ByteArray := prog_1_method_14_code
def yX4_record : MethodName := ⟨RX4, "record", "(III)I"⟩
abbrev cX4_states : ByteArray := prog_1_method_15_code
def yX4_states : MethodName := ⟨RX4, "states", "()I"⟩
abbrev cX4_recipeAt : ByteArray := prog_1_method_16_code
def yX4_recipeAt : MethodName := ⟨RX4, "recipeAt", "(I)LCleanRuns$Recipe;"⟩
abbrev cX4_runAt : ByteArray := prog_1_method_17_code
def yX4_runAt : MethodName := ⟨RX4, "runAt", "(I)LCleanRuns$Run;"⟩
abbrev cX4_within : ByteArray := prog_1_method_18_code
def yX4_within : MethodName := ⟨RX4, "within", "(DDD)Z"⟩
def RX5 : String := "CleanRunsModel"
def TX5 : u_T := fun k => match k with
  | 0 => ("CleanRunsModel", "recipes", "I", false)
  | 1 => ("CleanRunsModel", "lengths", "[I", true)
  | 2 => ("CleanRunsModel", "begun", "[Z", true)
  | 3 => ("CleanRunsModel", "kinds", "[I", true)
  | 4 => ("CleanRunsModel", "seconds", "[I", true)
  | 5 => ("CleanRunsModel", "strengths", "[D", true)
  | 6 => ("CleanRunsModel", "warmths", "[D", true)
  | 7 => ("CleanRunsModel", "runs", "I", false)
  | 8 => ("CleanRunsModel", "of", "[I", true)
  | 9 => ("CleanRunsModel", "levels", "[I", true)
  | 10 => ("CleanRunsModel", "states", "[I", true)
  | 11 => ("CleanRunsModel", "at", "[I", true)
  | 12 => ("CleanRunsModel", "now", "[I", true)
  | 13 => ("CleanRunsModel", "counts", "[I", true)
  | 14 => ("CleanRunsModel", "missed", "[I", true)
  | 15 => ("CleanRunsModel", "waited", "[I", true)
  | 16 => ("CleanRunsModel", "values", "[D", true)
  | 17 => ("CleanRunsModel", "holds", "[I", true)
  | 18 => ("CleanRunsModel", "water", "[D", true)
  | 19 => ("CleanRunsModel", "out", "[D", true)
  | 20 => ("CleanRunsModel", "back", "[D", true)
  | 21 => ("CleanRunsModel", "fails", "[I", true)
  | 22 => ("CleanRunsModel", "began", "[I", true)
  | _ => ("CleanRunsModel", "ended", "[I", true)
def tyX5 : Nat → FieldType := fun k => match k with
  | 0 => .int
  | 1 => .array .int
  | 2 => .array .boolean
  | 3 => .array .int
  | 4 => .array .int
  | 5 => .array .double
  | 6 => .array .double
  | 7 => .int
  | 8 => .array .int
  | 9 => .array .int
  | 10 => .array .int
  | 11 => .array .int
  | 12 => .array .int
  | 13 => .array .int
  | 14 => .array .int
  | 15 => .array .int
  | 16 => .array .double
  | 17 => .array .int
  | 18 => .array .double
  | 19 => .array .double
  | 20 => .array .double
  | 21 => .array .int
  | 22 => .array .int
  | _ => .array .int
abbrev wsX50 : List Cond := u_ws RX5 TX5 24
theorem nmX5 : ∀ a, a < 24 → ∀ b, b < 24 → a ≠ b → (TX5 a).2.1 ≠ (TX5 b).2.1 := by decide +kernel
theorem tyX5_ok : ∀ k, k < 24 → parseFieldDescriptor (TX5 k).2.2.1 = some (tyX5 k) := by decide +kernel
abbrev cX5_init : ByteArray := prog_7_method_1_code
def yX5_init : MethodName := ⟨RX5, "<init>", "()V"⟩
abbrev cX5_recipe : ByteArray := prog_7_method_2_code
def yX5_recipe : MethodName := ⟨RX5, "recipe", "()I"⟩
abbrev cX5_step : ByteArray := prog_7_method_3_code
def yX5_step : MethodName := ⟨RX5, "step", "(IIIDD)Z"⟩
abbrev cX5_start : ByteArray := prog_7_method_4_code
def yX5_start : MethodName := ⟨RX5, "start", "(II)I"⟩
abbrev cX5_isRun : ByteArray := prog_7_method_5_code
def yX5_isRun : MethodName := ⟨RX5, "isRun", "(I)Z"⟩
abbrev cX5_isOn : ByteArray := prog_7_method_6_code
def yX5_isOn : MethodName := ⟨RX5, "isOn", "(I)Z"⟩
abbrev cX5_place : ByteArray := prog_7_method_7_code
def yX5_place : MethodName := ⟨RX5, "place", "(I)I"⟩
abbrev cX5_isHeld : ByteArray := prog_7_method_8_code
def yX5_isHeld : MethodName := ⟨RX5, "isHeld", "(IDDD)Z"⟩
abbrev cX5_tick : ByteArray := prog_7_method_9_code
def yX5_tick : MethodName := ⟨RX5, "tick", "(IDDD)I"⟩
abbrev cX5_end : ByteArray := prog_7_method_10_code
def yX5_end : MethodName := ⟨RX5, "end", "(I)V"⟩
abbrev cX5_miss : ByteArray := prog_7_method_11_code
def yX5_miss : MethodName := ⟨RX5, "miss", "(I)V"⟩
abbrev cX5_state : ByteArray := prog_7_method_12_code
def yX5_state : MethodName := ⟨RX5, "state", "(I)I"⟩
abbrev cX5_stepOf : ByteArray := prog_7_method_13_code
def yX5_stepOf : MethodName := ⟨RX5, "stepOf", "(I)I"⟩
abbrev cX5_counted : ByteArray := prog_7_method_14_code
def yX5_counted : MethodName := ⟨RX5, "counted", "(I)J"⟩
abbrev cX5_failed : ByteArray := prog_7_method_15_code
def yX5_failed : MethodName := ⟨RX5, "failed", "(I)I"⟩
abbrev cX5_cleaner : ByteArray := prog_7_method_16_code
def yX5_cleaner : MethodName := ⟨RX5, "cleaner", "(II)D"⟩
abbrev cX5_interface2 : ByteArray := prog_7_method_17_code
def yX5_interface2 : MethodName := ⟨RX5, "interface2", "(IDI)Z"⟩
abbrev cX5_level : ByteArray := prog_7_method_18_code
def yX5_level : MethodName := ⟨RX5, "level", "(I)I"⟩
abbrev cX5_breakOff : ByteArray := prog_7_method_19_code
def yX5_breakOff : MethodName := ⟨RX5, "breakOff", "(I)Z"⟩
abbrev cX5_record : ByteArray := prog_7_method_20_code
def yX5_record : MethodName := ⟨RX5, "record", "(III)I"⟩
abbrev cX5_states : ByteArray := prog_7_method_21_code
def yX5_states : MethodName := ⟨RX5, "states", "()I"⟩
def RL : String := "CleanRunsLaw"
abbrev cL_law : ByteArray := code
def yL_law : MethodName := ⟨RL, "law", "([I)Z"⟩
def wsX0_init : List Cond := .code yX0_init cX0_init 1 none :: ([.methodLink RX0 3 objectInit, .instanceMethod objectInit, .code objectInit ⟨#[0xb1]⟩ 1 none, .classLink RX0 9 RX3, .fieldLink RX0 11 "CleanRuns$Recipe" "steps" "[LCleanRuns$Step;", .fieldLink RX0 17 "CleanRuns$Recipe" "size" "I", .fieldLink RX0 21 "CleanRuns$Recipe" "begun" "Z"] ++ wsX00)
def wsX0_takesAStep : List Cond := .code yX0_takesAStep cX0_takesAStep 1 (some .boolean) :: ([.fieldLink RX0 21 "CleanRuns$Recipe" "begun" "Z", .fieldLink RX0 17 "CleanRuns$Recipe" "size" "I", .fieldLink RX0 11 "CleanRuns$Recipe" "steps" "[LCleanRuns$Step;"] ++ wsX00)
def wsX0_append : List Cond := .code yX0_append cX0_append 2 none :: ([.fieldLink RX0 17 "CleanRuns$Recipe" "size" "I", .fieldLink RX0 11 "CleanRuns$Recipe" "steps" "[LCleanRuns$Step;"] ++ wsX00)
def wsX0_stepAt : List Cond := .code yX0_stepAt cX0_stepAt 2 (some (.object "CleanRuns$Step")) :: ([.fieldLink RX0 17 "CleanRuns$Recipe" "size" "I", .fieldLink RX0 11 "CleanRuns$Recipe" "steps" "[LCleanRuns$Step;"] ++ wsX00)
def wsX2_init : List Cond := .code yX2_init cX2_init 3 none :: ([.methodLink RX2 3 objectInit, .instanceMethod objectInit, .code objectInit ⟨#[0xb1]⟩ 1 none, .fieldLink RX2 9 "CleanRuns$Stay" "step" "LCleanRuns$Step;", .fieldLink RX2 15 "CleanRuns$Stay" "firstSecond" "I", .fieldLink RX2 19 "CleanRuns$Stay" "endSecond" "I", .fieldLink RX2 22 "CleanRuns$Stay" "waited" "I", .fieldLink RX2 25 "CleanRuns$Stay" "counted" "I", .fieldLink RX2 28 "CleanRuns$Stay" "missed" "I", .fieldLink RX2 31 "CleanRuns$Stay" "failures" "I"] ++ wsX20)
def wsX1_init_r1 : List Cond := [Cond.methodLink RX1 3 objectInit, Cond.instanceMethod objectInit, Cond.code objectInit ⟨#[0xb1]⟩ 1 none, Cond.fieldLink RX1 9 "CleanRuns$Run" "recipe" "LCleanRuns$Recipe;", Cond.fieldLink RX1 15 "CleanRuns$Run" "goal" "I", Cond.classLink RX1 19 RX2, Cond.fieldLink RX1 21 "CleanRuns$Run" "stays" "[LCleanRuns$Stay;", Cond.instantiable RX2 7, Cond.initialized RX2, Cond.fieldLink RX1 28 "CleanRuns$Run" "current" "LCleanRuns$Stay;", Cond.fieldLink RX1 32 "CleanRuns$Run" "begunSteps" "I", Cond.fieldLink RX1 35 "CleanRuns$Run" "state" "I", Cond.fieldLink RX1 38 "CleanRuns$Run" "second" "I", Cond.fieldLink RX1 41 "CleanRuns$Run" "failures" "I", Cond.fieldLink RX1 44 "CleanRuns$Run" "hasInterface" "Z", Cond.fieldLink RX1 48 "CleanRuns$Run" "interfaceValue" "D", Cond.fieldLink RX1 52 "CleanRuns$Run" "interfaceHold" "I", Cond.fieldLink RX1 55 "CleanRuns$Run" "water" "D", Cond.fieldLink RX1 58 "CleanRuns$Run" "out" "D", Cond.fieldLink RX1 61 "CleanRuns$Run" "back" "D", Cond.methodLink RX1 25 yX2_init, Cond.instanceMethod yX2_init, Cond.code yX2_init cX2_init 3 none, Cond.methodLink RX2 3 objectInit]
def wsX1_init_r2 : List Cond := [Cond.fieldLink RX2 9 "CleanRuns$Stay" "step" "LCleanRuns$Step;", Cond.fieldLink RX2 15 "CleanRuns$Stay" "firstSecond" "I", Cond.fieldLink RX2 19 "CleanRuns$Stay" "endSecond" "I", Cond.fieldLink RX2 22 "CleanRuns$Stay" "waited" "I", Cond.fieldLink RX2 25 "CleanRuns$Stay" "counted" "I", Cond.fieldLink RX2 28 "CleanRuns$Stay" "missed" "I", Cond.fieldLink RX2 31 "CleanRuns$Stay" "failures" "I"]
def wsX1_init : List Cond := .code yX1_init cX1_init 4 none :: ((wsX1_init_r1 ++ wsX1_init_r2) ++ wsX10 ++ wsX20)
def wsX1_isOver : List Cond := .code yX1_isOver cX1_isOver 1 (some .boolean) :: ([.fieldLink RX1 35 "CleanRuns$Run" "state" "I"] ++ wsX10)
def wsX1_stayAt : List Cond := .code yX1_stayAt cX1_stayAt 2 (some (.object "CleanRuns$Stay")) :: ([.fieldLink RX1 32 "CleanRuns$Run" "begunSteps" "I", .fieldLink RX1 21 "CleanRuns$Run" "stays" "[LCleanRuns$Stay;"] ++ wsX10)
def wsX1_used : List Cond := .code yX1_used cX1_used 2 (some .double) :: ([.fieldLink RX1 55 "CleanRuns$Run" "water" "D", .fieldLink RX1 58 "CleanRuns$Run" "out" "D", .fieldLink RX1 61 "CleanRuns$Run" "back" "D", .constantDouble RX1 64 (4652007308841189376), .constantDouble RX1 66 (13830554455654793216)] ++ wsX10)
def wsX1_setInterface : List Cond := .code yX1_setInterface cX1_setInterface 4 none :: ([.fieldLink RX1 44 "CleanRuns$Run" "hasInterface" "Z", .fieldLink RX1 48 "CleanRuns$Run" "interfaceValue" "D", .fieldLink RX1 52 "CleanRuns$Run" "interfaceHold" "I"] ++ wsX10)
def wsX3_holds : List Cond := .code yX3_holds cX3_holds 7 (some .boolean) :: ([.fieldLink RX3 9 "CleanRuns$Step" "kind" "I", .fieldLink RX3 18 "CleanRuns$Step" "strength" "D", .fieldLink RX3 22 "CleanRuns$Step" "degrees" "D", .constantDouble RX3 25 (4602678819172646912), .constantDouble RX3 27 (4593671619917905920)] ++ wsX30)
def wsX3_usesWater : List Cond := .code yX3_usesWater cX3_usesWater 1 (some .boolean) :: ([.fieldLink RX3 9 "CleanRuns$Step" "kind" "I"] ++ wsX30)
def wsX1_use : List Cond := .code yX1_use cX1_use 4 none :: ([.fieldLink RX1 28 "CleanRuns$Run" "current" "LCleanRuns$Stay;", .fieldLink RX1 72 "CleanRuns$Stay" "step" "LCleanRuns$Step;", .fieldLink RX1 55 "CleanRuns$Run" "water" "D", .fieldLink RX1 58 "CleanRuns$Run" "out" "D", .fieldLink RX1 35 "CleanRuns$Run" "state" "I", .fieldLink RX1 61 "CleanRuns$Run" "back" "D", .constantDouble RX1 99 (4602678819172646912), .methodLink RX1 96 yX3_usesWater, .instanceMethod yX3_usesWater, .selects RX3 yX3_usesWater yX3_usesWater, .initialized RX3, .code yX3_usesWater cX3_usesWater 1 (some .boolean), .fieldLink RX3 9 "CleanRuns$Step" "kind" "I"] ++ wsX10 ++ wsX20 ++ wsX30)
def wsX3_passesInterface : List Cond := .code yX3_passesInterface cX3_passesInterface 5 (some .boolean) :: ([.methodLink RX3 29 yX3_usesWater, .instanceMethod yX3_usesWater, .selects RX3 yX3_usesWater yX3_usesWater, .initialized RX3, .code yX3_usesWater cX3_usesWater 1 (some .boolean), .fieldLink RX3 9 "CleanRuns$Step" "kind" "I"] ++ wsX30)
def wsX1_waitASecond : List Cond := .code yX1_waitASecond cX1_waitASecond 3 none :: ([.fieldLink RX1 28 "CleanRuns$Run" "current" "LCleanRuns$Stay;", .fieldLink RX1 72 "CleanRuns$Stay" "step" "LCleanRuns$Step;", .fieldLink RX1 48 "CleanRuns$Run" "interfaceValue" "D", .fieldLink RX1 105 "CleanRuns$Stay" "waited" "I", .fieldLink RX1 52 "CleanRuns$Run" "interfaceHold" "I", .fieldLink RX1 35 "CleanRuns$Run" "state" "I", .methodLink RX1 101 yX3_passesInterface, .instanceMethod yX3_passesInterface, .selects RX3 yX3_passesInterface yX3_passesInterface, .initialized RX3, .code yX3_passesInterface cX3_passesInterface 5 (some .boolean), .methodLink RX3 29 yX3_usesWater, .instanceMethod yX3_usesWater, .selects RX3 yX3_usesWater yX3_usesWater, .code yX3_usesWater cX3_usesWater 1 (some .boolean), .fieldLink RX3 9 "CleanRuns$Step" "kind" "I"] ++ wsX10 ++ wsX20 ++ wsX30)
def wsX1_end : List Cond := .code yX1_end cX1_end 2 none :: ([.fieldLink RX1 28 "CleanRuns$Run" "current" "LCleanRuns$Stay;", .fieldLink RX1 38 "CleanRuns$Run" "second" "I", .fieldLink RX1 127 "CleanRuns$Stay" "endSecond" "I", .fieldLink RX1 35 "CleanRuns$Run" "state" "I"] ++ wsX10 ++ wsX20)
def wsX1_begin : List Cond := .code yX1_begin cX1_begin 2 none :: ([.fieldLink RX1 32 "CleanRuns$Run" "begunSteps" "I", .fieldLink RX1 21 "CleanRuns$Run" "stays" "[LCleanRuns$Stay;", .classLink RX1 19 RX2, .instantiable RX2 7, .initialized RX2, .fieldLink RX1 38 "CleanRuns$Run" "second" "I", .fieldLink RX1 28 "CleanRuns$Run" "current" "LCleanRuns$Stay;", .fieldLink RX1 44 "CleanRuns$Run" "hasInterface" "Z", .fieldLink RX1 35 "CleanRuns$Run" "state" "I", .methodLink RX1 25 yX2_init, .instanceMethod yX2_init, .code yX2_init cX2_init 3 none, .methodLink RX2 3 objectInit, .instanceMethod objectInit, .code objectInit ⟨#[0xb1]⟩ 1 none, .fieldLink RX2 9 "CleanRuns$Stay" "step" "LCleanRuns$Step;", .fieldLink RX2 15 "CleanRuns$Stay" "firstSecond" "I", .fieldLink RX2 19 "CleanRuns$Stay" "endSecond" "I", .fieldLink RX2 22 "CleanRuns$Stay" "waited" "I", .fieldLink RX2 25 "CleanRuns$Stay" "counted" "I", .fieldLink RX2 28 "CleanRuns$Stay" "missed" "I", .fieldLink RX2 31 "CleanRuns$Stay" "failures" "I"] ++ wsX10 ++ wsX20)
def wsX1_countASecond_r1 : List Cond := [Cond.fieldLink RX1 28 "CleanRuns$Run" "current" "LCleanRuns$Stay;", Cond.fieldLink RX1 108 "CleanRuns$Stay" "missed" "I", Cond.fieldLink RX1 111 "CleanRuns$Stay" "counted" "I", Cond.fieldLink RX1 72 "CleanRuns$Stay" "step" "LCleanRuns$Step;", Cond.fieldLink RX1 114 "CleanRuns$Step" "seconds" "I", Cond.fieldLink RX1 9 "CleanRuns$Run" "recipe" "LCleanRuns$Recipe;", Cond.fieldLink RX1 32 "CleanRuns$Run" "begunSteps" "I", Cond.fieldLink RX1 38 "CleanRuns$Run" "second" "I", Cond.fieldLink RX1 127 "CleanRuns$Stay" "endSecond" "I", Cond.methodLink RX1 117 yX0_stepAt, Cond.instanceMethod yX0_stepAt, Cond.selects RX0 yX0_stepAt yX0_stepAt, Cond.initialized RX0, Cond.code yX0_stepAt cX0_stepAt 2 (some (.object "CleanRuns$Step")), Cond.fieldLink RX0 17 "CleanRuns$Recipe" "size" "I", Cond.fieldLink RX0 11 "CleanRuns$Recipe" "steps" "[LCleanRuns$Step;", Cond.methodLink RX1 123 yX1_end, Cond.instanceMethod yX1_end, Cond.selects RX1 yX1_end yX1_end, Cond.initialized RX1, Cond.code yX1_end cX1_end 2 none, Cond.fieldLink RX1 35 "CleanRuns$Run" "state" "I", Cond.methodLink RX1 130 yX1_begin, Cond.instanceMethod yX1_begin]
def wsX1_countASecond_r2 : List Cond := [Cond.selects RX1 yX1_begin yX1_begin, Cond.code yX1_begin cX1_begin 2 none, Cond.fieldLink RX1 21 "CleanRuns$Run" "stays" "[LCleanRuns$Stay;", Cond.classLink RX1 19 RX2, Cond.instantiable RX2 7, Cond.initialized RX2, Cond.fieldLink RX1 44 "CleanRuns$Run" "hasInterface" "Z", Cond.methodLink RX1 25 yX2_init, Cond.instanceMethod yX2_init, Cond.code yX2_init cX2_init 3 none, Cond.methodLink RX2 3 objectInit, Cond.instanceMethod objectInit, Cond.code objectInit ⟨#[0xb1]⟩ 1 none, Cond.fieldLink RX2 9 "CleanRuns$Stay" "step" "LCleanRuns$Step;", Cond.fieldLink RX2 15 "CleanRuns$Stay" "firstSecond" "I", Cond.fieldLink RX2 19 "CleanRuns$Stay" "endSecond" "I", Cond.fieldLink RX2 22 "CleanRuns$Stay" "waited" "I", Cond.fieldLink RX2 25 "CleanRuns$Stay" "counted" "I", Cond.fieldLink RX2 28 "CleanRuns$Stay" "missed" "I", Cond.fieldLink RX2 31 "CleanRuns$Stay" "failures" "I"]
def wsX1_countASecond : List Cond := .code yX1_countASecond cX1_countASecond 2 none :: ((wsX1_countASecond_r1 ++ wsX1_countASecond_r2) ++ wsX10 ++ wsX20 ++ wsX30 ++ wsX00)
def wsX1_missASecond : List Cond := .code yX1_missASecond cX1_missASecond 1 none :: ([.fieldLink RX1 28 "CleanRuns$Run" "current" "LCleanRuns$Stay;", .fieldLink RX1 108 "CleanRuns$Stay" "missed" "I", .fieldLink RX1 41 "CleanRuns$Run" "failures" "I", .fieldLink RX1 134 "CleanRuns$Stay" "failures" "I", .fieldLink RX1 111 "CleanRuns$Stay" "counted" "I", .methodLink RX1 123 yX1_end, .instanceMethod yX1_end, .selects RX1 yX1_end yX1_end, .initialized RX1, .code yX1_end cX1_end 2 none, .fieldLink RX1 38 "CleanRuns$Run" "second" "I", .fieldLink RX1 127 "CleanRuns$Stay" "endSecond" "I", .fieldLink RX1 35 "CleanRuns$Run" "state" "I"] ++ wsX10 ++ wsX20)
def wsX1_passSecond_r1 : List Cond := [Cond.fieldLink RX1 28 "CleanRuns$Run" "current" "LCleanRuns$Stay;", Cond.fieldLink RX1 72 "CleanRuns$Stay" "step" "LCleanRuns$Step;", Cond.fieldLink RX1 38 "CleanRuns$Run" "second" "I", Cond.fieldLink RX1 35 "CleanRuns$Run" "state" "I", Cond.methodLink RX1 68 yX1_isOver, Cond.instanceMethod yX1_isOver, Cond.selects RX1 yX1_isOver yX1_isOver, Cond.initialized RX1, Cond.code yX1_isOver cX1_isOver 1 (some .boolean), Cond.methodLink RX1 76 yX3_holds, Cond.instanceMethod yX3_holds, Cond.selects RX3 yX3_holds yX3_holds, Cond.initialized RX3, Cond.code yX3_holds cX3_holds 7 (some .boolean), Cond.fieldLink RX3 9 "CleanRuns$Step" "kind" "I", Cond.fieldLink RX3 18 "CleanRuns$Step" "strength" "D", Cond.fieldLink RX3 22 "CleanRuns$Step" "degrees" "D", Cond.constantDouble RX3 25 (4602678819172646912), Cond.constantDouble RX3 27 (4593671619917905920), Cond.methodLink RX1 82 yX1_use, Cond.instanceMethod yX1_use, Cond.selects RX1 yX1_use yX1_use, Cond.code yX1_use cX1_use 4 none, Cond.fieldLink RX1 55 "CleanRuns$Run" "water" "D"]
def wsX1_passSecond_r2 : List Cond := [Cond.fieldLink RX1 58 "CleanRuns$Run" "out" "D", Cond.fieldLink RX1 61 "CleanRuns$Run" "back" "D", Cond.constantDouble RX1 99 (4602678819172646912), Cond.methodLink RX1 96 yX3_usesWater, Cond.instanceMethod yX3_usesWater, Cond.selects RX3 yX3_usesWater yX3_usesWater, Cond.code yX3_usesWater cX3_usesWater 1 (some .boolean), Cond.methodLink RX1 86 yX1_waitASecond, Cond.instanceMethod yX1_waitASecond, Cond.selects RX1 yX1_waitASecond yX1_waitASecond, Cond.code yX1_waitASecond cX1_waitASecond 3 none, Cond.fieldLink RX1 48 "CleanRuns$Run" "interfaceValue" "D", Cond.fieldLink RX1 105 "CleanRuns$Stay" "waited" "I", Cond.fieldLink RX1 52 "CleanRuns$Run" "interfaceHold" "I", Cond.methodLink RX1 101 yX3_passesInterface, Cond.instanceMethod yX3_passesInterface, Cond.selects RX3 yX3_passesInterface yX3_passesInterface, Cond.code yX3_passesInterface cX3_passesInterface 5 (some .boolean), Cond.methodLink RX3 29 yX3_usesWater, Cond.methodLink RX1 90 yX1_countASecond, Cond.instanceMethod yX1_countASecond, Cond.selects RX1 yX1_countASecond yX1_countASecond, Cond.code yX1_countASecond cX1_countASecond 2 none, Cond.fieldLink RX1 108 "CleanRuns$Stay" "missed" "I"]
def wsX1_passSecond_r3 : List Cond := [Cond.fieldLink RX1 111 "CleanRuns$Stay" "counted" "I", Cond.fieldLink RX1 114 "CleanRuns$Step" "seconds" "I", Cond.fieldLink RX1 9 "CleanRuns$Run" "recipe" "LCleanRuns$Recipe;", Cond.fieldLink RX1 32 "CleanRuns$Run" "begunSteps" "I", Cond.fieldLink RX1 127 "CleanRuns$Stay" "endSecond" "I", Cond.methodLink RX1 117 yX0_stepAt, Cond.instanceMethod yX0_stepAt, Cond.selects RX0 yX0_stepAt yX0_stepAt, Cond.initialized RX0, Cond.code yX0_stepAt cX0_stepAt 2 (some (.object "CleanRuns$Step")), Cond.fieldLink RX0 17 "CleanRuns$Recipe" "size" "I", Cond.fieldLink RX0 11 "CleanRuns$Recipe" "steps" "[LCleanRuns$Step;", Cond.methodLink RX1 123 yX1_end, Cond.instanceMethod yX1_end, Cond.selects RX1 yX1_end yX1_end, Cond.code yX1_end cX1_end 2 none, Cond.methodLink RX1 130 yX1_begin, Cond.instanceMethod yX1_begin, Cond.selects RX1 yX1_begin yX1_begin, Cond.code yX1_begin cX1_begin 2 none, Cond.fieldLink RX1 21 "CleanRuns$Run" "stays" "[LCleanRuns$Stay;", Cond.classLink RX1 19 RX2, Cond.instantiable RX2 7, Cond.initialized RX2]
def wsX1_passSecond_r4 : List Cond := [Cond.fieldLink RX1 44 "CleanRuns$Run" "hasInterface" "Z", Cond.methodLink RX1 25 yX2_init, Cond.instanceMethod yX2_init, Cond.code yX2_init cX2_init 3 none, Cond.methodLink RX2 3 objectInit, Cond.instanceMethod objectInit, Cond.code objectInit ⟨#[0xb1]⟩ 1 none, Cond.fieldLink RX2 9 "CleanRuns$Stay" "step" "LCleanRuns$Step;", Cond.fieldLink RX2 15 "CleanRuns$Stay" "firstSecond" "I", Cond.fieldLink RX2 19 "CleanRuns$Stay" "endSecond" "I", Cond.fieldLink RX2 22 "CleanRuns$Stay" "waited" "I", Cond.fieldLink RX2 25 "CleanRuns$Stay" "counted" "I", Cond.fieldLink RX2 28 "CleanRuns$Stay" "missed" "I", Cond.fieldLink RX2 31 "CleanRuns$Stay" "failures" "I", Cond.methodLink RX1 93 yX1_missASecond, Cond.instanceMethod yX1_missASecond, Cond.selects RX1 yX1_missASecond yX1_missASecond, Cond.code yX1_missASecond cX1_missASecond 1 none, Cond.fieldLink RX1 41 "CleanRuns$Run" "failures" "I", Cond.fieldLink RX1 134 "CleanRuns$Stay" "failures" "I"]
def wsX1_passSecond : List Cond := .code yX1_passSecond cX1_passSecond 8 none :: ((wsX1_passSecond_r1 ++ (wsX1_passSecond_r2 ++ (wsX1_passSecond_r3 ++ wsX1_passSecond_r4))) ++ wsX10 ++ wsX20 ++ wsX30 ++ wsX00)
def wsX2_told : List Cond := .code yX2_told cX2_told 2 (some .int) :: ([.fieldLink RX2 9 "CleanRuns$Stay" "step" "LCleanRuns$Step;", .fieldLink RX2 34 "CleanRuns$Step" "kind" "I", .fieldLink RX2 31 "CleanRuns$Stay" "failures" "I", .fieldLink RX2 15 "CleanRuns$Stay" "firstSecond" "I", .fieldLink RX2 19 "CleanRuns$Stay" "endSecond" "I"] ++ wsX20 ++ wsX30)
def wsX3_init : List Cond := .code yX3_init cX3_init 7 none :: ([.methodLink RX3 3 objectInit, .instanceMethod objectInit, .code objectInit ⟨#[0xb1]⟩ 1 none, .fieldLink RX3 9 "CleanRuns$Step" "kind" "I", .fieldLink RX3 15 "CleanRuns$Step" "seconds" "I", .fieldLink RX3 18 "CleanRuns$Step" "strength" "D", .fieldLink RX3 22 "CleanRuns$Step" "degrees" "D"] ++ wsX30)
def wsX4_init : List Cond := .code yX4_init cX4_init 1 none :: ([.methodLink RX4 1 objectInit, .instanceMethod objectInit, .code objectInit ⟨#[0xb1]⟩ 1 none, .classLink RX4 9 RX0, .fieldLink RX4 11 "CleanRuns" "recipes" "[LCleanRuns$Recipe;", .classLink RX4 15 RX1, .fieldLink RX4 17 "CleanRuns" "runs" "[LCleanRuns$Run;", .fieldLink RX4 21 "CleanRuns" "recipeCount" "I", .fieldLink RX4 25 "CleanRuns" "runCount" "I"] ++ wsX40)
def wsX4_recipe : List Cond := .code yX4_recipe cX4_recipe 2 (some .int) :: ([.fieldLink RX4 21 "CleanRuns" "recipeCount" "I", .fieldLink RX4 11 "CleanRuns" "recipes" "[LCleanRuns$Recipe;", .classLink RX4 9 RX0, .instantiable RX0 3, .initialized RX0, .methodLink RX4 28 yX0_init, .instanceMethod yX0_init, .code yX0_init cX0_init 1 none, .methodLink RX0 3 objectInit, .instanceMethod objectInit, .code objectInit ⟨#[0xb1]⟩ 1 none, .classLink RX0 9 RX3, .fieldLink RX0 11 "CleanRuns$Recipe" "steps" "[LCleanRuns$Step;", .fieldLink RX0 17 "CleanRuns$Recipe" "size" "I", .fieldLink RX0 21 "CleanRuns$Recipe" "begun" "Z"] ++ wsX40 ++ wsX00)
def wsX4_recipeAt : List Cond := .code yX4_recipeAt cX4_recipeAt 2 (some (.object "CleanRuns$Recipe")) :: ([.fieldLink RX4 21 "CleanRuns" "recipeCount" "I", .fieldLink RX4 11 "CleanRuns" "recipes" "[LCleanRuns$Recipe;"] ++ wsX40)
def wsX4_within : List Cond := .code yX4_within cX4_within 6 (some .boolean) :: ([])
def wsX4_step_r1 : List Cond := [Cond.constantDouble RX4 37 (4636737291354636288), Cond.constantDouble RX4 43 (4639481672377565184), Cond.classLink RX4 45 RX3, Cond.instantiable RX3 4, Cond.initialized RX3, Cond.methodLink RX4 29 yX4_recipeAt, Cond.instanceMethod yX4_recipeAt, Cond.selects RX4 yX4_recipeAt yX4_recipeAt, Cond.initialized RX4, Cond.code yX4_recipeAt cX4_recipeAt 2 (some (.object "CleanRuns$Recipe")), Cond.fieldLink RX4 21 "CleanRuns" "recipeCount" "I", Cond.fieldLink RX4 11 "CleanRuns" "recipes" "[LCleanRuns$Recipe;", Cond.methodLink RX4 33 yX0_takesAStep, Cond.instanceMethod yX0_takesAStep, Cond.selects RX0 yX0_takesAStep yX0_takesAStep, Cond.initialized RX0, Cond.code yX0_takesAStep cX0_takesAStep 1 (some .boolean), Cond.fieldLink RX0 21 "CleanRuns$Recipe" "begun" "Z", Cond.fieldLink RX0 17 "CleanRuns$Recipe" "size" "I", Cond.fieldLink RX0 11 "CleanRuns$Recipe" "steps" "[LCleanRuns$Step;", Cond.methodLink RX4 39 yX4_within, Cond.static yX4_within, Cond.code yX4_within cX4_within 6 (some .boolean), Cond.methodLink RX4 47 yX3_init]
def wsX4_step_r2 : List Cond := [Cond.instanceMethod yX3_init, Cond.code yX3_init cX3_init 7 none, Cond.methodLink RX3 3 objectInit, Cond.instanceMethod objectInit, Cond.code objectInit ⟨#[0xb1]⟩ 1 none, Cond.fieldLink RX3 9 "CleanRuns$Step" "kind" "I", Cond.fieldLink RX3 15 "CleanRuns$Step" "seconds" "I", Cond.fieldLink RX3 18 "CleanRuns$Step" "strength" "D", Cond.fieldLink RX3 22 "CleanRuns$Step" "degrees" "D", Cond.methodLink RX4 50 yX0_append, Cond.instanceMethod yX0_append, Cond.selects RX0 yX0_append yX0_append, Cond.code yX0_append cX0_append 2 none]
def wsX4_step : List Cond := .code yX4_step cX4_step 9 (some .boolean) :: ((wsX4_step_r1 ++ wsX4_step_r2) ++ wsX30 ++ wsX40 ++ wsX00)
def wsX4_start_r1 : List Cond := [Cond.fieldLink RX4 25 "CleanRuns" "runCount" "I", Cond.fieldLink RX4 17 "CleanRuns" "runs" "[LCleanRuns$Run;", Cond.classLink RX4 15 RX1, Cond.instantiable RX1 14, Cond.initialized RX1, Cond.fieldLink RX4 61 "CleanRuns$Recipe" "begun" "Z", Cond.methodLink RX4 29 yX4_recipeAt, Cond.instanceMethod yX4_recipeAt, Cond.selects RX4 yX4_recipeAt yX4_recipeAt, Cond.initialized RX4, Cond.code yX4_recipeAt cX4_recipeAt 2 (some (.object "CleanRuns$Recipe")), Cond.fieldLink RX4 21 "CleanRuns" "recipeCount" "I", Cond.fieldLink RX4 11 "CleanRuns" "recipes" "[LCleanRuns$Recipe;", Cond.methodLink RX4 54 yX0_stepAt, Cond.instanceMethod yX0_stepAt, Cond.selects RX0 yX0_stepAt yX0_stepAt, Cond.initialized RX0, Cond.code yX0_stepAt cX0_stepAt 2 (some (.object "CleanRuns$Step")), Cond.fieldLink RX0 17 "CleanRuns$Recipe" "size" "I", Cond.fieldLink RX0 11 "CleanRuns$Recipe" "steps" "[LCleanRuns$Step;", Cond.methodLink RX4 58 yX1_init, Cond.instanceMethod yX1_init, Cond.code yX1_init cX1_init 4 none, Cond.methodLink RX1 3 objectInit]
def wsX4_start_r2 : List Cond := [Cond.instanceMethod objectInit, Cond.code objectInit ⟨#[0xb1]⟩ 1 none, Cond.fieldLink RX1 9 "CleanRuns$Run" "recipe" "LCleanRuns$Recipe;", Cond.fieldLink RX1 15 "CleanRuns$Run" "goal" "I", Cond.classLink RX1 19 RX2, Cond.fieldLink RX1 21 "CleanRuns$Run" "stays" "[LCleanRuns$Stay;", Cond.instantiable RX2 7, Cond.initialized RX2, Cond.fieldLink RX1 28 "CleanRuns$Run" "current" "LCleanRuns$Stay;", Cond.fieldLink RX1 32 "CleanRuns$Run" "begunSteps" "I", Cond.fieldLink RX1 35 "CleanRuns$Run" "state" "I", Cond.fieldLink RX1 38 "CleanRuns$Run" "second" "I", Cond.fieldLink RX1 41 "CleanRuns$Run" "failures" "I", Cond.fieldLink RX1 44 "CleanRuns$Run" "hasInterface" "Z", Cond.fieldLink RX1 48 "CleanRuns$Run" "interfaceValue" "D", Cond.fieldLink RX1 52 "CleanRuns$Run" "interfaceHold" "I", Cond.fieldLink RX1 55 "CleanRuns$Run" "water" "D", Cond.fieldLink RX1 58 "CleanRuns$Run" "out" "D", Cond.fieldLink RX1 61 "CleanRuns$Run" "back" "D", Cond.methodLink RX1 25 yX2_init, Cond.instanceMethod yX2_init, Cond.code yX2_init cX2_init 3 none, Cond.methodLink RX2 3 objectInit, Cond.fieldLink RX2 9 "CleanRuns$Stay" "step" "LCleanRuns$Step;"]
def wsX4_start_r3 : List Cond := [Cond.fieldLink RX2 15 "CleanRuns$Stay" "firstSecond" "I", Cond.fieldLink RX2 19 "CleanRuns$Stay" "endSecond" "I", Cond.fieldLink RX2 22 "CleanRuns$Stay" "waited" "I", Cond.fieldLink RX2 25 "CleanRuns$Stay" "counted" "I", Cond.fieldLink RX2 28 "CleanRuns$Stay" "missed" "I", Cond.fieldLink RX2 31 "CleanRuns$Stay" "failures" "I"]
def wsX4_start : List Cond := .code yX4_start cX4_start 6 (some .int) :: ((wsX4_start_r1 ++ (wsX4_start_r2 ++ wsX4_start_r3)) ++ wsX40 ++ wsX10 ++ wsX00 ++ wsX20)
def wsX4_runAt : List Cond := .code yX4_runAt cX4_runAt 2 (some (.object "CleanRuns$Run")) :: ([.fieldLink RX4 25 "CleanRuns" "runCount" "I", .fieldLink RX4 17 "CleanRuns" "runs" "[LCleanRuns$Run;"] ++ wsX40)
def wsX4_tick_r1 : List Cond := [Cond.constantDouble RX4 69 (4652007308841189376), Cond.constantDouble RX4 71 (13855605728582041600), Cond.constantDouble RX4 73 (4641240890982006784), Cond.fieldLink RX4 79 "CleanRuns$Run" "state" "I", Cond.methodLink RX4 65 yX4_runAt, Cond.instanceMethod yX4_runAt, Cond.selects RX4 yX4_runAt yX4_runAt, Cond.initialized RX4, Cond.code yX4_runAt cX4_runAt 2 (some (.object "CleanRuns$Run")), Cond.fieldLink RX4 25 "CleanRuns" "runCount" "I", Cond.fieldLink RX4 17 "CleanRuns" "runs" "[LCleanRuns$Run;", Cond.methodLink RX4 39 yX4_within, Cond.static yX4_within, Cond.code yX4_within cX4_within 6 (some .boolean), Cond.methodLink RX4 75 yX1_passSecond, Cond.instanceMethod yX1_passSecond, Cond.selects RX1 yX1_passSecond yX1_passSecond, Cond.initialized RX1, Cond.code yX1_passSecond cX1_passSecond 8 none, Cond.fieldLink RX1 28 "CleanRuns$Run" "current" "LCleanRuns$Stay;", Cond.fieldLink RX1 72 "CleanRuns$Stay" "step" "LCleanRuns$Step;", Cond.fieldLink RX1 38 "CleanRuns$Run" "second" "I", Cond.fieldLink RX1 35 "CleanRuns$Run" "state" "I", Cond.methodLink RX1 68 yX1_isOver]
def wsX4_tick_r2 : List Cond := [Cond.instanceMethod yX1_isOver, Cond.selects RX1 yX1_isOver yX1_isOver, Cond.code yX1_isOver cX1_isOver 1 (some .boolean), Cond.methodLink RX1 76 yX3_holds, Cond.instanceMethod yX3_holds, Cond.selects RX3 yX3_holds yX3_holds, Cond.initialized RX3, Cond.code yX3_holds cX3_holds 7 (some .boolean), Cond.fieldLink RX3 9 "CleanRuns$Step" "kind" "I", Cond.fieldLink RX3 18 "CleanRuns$Step" "strength" "D", Cond.fieldLink RX3 22 "CleanRuns$Step" "degrees" "D", Cond.constantDouble RX3 25 (4602678819172646912), Cond.constantDouble RX3 27 (4593671619917905920), Cond.methodLink RX1 82 yX1_use, Cond.instanceMethod yX1_use, Cond.selects RX1 yX1_use yX1_use, Cond.code yX1_use cX1_use 4 none, Cond.fieldLink RX1 55 "CleanRuns$Run" "water" "D", Cond.fieldLink RX1 58 "CleanRuns$Run" "out" "D", Cond.fieldLink RX1 61 "CleanRuns$Run" "back" "D", Cond.constantDouble RX1 99 (4602678819172646912), Cond.methodLink RX1 96 yX3_usesWater, Cond.instanceMethod yX3_usesWater, Cond.selects RX3 yX3_usesWater yX3_usesWater]
def wsX4_tick_r3 : List Cond := [Cond.code yX3_usesWater cX3_usesWater 1 (some .boolean), Cond.methodLink RX1 86 yX1_waitASecond, Cond.instanceMethod yX1_waitASecond, Cond.selects RX1 yX1_waitASecond yX1_waitASecond, Cond.code yX1_waitASecond cX1_waitASecond 3 none, Cond.fieldLink RX1 48 "CleanRuns$Run" "interfaceValue" "D", Cond.fieldLink RX1 105 "CleanRuns$Stay" "waited" "I", Cond.fieldLink RX1 52 "CleanRuns$Run" "interfaceHold" "I", Cond.methodLink RX1 101 yX3_passesInterface, Cond.instanceMethod yX3_passesInterface, Cond.selects RX3 yX3_passesInterface yX3_passesInterface, Cond.code yX3_passesInterface cX3_passesInterface 5 (some .boolean), Cond.methodLink RX3 29 yX3_usesWater, Cond.methodLink RX1 90 yX1_countASecond, Cond.instanceMethod yX1_countASecond, Cond.selects RX1 yX1_countASecond yX1_countASecond, Cond.code yX1_countASecond cX1_countASecond 2 none, Cond.fieldLink RX1 108 "CleanRuns$Stay" "missed" "I", Cond.fieldLink RX1 111 "CleanRuns$Stay" "counted" "I", Cond.fieldLink RX1 114 "CleanRuns$Step" "seconds" "I", Cond.fieldLink RX1 9 "CleanRuns$Run" "recipe" "LCleanRuns$Recipe;", Cond.fieldLink RX1 32 "CleanRuns$Run" "begunSteps" "I", Cond.fieldLink RX1 127 "CleanRuns$Stay" "endSecond" "I", Cond.methodLink RX1 117 yX0_stepAt]
def wsX4_tick_r4 : List Cond := [Cond.instanceMethod yX0_stepAt, Cond.selects RX0 yX0_stepAt yX0_stepAt, Cond.initialized RX0, Cond.code yX0_stepAt cX0_stepAt 2 (some (.object "CleanRuns$Step")), Cond.fieldLink RX0 17 "CleanRuns$Recipe" "size" "I", Cond.fieldLink RX0 11 "CleanRuns$Recipe" "steps" "[LCleanRuns$Step;", Cond.methodLink RX1 123 yX1_end, Cond.instanceMethod yX1_end, Cond.selects RX1 yX1_end yX1_end, Cond.code yX1_end cX1_end 2 none, Cond.methodLink RX1 130 yX1_begin, Cond.instanceMethod yX1_begin, Cond.selects RX1 yX1_begin yX1_begin, Cond.code yX1_begin cX1_begin 2 none, Cond.fieldLink RX1 21 "CleanRuns$Run" "stays" "[LCleanRuns$Stay;", Cond.classLink RX1 19 RX2, Cond.instantiable RX2 7, Cond.initialized RX2, Cond.fieldLink RX1 44 "CleanRuns$Run" "hasInterface" "Z", Cond.methodLink RX1 25 yX2_init, Cond.instanceMethod yX2_init, Cond.code yX2_init cX2_init 3 none, Cond.methodLink RX2 3 objectInit, Cond.instanceMethod objectInit]
def wsX4_tick_r5 : List Cond := [Cond.code objectInit ⟨#[0xb1]⟩ 1 none, Cond.fieldLink RX2 9 "CleanRuns$Stay" "step" "LCleanRuns$Step;", Cond.fieldLink RX2 15 "CleanRuns$Stay" "firstSecond" "I", Cond.fieldLink RX2 19 "CleanRuns$Stay" "endSecond" "I", Cond.fieldLink RX2 22 "CleanRuns$Stay" "waited" "I", Cond.fieldLink RX2 25 "CleanRuns$Stay" "counted" "I", Cond.fieldLink RX2 28 "CleanRuns$Stay" "missed" "I", Cond.fieldLink RX2 31 "CleanRuns$Stay" "failures" "I", Cond.methodLink RX1 93 yX1_missASecond, Cond.instanceMethod yX1_missASecond, Cond.selects RX1 yX1_missASecond yX1_missASecond, Cond.code yX1_missASecond cX1_missASecond 1 none, Cond.fieldLink RX1 41 "CleanRuns$Run" "failures" "I", Cond.fieldLink RX1 134 "CleanRuns$Stay" "failures" "I"]
def wsX4_tick : List Cond := .code yX4_tick cX4_tick 9 (some .int) :: ((wsX4_tick_r1 ++ (wsX4_tick_r2 ++ (wsX4_tick_r3 ++ (wsX4_tick_r4 ++ wsX4_tick_r5)))) ++ wsX10 ++ wsX40 ++ wsX20 ++ wsX30 ++ wsX00)
def wsX4_state : List Cond := .code yX4_state cX4_state 3 (some .int) :: ([.fieldLink RX4 79 "CleanRuns$Run" "state" "I", .methodLink RX4 65 yX4_runAt, .instanceMethod yX4_runAt, .selects RX4 yX4_runAt yX4_runAt, .initialized RX4, .code yX4_runAt cX4_runAt 2 (some (.object "CleanRuns$Run")), .fieldLink RX4 25 "CleanRuns" "runCount" "I", .fieldLink RX4 17 "CleanRuns" "runs" "[LCleanRuns$Run;"] ++ wsX10 ++ wsX40)
def wsX4_stepOf : List Cond := .code yX4_stepOf cX4_stepOf 3 (some .int) :: ([.fieldLink RX4 82 "CleanRuns$Run" "begunSteps" "I", .methodLink RX4 65 yX4_runAt, .instanceMethod yX4_runAt, .selects RX4 yX4_runAt yX4_runAt, .initialized RX4, .code yX4_runAt cX4_runAt 2 (some (.object "CleanRuns$Run")), .fieldLink RX4 25 "CleanRuns" "runCount" "I", .fieldLink RX4 17 "CleanRuns" "runs" "[LCleanRuns$Run;"] ++ wsX10 ++ wsX40)
def wsX4_counted : List Cond := .code yX4_counted cX4_counted 3 (some .long) :: ([.constantLong RX4 85 (-1), .fieldLink RX4 87 "CleanRuns$Run" "current" "LCleanRuns$Stay;", .fieldLink RX4 91 "CleanRuns$Stay" "counted" "I", .methodLink RX4 65 yX4_runAt, .instanceMethod yX4_runAt, .selects RX4 yX4_runAt yX4_runAt, .initialized RX4, .code yX4_runAt cX4_runAt 2 (some (.object "CleanRuns$Run")), .fieldLink RX4 25 "CleanRuns" "runCount" "I", .fieldLink RX4 17 "CleanRuns" "runs" "[LCleanRuns$Run;"] ++ wsX10 ++ wsX20 ++ wsX40)
def wsX4_failed : List Cond := .code yX4_failed cX4_failed 3 (some .int) :: ([.fieldLink RX4 96 "CleanRuns$Run" "failures" "I", .methodLink RX4 65 yX4_runAt, .instanceMethod yX4_runAt, .selects RX4 yX4_runAt yX4_runAt, .initialized RX4, .code yX4_runAt cX4_runAt 2 (some (.object "CleanRuns$Run")), .fieldLink RX4 25 "CleanRuns" "runCount" "I", .fieldLink RX4 17 "CleanRuns" "runs" "[LCleanRuns$Run;"] ++ wsX10 ++ wsX40)
def wsX4_cleaner : List Cond := .code yX4_cleaner cX4_cleaner 4 (some .double) :: ([.constantDouble RX4 99 (13830554455654793216), .methodLink RX4 65 yX4_runAt, .instanceMethod yX4_runAt, .selects RX4 yX4_runAt yX4_runAt, .initialized RX4, .code yX4_runAt cX4_runAt 2 (some (.object "CleanRuns$Run")), .fieldLink RX4 25 "CleanRuns" "runCount" "I", .fieldLink RX4 17 "CleanRuns" "runs" "[LCleanRuns$Run;", .methodLink RX4 101 yX1_used, .instanceMethod yX1_used, .selects RX1 yX1_used yX1_used, .initialized RX1, .code yX1_used cX1_used 2 (some .double), .fieldLink RX1 55 "CleanRuns$Run" "water" "D", .fieldLink RX1 58 "CleanRuns$Run" "out" "D", .fieldLink RX1 61 "CleanRuns$Run" "back" "D", .constantDouble RX1 64 (4652007308841189376), .constantDouble RX1 66 (13830554455654793216)] ++ wsX40 ++ wsX10)
def wsX4_interface2 : List Cond := .code yX4_interface2 cX4_interface2 6 (some .boolean) :: ([.constantDouble RX4 37 (4636737291354636288), .methodLink RX4 65 yX4_runAt, .instanceMethod yX4_runAt, .selects RX4 yX4_runAt yX4_runAt, .initialized RX4, .code yX4_runAt cX4_runAt 2 (some (.object "CleanRuns$Run")), .fieldLink RX4 25 "CleanRuns" "runCount" "I", .fieldLink RX4 17 "CleanRuns" "runs" "[LCleanRuns$Run;", .methodLink RX4 105 yX1_isOver, .instanceMethod yX1_isOver, .selects RX1 yX1_isOver yX1_isOver, .initialized RX1, .code yX1_isOver cX1_isOver 1 (some .boolean), .fieldLink RX1 35 "CleanRuns$Run" "state" "I", .methodLink RX4 39 yX4_within, .static yX4_within, .code yX4_within cX4_within 6 (some .boolean), .methodLink RX4 108 yX1_setInterface, .instanceMethod yX1_setInterface, .selects RX1 yX1_setInterface yX1_setInterface, .code yX1_setInterface cX1_setInterface 4 none, .fieldLink RX1 44 "CleanRuns$Run" "hasInterface" "Z", .fieldLink RX1 48 "CleanRuns$Run" "interfaceValue" "D", .fieldLink RX1 52 "CleanRuns$Run" "interfaceHold" "I"] ++ wsX40 ++ wsX10)
def wsX4_level : List Cond := .code yX4_level cX4_level 3 (some .int) :: ([.fieldLink RX4 79 "CleanRuns$Run" "state" "I", .fieldLink RX4 112 "CleanRuns$Run" "goal" "I", .methodLink RX4 65 yX4_runAt, .instanceMethod yX4_runAt, .selects RX4 yX4_runAt yX4_runAt, .initialized RX4, .code yX4_runAt cX4_runAt 2 (some (.object "CleanRuns$Run")), .fieldLink RX4 25 "CleanRuns" "runCount" "I", .fieldLink RX4 17 "CleanRuns" "runs" "[LCleanRuns$Run;"] ++ wsX10 ++ wsX40)
def wsX4_breakOff : List Cond := .code yX4_breakOff cX4_breakOff 3 (some .boolean) :: ([.methodLink RX4 65 yX4_runAt, .instanceMethod yX4_runAt, .selects RX4 yX4_runAt yX4_runAt, .initialized RX4, .code yX4_runAt cX4_runAt 2 (some (.object "CleanRuns$Run")), .fieldLink RX4 25 "CleanRuns" "runCount" "I", .fieldLink RX4 17 "CleanRuns" "runs" "[LCleanRuns$Run;", .methodLink RX4 105 yX1_isOver, .instanceMethod yX1_isOver, .selects RX1 yX1_isOver yX1_isOver, .initialized RX1, .code yX1_isOver cX1_isOver 1 (some .boolean), .fieldLink RX1 35 "CleanRuns$Run" "state" "I", .methodLink RX4 115 yX1_end, .instanceMethod yX1_end, .selects RX1 yX1_end yX1_end, .code yX1_end cX1_end 2 none, .fieldLink RX1 28 "CleanRuns$Run" "current" "LCleanRuns$Stay;", .fieldLink RX1 38 "CleanRuns$Run" "second" "I", .fieldLink RX1 127 "CleanRuns$Stay" "endSecond" "I"] ++ wsX40 ++ wsX10 ++ wsX20)
def wsX4_record : List Cond := .code yX4_record cX4_record 6 (some .int) :: ([.methodLink RX4 65 yX4_runAt, .instanceMethod yX4_runAt, .selects RX4 yX4_runAt yX4_runAt, .initialized RX4, .code yX4_runAt cX4_runAt 2 (some (.object "CleanRuns$Run")), .fieldLink RX4 25 "CleanRuns" "runCount" "I", .fieldLink RX4 17 "CleanRuns" "runs" "[LCleanRuns$Run;", .methodLink RX4 119 yX1_stayAt, .instanceMethod yX1_stayAt, .selects RX1 yX1_stayAt yX1_stayAt, .initialized RX1, .code yX1_stayAt cX1_stayAt 2 (some (.object "CleanRuns$Stay")), .fieldLink RX1 32 "CleanRuns$Run" "begunSteps" "I", .fieldLink RX1 21 "CleanRuns$Run" "stays" "[LCleanRuns$Stay;", .methodLink RX4 123 yX2_told, .instanceMethod yX2_told, .selects RX2 yX2_told yX2_told, .initialized RX2, .code yX2_told cX2_told 2 (some .int), .fieldLink RX2 9 "CleanRuns$Stay" "step" "LCleanRuns$Step;", .fieldLink RX2 34 "CleanRuns$Step" "kind" "I", .fieldLink RX2 31 "CleanRuns$Stay" "failures" "I", .fieldLink RX2 15 "CleanRuns$Stay" "firstSecond" "I", .fieldLink RX2 19 "CleanRuns$Stay" "endSecond" "I"] ++ wsX40 ++ wsX10 ++ wsX20 ++ wsX30)
def wsX4_states : List Cond := .code yX4_states cX4_states 1 (some .int) :: ([])
def wsX5_init_r1 : List Cond := [Cond.methodLink RX5 1 objectInit, Cond.instanceMethod objectInit, Cond.code objectInit ⟨#[0xb1]⟩ 1 none, Cond.arrayClass .int, Cond.fieldLink RX5 9 "CleanRunsModel" "lengths" "[I", Cond.arrayClass .boolean, Cond.fieldLink RX5 13 "CleanRunsModel" "begun" "[Z", Cond.fieldLink RX5 17 "CleanRunsModel" "kinds" "[I", Cond.fieldLink RX5 20 "CleanRunsModel" "seconds" "[I", Cond.arrayClass .double, Cond.fieldLink RX5 23 "CleanRunsModel" "strengths" "[D", Cond.fieldLink RX5 27 "CleanRunsModel" "warmths" "[D", Cond.fieldLink RX5 30 "CleanRunsModel" "of" "[I", Cond.fieldLink RX5 33 "CleanRunsModel" "levels" "[I", Cond.fieldLink RX5 36 "CleanRunsModel" "states" "[I", Cond.fieldLink RX5 39 "CleanRunsModel" "at" "[I", Cond.fieldLink RX5 42 "CleanRunsModel" "now" "[I", Cond.fieldLink RX5 45 "CleanRunsModel" "counts" "[I", Cond.fieldLink RX5 48 "CleanRunsModel" "missed" "[I", Cond.fieldLink RX5 51 "CleanRunsModel" "waited" "[I", Cond.fieldLink RX5 54 "CleanRunsModel" "values" "[D", Cond.fieldLink RX5 57 "CleanRunsModel" "holds" "[I", Cond.fieldLink RX5 60 "CleanRunsModel" "water" "[D", Cond.fieldLink RX5 63 "CleanRunsModel" "out" "[D"]
def wsX5_init_r2 : List Cond := [Cond.fieldLink RX5 66 "CleanRunsModel" "back" "[D", Cond.fieldLink RX5 69 "CleanRunsModel" "fails" "[I", Cond.fieldLink RX5 72 "CleanRunsModel" "began" "[I", Cond.fieldLink RX5 75 "CleanRunsModel" "ended" "[I"]
def wsX5_init : List Cond := .code yX5_init cX5_init 1 none :: ((wsX5_init_r1 ++ wsX5_init_r2) ++ wsX50)
def wsX5_recipe : List Cond := .code yX5_recipe cX5_recipe 1 (some .int) :: ([.fieldLink RX5 78 "CleanRunsModel" "recipes" "I"] ++ wsX50)
def wsX5_step : List Cond := .code yX5_step cX5_step 10 (some .boolean) :: ([.fieldLink RX5 78 "CleanRunsModel" "recipes" "I", .fieldLink RX5 13 "CleanRunsModel" "begun" "[Z", .fieldLink RX5 9 "CleanRunsModel" "lengths" "[I", .constantDouble RX5 82 (4636737291354636288), .constantDouble RX5 84 (4639481672377565184), .fieldLink RX5 17 "CleanRunsModel" "kinds" "[I", .fieldLink RX5 20 "CleanRunsModel" "seconds" "[I", .fieldLink RX5 23 "CleanRunsModel" "strengths" "[D", .fieldLink RX5 27 "CleanRunsModel" "warmths" "[D"] ++ wsX50)
def wsX5_start : List Cond := .code yX5_start cX5_start 3 (some .int) :: ([.fieldLink RX5 78 "CleanRunsModel" "recipes" "I", .fieldLink RX5 9 "CleanRunsModel" "lengths" "[I", .fieldLink RX5 86 "CleanRunsModel" "runs" "I", .fieldLink RX5 13 "CleanRunsModel" "begun" "[Z", .fieldLink RX5 30 "CleanRunsModel" "of" "[I", .fieldLink RX5 33 "CleanRunsModel" "levels" "[I", .fieldLink RX5 36 "CleanRunsModel" "states" "[I", .fieldLink RX5 75 "CleanRunsModel" "ended" "[I"] ++ wsX50)
def wsX5_isRun : List Cond := .code yX5_isRun cX5_isRun 2 (some .boolean) :: ([.fieldLink RX5 86 "CleanRunsModel" "runs" "I"] ++ wsX50)
def wsX5_isOn : List Cond := .code yX5_isOn cX5_isOn 2 (some .boolean) :: ([.fieldLink RX5 36 "CleanRunsModel" "states" "[I", .methodLink RX5 89 yX5_isRun, .instanceMethod yX5_isRun, .selects RX5 yX5_isRun yX5_isRun, .initialized RX5, .code yX5_isRun cX5_isRun 2 (some .boolean), .fieldLink RX5 86 "CleanRunsModel" "runs" "I"] ++ wsX50)
def wsX5_place : List Cond := .code yX5_place cX5_place 2 (some .int) :: ([.fieldLink RX5 30 "CleanRunsModel" "of" "[I", .fieldLink RX5 39 "CleanRunsModel" "at" "[I"] ++ wsX50)
def wsX5_isHeld : List Cond := .code yX5_isHeld cX5_isHeld 8 (some .boolean) :: ([.fieldLink RX5 17 "CleanRunsModel" "kinds" "[I", .fieldLink RX5 23 "CleanRunsModel" "strengths" "[D", .constantDouble RX5 93 (4602678819172646912), .fieldLink RX5 27 "CleanRunsModel" "warmths" "[D", .constantDouble RX5 95 (4593671619917905920)] ++ wsX50)
def wsX5_end : List Cond := .code yX5_end cX5_end 2 none :: ([.fieldLink RX5 75 "CleanRunsModel" "ended" "[I", .fieldLink RX5 39 "CleanRunsModel" "at" "[I", .fieldLink RX5 42 "CleanRunsModel" "now" "[I", .fieldLink RX5 9 "CleanRunsModel" "lengths" "[I", .fieldLink RX5 30 "CleanRunsModel" "of" "[I", .fieldLink RX5 36 "CleanRunsModel" "states" "[I", .fieldLink RX5 72 "CleanRunsModel" "began" "[I", .fieldLink RX5 45 "CleanRunsModel" "counts" "[I", .fieldLink RX5 48 "CleanRunsModel" "missed" "[I", .fieldLink RX5 51 "CleanRunsModel" "waited" "[I", .fieldLink RX5 57 "CleanRunsModel" "holds" "[I"] ++ wsX50)
def wsX5_miss : List Cond := .code yX5_miss cX5_miss 3 none :: ([.fieldLink RX5 39 "CleanRunsModel" "at" "[I", .fieldLink RX5 45 "CleanRunsModel" "counts" "[I", .fieldLink RX5 48 "CleanRunsModel" "missed" "[I", .fieldLink RX5 69 "CleanRunsModel" "fails" "[I", .fieldLink RX5 36 "CleanRunsModel" "states" "[I", .fieldLink RX5 75 "CleanRunsModel" "ended" "[I", .fieldLink RX5 42 "CleanRunsModel" "now" "[I"] ++ wsX50)
def wsX5_tick_r1 : List Cond := [Cond.constantDouble RX5 97 (4652007308841189376), Cond.constantDouble RX5 99 (13855605728582041600), Cond.constantDouble RX5 101 (4641240890982006784), Cond.fieldLink RX5 36 "CleanRunsModel" "states" "[I", Cond.fieldLink RX5 17 "CleanRunsModel" "kinds" "[I", Cond.fieldLink RX5 60 "CleanRunsModel" "water" "[D", Cond.fieldLink RX5 63 "CleanRunsModel" "out" "[D", Cond.fieldLink RX5 66 "CleanRunsModel" "back" "[D", Cond.constantDouble RX5 93 (4602678819172646912), Cond.fieldLink RX5 42 "CleanRunsModel" "now" "[I", Cond.fieldLink RX5 54 "CleanRunsModel" "values" "[D", Cond.fieldLink RX5 51 "CleanRunsModel" "waited" "[I", Cond.fieldLink RX5 57 "CleanRunsModel" "holds" "[I", Cond.fieldLink RX5 48 "CleanRunsModel" "missed" "[I", Cond.fieldLink RX5 45 "CleanRunsModel" "counts" "[I", Cond.fieldLink RX5 20 "CleanRunsModel" "seconds" "[I", Cond.methodLink RX5 89 yX5_isRun, Cond.instanceMethod yX5_isRun, Cond.selects RX5 yX5_isRun yX5_isRun, Cond.initialized RX5, Cond.code yX5_isRun cX5_isRun 2 (some .boolean), Cond.fieldLink RX5 86 "CleanRunsModel" "runs" "I", Cond.methodLink RX5 103 yX5_isOn, Cond.instanceMethod yX5_isOn]
def wsX5_tick_r2 : List Cond := [Cond.selects RX5 yX5_isOn yX5_isOn, Cond.code yX5_isOn cX5_isOn 2 (some .boolean), Cond.methodLink RX5 106 yX5_place, Cond.instanceMethod yX5_place, Cond.selects RX5 yX5_place yX5_place, Cond.code yX5_place cX5_place 2 (some .int), Cond.fieldLink RX5 30 "CleanRunsModel" "of" "[I", Cond.fieldLink RX5 39 "CleanRunsModel" "at" "[I", Cond.methodLink RX5 110 yX5_isHeld, Cond.instanceMethod yX5_isHeld, Cond.selects RX5 yX5_isHeld yX5_isHeld, Cond.code yX5_isHeld cX5_isHeld 8 (some .boolean), Cond.fieldLink RX5 23 "CleanRunsModel" "strengths" "[D", Cond.fieldLink RX5 27 "CleanRunsModel" "warmths" "[D", Cond.constantDouble RX5 95 (4593671619917905920), Cond.methodLink RX5 114 yX5_end, Cond.instanceMethod yX5_end, Cond.selects RX5 yX5_end yX5_end, Cond.code yX5_end cX5_end 2 none, Cond.fieldLink RX5 75 "CleanRunsModel" "ended" "[I", Cond.fieldLink RX5 9 "CleanRunsModel" "lengths" "[I", Cond.fieldLink RX5 72 "CleanRunsModel" "began" "[I", Cond.methodLink RX5 118 yX5_miss, Cond.instanceMethod yX5_miss]
def wsX5_tick_r3 : List Cond := [Cond.selects RX5 yX5_miss yX5_miss, Cond.code yX5_miss cX5_miss 3 none, Cond.fieldLink RX5 69 "CleanRunsModel" "fails" "[I"]
def wsX5_tick : List Cond := .code yX5_tick cX5_tick 13 (some .int) :: ((wsX5_tick_r1 ++ (wsX5_tick_r2 ++ wsX5_tick_r3)) ++ wsX50)
def wsX5_state : List Cond := .code yX5_state cX5_state 2 (some .int) :: ([.fieldLink RX5 36 "CleanRunsModel" "states" "[I", .methodLink RX5 89 yX5_isRun, .instanceMethod yX5_isRun, .selects RX5 yX5_isRun yX5_isRun, .initialized RX5, .code yX5_isRun cX5_isRun 2 (some .boolean), .fieldLink RX5 86 "CleanRunsModel" "runs" "I"] ++ wsX50)
def wsX5_stepOf : List Cond := .code yX5_stepOf cX5_stepOf 2 (some .int) :: ([.fieldLink RX5 39 "CleanRunsModel" "at" "[I", .methodLink RX5 89 yX5_isRun, .instanceMethod yX5_isRun, .selects RX5 yX5_isRun yX5_isRun, .initialized RX5, .code yX5_isRun cX5_isRun 2 (some .boolean), .fieldLink RX5 86 "CleanRunsModel" "runs" "I"] ++ wsX50)
def wsX5_counted : List Cond := .code yX5_counted cX5_counted 2 (some .long) :: ([.fieldLink RX5 45 "CleanRunsModel" "counts" "[I", .constantLong RX5 121 (-1), .methodLink RX5 89 yX5_isRun, .instanceMethod yX5_isRun, .selects RX5 yX5_isRun yX5_isRun, .initialized RX5, .code yX5_isRun cX5_isRun 2 (some .boolean), .fieldLink RX5 86 "CleanRunsModel" "runs" "I"] ++ wsX50)
def wsX5_failed : List Cond := .code yX5_failed cX5_failed 4 (some .int) :: ([.fieldLink RX5 69 "CleanRunsModel" "fails" "[I", .methodLink RX5 89 yX5_isRun, .instanceMethod yX5_isRun, .selects RX5 yX5_isRun yX5_isRun, .initialized RX5, .code yX5_isRun cX5_isRun 2 (some .boolean), .fieldLink RX5 86 "CleanRunsModel" "runs" "I"] ++ wsX50)
def wsX5_cleaner : List Cond := .code yX5_cleaner cX5_cleaner 3 (some .double) :: ([.constantDouble RX5 123 (13830554455654793216), .fieldLink RX5 60 "CleanRunsModel" "water" "[D", .fieldLink RX5 63 "CleanRunsModel" "out" "[D", .fieldLink RX5 66 "CleanRunsModel" "back" "[D", .constantDouble RX5 97 (4652007308841189376), .methodLink RX5 89 yX5_isRun, .instanceMethod yX5_isRun, .selects RX5 yX5_isRun yX5_isRun, .initialized RX5, .code yX5_isRun cX5_isRun 2 (some .boolean), .fieldLink RX5 86 "CleanRunsModel" "runs" "I"] ++ wsX50)
def wsX5_interface2 : List Cond := .code yX5_interface2 cX5_interface2 5 (some .boolean) :: ([.constantDouble RX5 82 (4636737291354636288), .fieldLink RX5 54 "CleanRunsModel" "values" "[D", .fieldLink RX5 57 "CleanRunsModel" "holds" "[I", .methodLink RX5 103 yX5_isOn, .instanceMethod yX5_isOn, .selects RX5 yX5_isOn yX5_isOn, .initialized RX5, .code yX5_isOn cX5_isOn 2 (some .boolean), .fieldLink RX5 36 "CleanRunsModel" "states" "[I", .methodLink RX5 89 yX5_isRun, .instanceMethod yX5_isRun, .selects RX5 yX5_isRun yX5_isRun, .code yX5_isRun cX5_isRun 2 (some .boolean), .fieldLink RX5 86 "CleanRunsModel" "runs" "I"] ++ wsX50)
def wsX5_level : List Cond := .code yX5_level cX5_level 2 (some .int) :: ([.fieldLink RX5 36 "CleanRunsModel" "states" "[I", .fieldLink RX5 33 "CleanRunsModel" "levels" "[I", .methodLink RX5 89 yX5_isRun, .instanceMethod yX5_isRun, .selects RX5 yX5_isRun yX5_isRun, .initialized RX5, .code yX5_isRun cX5_isRun 2 (some .boolean), .fieldLink RX5 86 "CleanRunsModel" "runs" "I"] ++ wsX50)
def wsX5_breakOff : List Cond := .code yX5_breakOff cX5_breakOff 2 (some .boolean) :: ([.fieldLink RX5 36 "CleanRunsModel" "states" "[I", .fieldLink RX5 75 "CleanRunsModel" "ended" "[I", .fieldLink RX5 39 "CleanRunsModel" "at" "[I", .fieldLink RX5 42 "CleanRunsModel" "now" "[I", .methodLink RX5 103 yX5_isOn, .instanceMethod yX5_isOn, .selects RX5 yX5_isOn yX5_isOn, .initialized RX5, .code yX5_isOn cX5_isOn 2 (some .boolean), .methodLink RX5 89 yX5_isRun, .instanceMethod yX5_isRun, .selects RX5 yX5_isRun yX5_isRun, .code yX5_isRun cX5_isRun 2 (some .boolean), .fieldLink RX5 86 "CleanRunsModel" "runs" "I"] ++ wsX50)
def wsX5_record : List Cond := .code yX5_record cX5_record 4 (some .int) :: ([.fieldLink RX5 39 "CleanRunsModel" "at" "[I", .fieldLink RX5 17 "CleanRunsModel" "kinds" "[I", .fieldLink RX5 30 "CleanRunsModel" "of" "[I", .fieldLink RX5 69 "CleanRunsModel" "fails" "[I", .fieldLink RX5 72 "CleanRunsModel" "began" "[I", .fieldLink RX5 75 "CleanRunsModel" "ended" "[I", .methodLink RX5 89 yX5_isRun, .instanceMethod yX5_isRun, .selects RX5 yX5_isRun yX5_isRun, .initialized RX5, .code yX5_isRun cX5_isRun 2 (some .boolean), .fieldLink RX5 86 "CleanRunsModel" "runs" "I"] ++ wsX50)
def wsX5_states : List Cond := .code yX5_states cX5_states 1 (some .int) :: ([])
def wsL_law_r1 : List Cond := [Cond.classLink RL 7 RX4, Cond.instantiable RX4 4, Cond.initialized RX4, Cond.classLink RL 10 RX5, Cond.instantiable RX5 24, Cond.initialized RX5, Cond.constantDouble RL 18 (4593671619917905920), Cond.methodLink RL 9 yX4_init, Cond.instanceMethod yX4_init, Cond.code yX4_init cX4_init 1 none, Cond.methodLink RX4 1 objectInit, Cond.instanceMethod objectInit, Cond.code objectInit ⟨#[0xb1]⟩ 1 none, Cond.classLink RX4 9 RX0, Cond.fieldLink RX4 11 "CleanRuns" "recipes" "[LCleanRuns$Recipe;", Cond.classLink RX4 15 RX1, Cond.fieldLink RX4 17 "CleanRuns" "runs" "[LCleanRuns$Run;", Cond.fieldLink RX4 21 "CleanRuns" "recipeCount" "I", Cond.fieldLink RX4 25 "CleanRuns" "runCount" "I", Cond.methodLink RL 12 yX5_init, Cond.instanceMethod yX5_init, Cond.code yX5_init cX5_init 1 none, Cond.methodLink RX5 1 objectInit, Cond.arrayClass .int]
def wsL_law_r2 : List Cond := [Cond.fieldLink RX5 9 "CleanRunsModel" "lengths" "[I", Cond.arrayClass .boolean, Cond.fieldLink RX5 13 "CleanRunsModel" "begun" "[Z", Cond.fieldLink RX5 17 "CleanRunsModel" "kinds" "[I", Cond.fieldLink RX5 20 "CleanRunsModel" "seconds" "[I", Cond.arrayClass .double, Cond.fieldLink RX5 23 "CleanRunsModel" "strengths" "[D", Cond.fieldLink RX5 27 "CleanRunsModel" "warmths" "[D", Cond.fieldLink RX5 30 "CleanRunsModel" "of" "[I", Cond.fieldLink RX5 33 "CleanRunsModel" "levels" "[I", Cond.fieldLink RX5 36 "CleanRunsModel" "states" "[I", Cond.fieldLink RX5 39 "CleanRunsModel" "at" "[I", Cond.fieldLink RX5 42 "CleanRunsModel" "now" "[I", Cond.fieldLink RX5 45 "CleanRunsModel" "counts" "[I", Cond.fieldLink RX5 48 "CleanRunsModel" "missed" "[I", Cond.fieldLink RX5 51 "CleanRunsModel" "waited" "[I", Cond.fieldLink RX5 54 "CleanRunsModel" "values" "[D", Cond.fieldLink RX5 57 "CleanRunsModel" "holds" "[I", Cond.fieldLink RX5 60 "CleanRunsModel" "water" "[D", Cond.fieldLink RX5 63 "CleanRunsModel" "out" "[D", Cond.fieldLink RX5 66 "CleanRunsModel" "back" "[D", Cond.fieldLink RX5 69 "CleanRunsModel" "fails" "[I", Cond.fieldLink RX5 72 "CleanRunsModel" "began" "[I", Cond.fieldLink RX5 75 "CleanRunsModel" "ended" "[I"]
def wsL_law_r3 : List Cond := [Cond.methodLink RL 13 yX4_recipe, Cond.instanceMethod yX4_recipe, Cond.selects RX4 yX4_recipe yX4_recipe, Cond.code yX4_recipe cX4_recipe 2 (some .int), Cond.instantiable RX0 3, Cond.initialized RX0, Cond.methodLink RX4 28 yX0_init, Cond.instanceMethod yX0_init, Cond.code yX0_init cX0_init 1 none, Cond.methodLink RX0 3 objectInit, Cond.classLink RX0 9 RX3, Cond.fieldLink RX0 11 "CleanRuns$Recipe" "steps" "[LCleanRuns$Step;", Cond.fieldLink RX0 17 "CleanRuns$Recipe" "size" "I", Cond.fieldLink RX0 21 "CleanRuns$Recipe" "begun" "Z", Cond.methodLink RL 17 yX5_recipe, Cond.instanceMethod yX5_recipe, Cond.selects RX5 yX5_recipe yX5_recipe, Cond.code yX5_recipe cX5_recipe 1 (some .int), Cond.fieldLink RX5 78 "CleanRunsModel" "recipes" "I", Cond.methodLink RL 20 yX4_step, Cond.instanceMethod yX4_step, Cond.selects RX4 yX4_step yX4_step, Cond.code yX4_step cX4_step 9 (some .boolean), Cond.constantDouble RX4 37 (4636737291354636288)]
def wsL_law_r4 : List Cond := [Cond.constantDouble RX4 43 (4639481672377565184), Cond.classLink RX4 45 RX3, Cond.instantiable RX3 4, Cond.initialized RX3, Cond.methodLink RX4 29 yX4_recipeAt, Cond.instanceMethod yX4_recipeAt, Cond.selects RX4 yX4_recipeAt yX4_recipeAt, Cond.code yX4_recipeAt cX4_recipeAt 2 (some (.object "CleanRuns$Recipe")), Cond.methodLink RX4 33 yX0_takesAStep, Cond.instanceMethod yX0_takesAStep, Cond.selects RX0 yX0_takesAStep yX0_takesAStep, Cond.code yX0_takesAStep cX0_takesAStep 1 (some .boolean), Cond.methodLink RX4 39 yX4_within, Cond.static yX4_within, Cond.code yX4_within cX4_within 6 (some .boolean), Cond.methodLink RX4 47 yX3_init, Cond.instanceMethod yX3_init, Cond.code yX3_init cX3_init 7 none, Cond.methodLink RX3 3 objectInit, Cond.fieldLink RX3 9 "CleanRuns$Step" "kind" "I", Cond.fieldLink RX3 15 "CleanRuns$Step" "seconds" "I", Cond.fieldLink RX3 18 "CleanRuns$Step" "strength" "D", Cond.fieldLink RX3 22 "CleanRuns$Step" "degrees" "D", Cond.methodLink RX4 50 yX0_append]
def wsL_law_r5 : List Cond := [Cond.instanceMethod yX0_append, Cond.selects RX0 yX0_append yX0_append, Cond.code yX0_append cX0_append 2 none, Cond.methodLink RL 24 yX5_step, Cond.instanceMethod yX5_step, Cond.selects RX5 yX5_step yX5_step, Cond.code yX5_step cX5_step 10 (some .boolean), Cond.constantDouble RX5 82 (4636737291354636288), Cond.constantDouble RX5 84 (4639481672377565184), Cond.methodLink RL 25 yX4_start, Cond.instanceMethod yX4_start, Cond.selects RX4 yX4_start yX4_start, Cond.code yX4_start cX4_start 6 (some .int), Cond.instantiable RX1 14, Cond.initialized RX1, Cond.fieldLink RX4 61 "CleanRuns$Recipe" "begun" "Z", Cond.methodLink RX4 54 yX0_stepAt, Cond.instanceMethod yX0_stepAt, Cond.selects RX0 yX0_stepAt yX0_stepAt, Cond.code yX0_stepAt cX0_stepAt 2 (some (.object "CleanRuns$Step")), Cond.methodLink RX4 58 yX1_init, Cond.instanceMethod yX1_init, Cond.code yX1_init cX1_init 4 none, Cond.methodLink RX1 3 objectInit]
def wsL_law_r6 : List Cond := [Cond.fieldLink RX1 9 "CleanRuns$Run" "recipe" "LCleanRuns$Recipe;", Cond.fieldLink RX1 15 "CleanRuns$Run" "goal" "I", Cond.classLink RX1 19 RX2, Cond.fieldLink RX1 21 "CleanRuns$Run" "stays" "[LCleanRuns$Stay;", Cond.instantiable RX2 7, Cond.initialized RX2, Cond.fieldLink RX1 28 "CleanRuns$Run" "current" "LCleanRuns$Stay;", Cond.fieldLink RX1 32 "CleanRuns$Run" "begunSteps" "I", Cond.fieldLink RX1 35 "CleanRuns$Run" "state" "I", Cond.fieldLink RX1 38 "CleanRuns$Run" "second" "I", Cond.fieldLink RX1 41 "CleanRuns$Run" "failures" "I", Cond.fieldLink RX1 44 "CleanRuns$Run" "hasInterface" "Z", Cond.fieldLink RX1 48 "CleanRuns$Run" "interfaceValue" "D", Cond.fieldLink RX1 52 "CleanRuns$Run" "interfaceHold" "I", Cond.fieldLink RX1 55 "CleanRuns$Run" "water" "D", Cond.fieldLink RX1 58 "CleanRuns$Run" "out" "D", Cond.fieldLink RX1 61 "CleanRuns$Run" "back" "D", Cond.methodLink RX1 25 yX2_init, Cond.instanceMethod yX2_init, Cond.code yX2_init cX2_init 3 none, Cond.methodLink RX2 3 objectInit, Cond.fieldLink RX2 9 "CleanRuns$Stay" "step" "LCleanRuns$Step;", Cond.fieldLink RX2 15 "CleanRuns$Stay" "firstSecond" "I", Cond.fieldLink RX2 19 "CleanRuns$Stay" "endSecond" "I"]
def wsL_law_r7 : List Cond := [Cond.fieldLink RX2 22 "CleanRuns$Stay" "waited" "I", Cond.fieldLink RX2 25 "CleanRuns$Stay" "counted" "I", Cond.fieldLink RX2 28 "CleanRuns$Stay" "missed" "I", Cond.fieldLink RX2 31 "CleanRuns$Stay" "failures" "I", Cond.methodLink RL 29 yX5_start, Cond.instanceMethod yX5_start, Cond.selects RX5 yX5_start yX5_start, Cond.code yX5_start cX5_start 3 (some .int), Cond.fieldLink RX5 86 "CleanRunsModel" "runs" "I", Cond.methodLink RL 30 yX4_tick, Cond.instanceMethod yX4_tick, Cond.selects RX4 yX4_tick yX4_tick, Cond.code yX4_tick cX4_tick 9 (some .int), Cond.constantDouble RX4 69 (4652007308841189376), Cond.constantDouble RX4 71 (13855605728582041600), Cond.constantDouble RX4 73 (4641240890982006784), Cond.fieldLink RX4 79 "CleanRuns$Run" "state" "I", Cond.methodLink RX4 65 yX4_runAt, Cond.instanceMethod yX4_runAt, Cond.selects RX4 yX4_runAt yX4_runAt, Cond.code yX4_runAt cX4_runAt 2 (some (.object "CleanRuns$Run")), Cond.methodLink RX4 75 yX1_passSecond, Cond.instanceMethod yX1_passSecond, Cond.selects RX1 yX1_passSecond yX1_passSecond]
def wsL_law_r8 : List Cond := [Cond.code yX1_passSecond cX1_passSecond 8 none, Cond.fieldLink RX1 72 "CleanRuns$Stay" "step" "LCleanRuns$Step;", Cond.methodLink RX1 68 yX1_isOver, Cond.instanceMethod yX1_isOver, Cond.selects RX1 yX1_isOver yX1_isOver, Cond.code yX1_isOver cX1_isOver 1 (some .boolean), Cond.methodLink RX1 76 yX3_holds, Cond.instanceMethod yX3_holds, Cond.selects RX3 yX3_holds yX3_holds, Cond.code yX3_holds cX3_holds 7 (some .boolean), Cond.constantDouble RX3 25 (4602678819172646912), Cond.constantDouble RX3 27 (4593671619917905920), Cond.methodLink RX1 82 yX1_use, Cond.instanceMethod yX1_use, Cond.selects RX1 yX1_use yX1_use, Cond.code yX1_use cX1_use 4 none, Cond.constantDouble RX1 99 (4602678819172646912), Cond.methodLink RX1 96 yX3_usesWater, Cond.instanceMethod yX3_usesWater, Cond.selects RX3 yX3_usesWater yX3_usesWater, Cond.code yX3_usesWater cX3_usesWater 1 (some .boolean), Cond.methodLink RX1 86 yX1_waitASecond, Cond.instanceMethod yX1_waitASecond, Cond.selects RX1 yX1_waitASecond yX1_waitASecond]
def wsL_law_r9 : List Cond := [Cond.code yX1_waitASecond cX1_waitASecond 3 none, Cond.fieldLink RX1 105 "CleanRuns$Stay" "waited" "I", Cond.methodLink RX1 101 yX3_passesInterface, Cond.instanceMethod yX3_passesInterface, Cond.selects RX3 yX3_passesInterface yX3_passesInterface, Cond.code yX3_passesInterface cX3_passesInterface 5 (some .boolean), Cond.methodLink RX3 29 yX3_usesWater, Cond.methodLink RX1 90 yX1_countASecond, Cond.instanceMethod yX1_countASecond, Cond.selects RX1 yX1_countASecond yX1_countASecond, Cond.code yX1_countASecond cX1_countASecond 2 none, Cond.fieldLink RX1 108 "CleanRuns$Stay" "missed" "I", Cond.fieldLink RX1 111 "CleanRuns$Stay" "counted" "I", Cond.fieldLink RX1 114 "CleanRuns$Step" "seconds" "I", Cond.fieldLink RX1 127 "CleanRuns$Stay" "endSecond" "I", Cond.methodLink RX1 117 yX0_stepAt, Cond.methodLink RX1 123 yX1_end, Cond.instanceMethod yX1_end, Cond.selects RX1 yX1_end yX1_end, Cond.code yX1_end cX1_end 2 none, Cond.methodLink RX1 130 yX1_begin, Cond.instanceMethod yX1_begin, Cond.selects RX1 yX1_begin yX1_begin, Cond.code yX1_begin cX1_begin 2 none]
def wsL_law_r10 : List Cond := [Cond.methodLink RX1 93 yX1_missASecond, Cond.instanceMethod yX1_missASecond, Cond.selects RX1 yX1_missASecond yX1_missASecond, Cond.code yX1_missASecond cX1_missASecond 1 none, Cond.fieldLink RX1 134 "CleanRuns$Stay" "failures" "I", Cond.methodLink RL 34 yX5_tick, Cond.instanceMethod yX5_tick, Cond.selects RX5 yX5_tick yX5_tick, Cond.code yX5_tick cX5_tick 13 (some .int), Cond.constantDouble RX5 97 (4652007308841189376), Cond.constantDouble RX5 99 (13855605728582041600), Cond.constantDouble RX5 101 (4641240890982006784), Cond.constantDouble RX5 93 (4602678819172646912), Cond.methodLink RX5 89 yX5_isRun, Cond.instanceMethod yX5_isRun, Cond.selects RX5 yX5_isRun yX5_isRun, Cond.code yX5_isRun cX5_isRun 2 (some .boolean), Cond.methodLink RX5 103 yX5_isOn, Cond.instanceMethod yX5_isOn, Cond.selects RX5 yX5_isOn yX5_isOn, Cond.code yX5_isOn cX5_isOn 2 (some .boolean), Cond.methodLink RX5 106 yX5_place, Cond.instanceMethod yX5_place, Cond.selects RX5 yX5_place yX5_place]
def wsL_law_r11 : List Cond := [Cond.code yX5_place cX5_place 2 (some .int), Cond.methodLink RX5 110 yX5_isHeld, Cond.instanceMethod yX5_isHeld, Cond.selects RX5 yX5_isHeld yX5_isHeld, Cond.code yX5_isHeld cX5_isHeld 8 (some .boolean), Cond.constantDouble RX5 95 (4593671619917905920), Cond.methodLink RX5 114 yX5_end, Cond.instanceMethod yX5_end, Cond.selects RX5 yX5_end yX5_end, Cond.code yX5_end cX5_end 2 none, Cond.methodLink RX5 118 yX5_miss, Cond.instanceMethod yX5_miss, Cond.selects RX5 yX5_miss yX5_miss, Cond.code yX5_miss cX5_miss 3 none, Cond.methodLink RL 35 yX4_state, Cond.instanceMethod yX4_state, Cond.selects RX4 yX4_state yX4_state, Cond.code yX4_state cX4_state 3 (some .int), Cond.methodLink RL 39 yX5_state, Cond.instanceMethod yX5_state, Cond.selects RX5 yX5_state yX5_state, Cond.code yX5_state cX5_state 2 (some .int), Cond.methodLink RL 40 yX4_stepOf, Cond.instanceMethod yX4_stepOf]
def wsL_law_r12 : List Cond := [Cond.selects RX4 yX4_stepOf yX4_stepOf, Cond.code yX4_stepOf cX4_stepOf 3 (some .int), Cond.fieldLink RX4 82 "CleanRuns$Run" "begunSteps" "I", Cond.methodLink RL 43 yX5_stepOf, Cond.instanceMethod yX5_stepOf, Cond.selects RX5 yX5_stepOf yX5_stepOf, Cond.code yX5_stepOf cX5_stepOf 2 (some .int), Cond.methodLink RL 44 yX4_counted, Cond.instanceMethod yX4_counted, Cond.selects RX4 yX4_counted yX4_counted, Cond.code yX4_counted cX4_counted 3 (some .long), Cond.constantLong RX4 85 (-1), Cond.fieldLink RX4 87 "CleanRuns$Run" "current" "LCleanRuns$Stay;", Cond.fieldLink RX4 91 "CleanRuns$Stay" "counted" "I", Cond.methodLink RL 48 yX5_counted, Cond.instanceMethod yX5_counted, Cond.selects RX5 yX5_counted yX5_counted, Cond.code yX5_counted cX5_counted 2 (some .long), Cond.constantLong RX5 121 (-1), Cond.methodLink RL 49 yX4_failed, Cond.instanceMethod yX4_failed, Cond.selects RX4 yX4_failed yX4_failed, Cond.code yX4_failed cX4_failed 3 (some .int), Cond.fieldLink RX4 96 "CleanRuns$Run" "failures" "I"]
def wsL_law_r13 : List Cond := [Cond.methodLink RL 52 yX5_failed, Cond.instanceMethod yX5_failed, Cond.selects RX5 yX5_failed yX5_failed, Cond.code yX5_failed cX5_failed 4 (some .int), Cond.methodLink RL 53 yX4_cleaner, Cond.instanceMethod yX4_cleaner, Cond.selects RX4 yX4_cleaner yX4_cleaner, Cond.code yX4_cleaner cX4_cleaner 4 (some .double), Cond.constantDouble RX4 99 (13830554455654793216), Cond.methodLink RX4 101 yX1_used, Cond.instanceMethod yX1_used, Cond.selects RX1 yX1_used yX1_used, Cond.code yX1_used cX1_used 2 (some .double), Cond.constantDouble RX1 64 (4652007308841189376), Cond.constantDouble RX1 66 (13830554455654793216), Cond.methodLink RL 57 yX5_cleaner, Cond.instanceMethod yX5_cleaner, Cond.selects RX5 yX5_cleaner yX5_cleaner, Cond.code yX5_cleaner cX5_cleaner 3 (some .double), Cond.constantDouble RX5 123 (13830554455654793216), Cond.methodLink RL 58 yX4_interface2, Cond.instanceMethod yX4_interface2, Cond.selects RX4 yX4_interface2 yX4_interface2, Cond.code yX4_interface2 cX4_interface2 6 (some .boolean)]
def wsL_law_r14 : List Cond := [Cond.methodLink RX4 105 yX1_isOver, Cond.methodLink RX4 108 yX1_setInterface, Cond.instanceMethod yX1_setInterface, Cond.selects RX1 yX1_setInterface yX1_setInterface, Cond.code yX1_setInterface cX1_setInterface 4 none, Cond.methodLink RL 62 yX5_interface2, Cond.instanceMethod yX5_interface2, Cond.selects RX5 yX5_interface2 yX5_interface2, Cond.code yX5_interface2 cX5_interface2 5 (some .boolean), Cond.methodLink RL 63 yX4_level, Cond.instanceMethod yX4_level, Cond.selects RX4 yX4_level yX4_level, Cond.code yX4_level cX4_level 3 (some .int), Cond.fieldLink RX4 112 "CleanRuns$Run" "goal" "I", Cond.methodLink RL 66 yX5_level, Cond.instanceMethod yX5_level, Cond.selects RX5 yX5_level yX5_level, Cond.code yX5_level cX5_level 2 (some .int), Cond.methodLink RL 67 yX4_breakOff, Cond.instanceMethod yX4_breakOff, Cond.selects RX4 yX4_breakOff yX4_breakOff, Cond.code yX4_breakOff cX4_breakOff 3 (some .boolean), Cond.methodLink RX4 115 yX1_end, Cond.methodLink RL 71 yX5_breakOff]
def wsL_law_r15 : List Cond := [Cond.instanceMethod yX5_breakOff, Cond.selects RX5 yX5_breakOff yX5_breakOff, Cond.code yX5_breakOff cX5_breakOff 2 (some .boolean), Cond.methodLink RL 72 yX4_record, Cond.instanceMethod yX4_record, Cond.selects RX4 yX4_record yX4_record, Cond.code yX4_record cX4_record 6 (some .int), Cond.methodLink RX4 119 yX1_stayAt, Cond.instanceMethod yX1_stayAt, Cond.selects RX1 yX1_stayAt yX1_stayAt, Cond.code yX1_stayAt cX1_stayAt 2 (some (.object "CleanRuns$Stay")), Cond.methodLink RX4 123 yX2_told, Cond.instanceMethod yX2_told, Cond.selects RX2 yX2_told yX2_told, Cond.code yX2_told cX2_told 2 (some .int), Cond.fieldLink RX2 34 "CleanRuns$Step" "kind" "I", Cond.methodLink RL 76 yX5_record, Cond.instanceMethod yX5_record, Cond.selects RX5 yX5_record yX5_record, Cond.code yX5_record cX5_record 4 (some .int), Cond.methodLink RL 77 yX4_states, Cond.instanceMethod yX4_states, Cond.selects RX4 yX4_states yX4_states, Cond.code yX4_states cX4_states 1 (some .int)]
def wsL_law_r16 : List Cond := [Cond.methodLink RL 80 yX5_states, Cond.instanceMethod yX5_states, Cond.selects RX5 yX5_states yX5_states, Cond.code yX5_states cX5_states 1 (some .int)]
def wsL_law : List Cond := (wsL_law_r1 ++ (wsL_law_r2 ++ (wsL_law_r3 ++ (wsL_law_r4 ++ (wsL_law_r5 ++ (wsL_law_r6 ++ (wsL_law_r7 ++ (wsL_law_r8 ++ (wsL_law_r9 ++ (wsL_law_r10 ++ (wsL_law_r11 ++ (wsL_law_r12 ++ (wsL_law_r13 ++ (wsL_law_r14 ++ (wsL_law_r15 ++ wsL_law_r16))))))))))))))) ++ wsX40 ++ wsX50 ++ wsX00 ++ wsX30 ++ wsX10 ++ wsX20 ++ ([] : List Cond)
set_option maxRecDepth 20000 in
theorem ggX1_init_X2_init : GoodIn wsX1_init wsX2_init := goodIn_r _ [23, 24, 2, 3, 25, 26, 27, 28, 29, 30, 31, 46, 47, 48, 49, 50, 51, 52] (by decide +kernel) (by decide +kernel)
set_option maxRecDepth 20000 in
theorem gX1_init_X2_init : GoodIn wsX1_init (wsX2_init) := ggX1_init_X2_init
set_option maxRecDepth 20000 in
theorem ggX1_passSecond_X1_isOver : GoodIn wsX1_passSecond wsX1_isOver := goodIn_r _ [9, 4, 93, 94, 95, 96, 97, 98, 99, 100, 101, 102, 103, 104, 105, 106] (by decide +kernel) (by decide +kernel)
set_option maxRecDepth 20000 in
theorem gX1_passSecond_X1_isOver : GoodIn wsX1_passSecond (wsV RX1 68 RX1 yX1_isOver wsX1_isOver) := goodIn_app (goodIn_of _ (by decide +kernel)) ggX1_passSecond_X1_isOver
set_option maxRecDepth 20000 in
theorem ggX1_passSecond_X3_holds : GoodIn wsX1_passSecond wsX3_holds := goodIn_r _ [14, 15, 16, 17, 18, 19, 114, 115, 116, 117] (by decide +kernel) (by decide +kernel)
set_option maxRecDepth 20000 in
theorem gX1_passSecond_X3_holds : GoodIn wsX1_passSecond (wsV RX1 76 RX3 yX3_holds wsX3_holds) := goodIn_app (goodIn_of _ (by decide +kernel)) ggX1_passSecond_X3_holds
set_option maxRecDepth 20000 in
theorem ggX1_passSecond_X1_use : GoodIn wsX1_passSecond wsX1_use := goodIn_r _ [23, 1, 2, 24, 25, 4, 26, 27, 28, 29, 30, 13, 31, 15, 93, 94, 95, 96, 97, 98, 99, 100, 101, 102, 103, 104, 105, 106, 107, 108, 109, 110, 111, 112, 113, 114, 115, 116, 117] (by decide +kernel) (by decide +kernel)
set_option maxRecDepth 20000 in
theorem gX1_passSecond_X1_use : GoodIn wsX1_passSecond (wsV RX1 82 RX1 yX1_use wsX1_use) := goodIn_app (goodIn_of _ (by decide +kernel)) ggX1_passSecond_X1_use
set_option maxRecDepth 20000 in
theorem ggX1_passSecond_X1_waitASecond : GoodIn wsX1_passSecond wsX1_waitASecond := goodIn_r _ [35, 1, 2, 36, 37, 38, 4, 39, 40, 41, 13, 42, 43, 29, 30, 31, 15, 93, 94, 95, 96, 97, 98, 99, 100, 101, 102, 103, 104, 105, 106, 107, 108, 109, 110, 111, 112, 113, 114, 115, 116, 117] (by decide +kernel) (by decide +kernel)
set_option maxRecDepth 20000 in
theorem gX1_passSecond_X1_waitASecond : GoodIn wsX1_passSecond (wsV RX1 86 RX1 yX1_waitASecond wsX1_waitASecond) := goodIn_app (goodIn_of _ (by decide +kernel)) ggX1_passSecond_X1_waitASecond
set_option maxRecDepth 20000 in
theorem ggX1_passSecond_X1_countASecond : GoodIn wsX1_passSecond wsX1_countASecond := goodIn_r _ [47, 1, 48, 49, 2, 50, 51, 52, 3, 53, 54, 55, 56, 57, 58, 59, 60, 61, 62, 63, 8, 64, 4, 65, 66, 67, 68, 69, 70, 71, 72, 73, 74, 75, 76, 77, 78, 79, 80, 81, 82, 83, 84, 85, 86, 93, 94, 95, 96, 97, 98, 99, 100, 101, 102, 103, 104, 105, 106, 107, 108, 109, 110, 111, 112, 113, 114, 115, 116, 117, 118, 119, 120] (by decide +kernel) (by decide +kernel)
set_option maxRecDepth 20000 in
theorem gX1_passSecond_X1_countASecond : GoodIn wsX1_passSecond (wsV RX1 90 RX1 yX1_countASecond wsX1_countASecond) := goodIn_app (goodIn_of _ (by decide +kernel)) ggX1_passSecond_X1_countASecond
set_option maxRecDepth 20000 in
theorem ggX1_passSecond_X1_missASecond : GoodIn wsX1_passSecond wsX1_missASecond := goodIn_r _ [90, 1, 48, 91, 92, 49, 61, 62, 63, 8, 64, 3, 53, 4, 93, 94, 95, 96, 97, 98, 99, 100, 101, 102, 103, 104, 105, 106, 107, 108, 109, 110, 111, 112, 113] (by decide +kernel) (by decide +kernel)
set_option maxRecDepth 20000 in
theorem gX1_passSecond_X1_missASecond : GoodIn wsX1_passSecond (wsV RX1 93 RX1 yX1_missASecond wsX1_missASecond) := goodIn_app (goodIn_of _ (by decide +kernel)) ggX1_passSecond_X1_missASecond
set_option maxRecDepth 20000 in
theorem ggX1_use_X3_usesWater : GoodIn wsX1_use wsX3_usesWater := goodIn_r _ [12, 13, 35, 36, 37, 38] (by decide +kernel) (by decide +kernel)
set_option maxRecDepth 20000 in
theorem gX1_use_X3_usesWater : GoodIn wsX1_use (wsV RX1 96 RX3 yX3_usesWater wsX3_usesWater) := goodIn_app (goodIn_of _ (by decide +kernel)) ggX1_use_X3_usesWater
set_option maxRecDepth 20000 in
theorem ggX1_waitASecond_X3_passesInterface : GoodIn wsX1_waitASecond wsX3_passesInterface := goodIn_r _ [11, 12, 13, 14, 10, 15, 16, 38, 39, 40, 41] (by decide +kernel) (by decide +kernel)
set_option maxRecDepth 20000 in
theorem gX1_waitASecond_X3_passesInterface : GoodIn wsX1_waitASecond (wsV RX1 101 RX3 yX3_passesInterface wsX3_passesInterface) := goodIn_app (goodIn_of _ (by decide +kernel)) ggX1_waitASecond_X3_passesInterface
set_option maxRecDepth 20000 in
theorem ggX1_countASecond_X0_stepAt : GoodIn wsX1_countASecond wsX0_stepAt := goodIn_r _ [14, 15, 16, 70, 71, 72] (by decide +kernel) (by decide +kernel)
set_option maxRecDepth 20000 in
theorem gX1_countASecond_X0_stepAt : GoodIn wsX1_countASecond (wsV RX1 117 RX0 yX0_stepAt wsX0_stepAt) := goodIn_app (goodIn_of _ (by decide +kernel)) ggX1_countASecond_X0_stepAt
set_option maxRecDepth 20000 in
theorem ggX1_countASecond_X1_end : GoodIn wsX1_countASecond wsX1_end := goodIn_r _ [21, 1, 8, 9, 22, 45, 46, 47, 48, 49, 50, 51, 52, 53, 54, 55, 56, 57, 58, 59, 60, 61, 62, 63, 64, 65] (by decide +kernel) (by decide +kernel)
set_option maxRecDepth 20000 in
theorem gX1_countASecond_X1_end : GoodIn wsX1_countASecond (wsV RX1 123 RX1 yX1_end wsX1_end) := goodIn_app (goodIn_of _ (by decide +kernel)) ggX1_countASecond_X1_end
set_option maxRecDepth 20000 in
theorem ggX1_countASecond_X1_begin : GoodIn wsX1_countASecond wsX1_begin := goodIn_r _ [26, 7, 27, 28, 29, 30, 8, 1, 31, 22, 32, 33, 34, 35, 36, 37, 38, 39, 40, 41, 42, 43, 44, 45, 46, 47, 48, 49, 50, 51, 52, 53, 54, 55, 56, 57, 58, 59, 60, 61, 62, 63, 64, 65] (by decide +kernel) (by decide +kernel)
set_option maxRecDepth 20000 in
theorem gX1_countASecond_X1_begin : GoodIn wsX1_countASecond (wsV RX1 130 RX1 yX1_begin wsX1_begin) := goodIn_app (goodIn_of _ (by decide +kernel)) ggX1_countASecond_X1_begin
set_option maxRecDepth 20000 in
theorem ggX1_begin_X2_init : GoodIn wsX1_begin wsX2_init := goodIn_r _ [12, 13, 14, 15, 16, 17, 18, 19, 20, 21, 22, 37, 38, 39, 40, 41, 42, 43] (by decide +kernel) (by decide +kernel)
set_option maxRecDepth 20000 in
theorem gX1_begin_X2_init : GoodIn wsX1_begin (wsX2_init) := ggX1_begin_X2_init
set_option maxRecDepth 20000 in
theorem ggX1_missASecond_X1_end : GoodIn wsX1_missASecond wsX1_end := goodIn_r _ [10, 1, 11, 12, 13, 14, 15, 16, 17, 18, 19, 20, 21, 22, 23, 24, 25, 26, 27, 28, 29, 30, 31, 32, 33, 34] (by decide +kernel) (by decide +kernel)
set_option maxRecDepth 20000 in
theorem gX1_missASecond_X1_end : GoodIn wsX1_missASecond (wsV RX1 123 RX1 yX1_end wsX1_end) := goodIn_app (goodIn_of _ (by decide +kernel)) ggX1_missASecond_X1_end
set_option maxRecDepth 20000 in
theorem ggX3_passesInterface_X3_usesWater : GoodIn wsX3_passesInterface wsX3_usesWater := goodIn_r _ [5, 6, 7, 8, 9, 10] (by decide +kernel) (by decide +kernel)
set_option maxRecDepth 20000 in
theorem gX3_passesInterface_X3_usesWater : GoodIn wsX3_passesInterface (wsV RX3 29 RX3 yX3_usesWater wsX3_usesWater) := goodIn_app (goodIn_of _ (by decide +kernel)) ggX3_passesInterface_X3_usesWater
set_option maxRecDepth 20000 in
theorem ggX4_recipe_X0_init : GoodIn wsX4_recipe wsX0_init := goodIn_r _ [8, 9, 10, 11, 12, 13, 14, 15, 20, 21, 22] (by decide +kernel) (by decide +kernel)
set_option maxRecDepth 20000 in
theorem gX4_recipe_X0_init : GoodIn wsX4_recipe (wsX0_init) := ggX4_recipe_X0_init
set_option maxRecDepth 20000 in
theorem ggX4_step_X4_recipeAt : GoodIn wsX4_step wsX4_recipeAt := goodIn_r _ [10, 11, 12, 42, 43, 44, 45] (by decide +kernel) (by decide +kernel)
set_option maxRecDepth 20000 in
theorem gX4_step_X4_recipeAt : GoodIn wsX4_step (wsV RX4 29 RX4 yX4_recipeAt wsX4_recipeAt) := goodIn_app (goodIn_of _ (by decide +kernel)) ggX4_step_X4_recipeAt
set_option maxRecDepth 20000 in
theorem ggX4_step_X0_takesAStep : GoodIn wsX4_step wsX0_takesAStep := goodIn_r _ [17, 18, 19, 20, 46, 47, 48] (by decide +kernel) (by decide +kernel)
set_option maxRecDepth 20000 in
theorem gX4_step_X0_takesAStep : GoodIn wsX4_step (wsV RX4 33 RX0 yX0_takesAStep wsX0_takesAStep) := goodIn_app (goodIn_of _ (by decide +kernel)) ggX4_step_X0_takesAStep
set_option maxRecDepth 20000 in
theorem ggX4_step_X4_within : GoodIn wsX4_step wsX4_within := goodIn_r _ [23] (by decide +kernel) (by decide +kernel)
set_option maxRecDepth 20000 in
theorem gX4_step_X4_within : GoodIn wsX4_step (va_wsS RX4 39 yX4_within wsX4_within) := goodIn_app (goodIn_of _ (by decide +kernel)) ggX4_step_X4_within
set_option maxRecDepth 20000 in
theorem ggX4_step_X3_init : GoodIn wsX4_step wsX3_init := goodIn_r _ [26, 27, 28, 29, 30, 31, 32, 33, 38, 39, 40, 41] (by decide +kernel) (by decide +kernel)
set_option maxRecDepth 20000 in
theorem gX4_step_X3_init : GoodIn wsX4_step (wsX3_init) := ggX4_step_X3_init
set_option maxRecDepth 20000 in
theorem ggX4_step_X0_append : GoodIn wsX4_step wsX0_append := goodIn_r _ [37, 19, 20, 46, 47, 48] (by decide +kernel) (by decide +kernel)
set_option maxRecDepth 20000 in
theorem gX4_step_X0_append : GoodIn wsX4_step (wsV RX4 50 RX0 yX0_append wsX0_append) := goodIn_app (goodIn_of _ (by decide +kernel)) ggX4_step_X0_append
set_option maxRecDepth 20000 in
theorem ggX4_start_X4_recipeAt : GoodIn wsX4_start wsX4_recipeAt := goodIn_r _ [11, 12, 13, 55, 56, 57, 58] (by decide +kernel) (by decide +kernel)
set_option maxRecDepth 20000 in
theorem gX4_start_X4_recipeAt : GoodIn wsX4_start (wsV RX4 29 RX4 yX4_recipeAt wsX4_recipeAt) := goodIn_app (goodIn_of _ (by decide +kernel)) ggX4_start_X4_recipeAt
set_option maxRecDepth 20000 in
theorem ggX4_start_X0_stepAt : GoodIn wsX4_start wsX0_stepAt := goodIn_r _ [18, 19, 20, 73, 74, 75] (by decide +kernel) (by decide +kernel)
set_option maxRecDepth 20000 in
theorem gX4_start_X0_stepAt : GoodIn wsX4_start (wsV RX4 54 RX0 yX0_stepAt wsX0_stepAt) := goodIn_app (goodIn_of _ (by decide +kernel)) ggX4_start_X0_stepAt
set_option maxRecDepth 20000 in
theorem ggX4_start_X1_init : GoodIn wsX4_start wsX1_init := goodIn_r _ [23, 24, 25, 26, 27, 28, 29, 30, 31, 32, 33, 34, 35, 36, 37, 38, 39, 40, 41, 42, 43, 44, 45, 46, 47, 48, 49, 50, 51, 52, 53, 54, 59, 60, 61, 62, 63, 64, 65, 66, 67, 68, 69, 70, 71, 72, 76, 77, 78, 79, 80, 81, 82] (by decide +kernel) (by decide +kernel)
set_option maxRecDepth 20000 in
theorem gX4_start_X1_init : GoodIn wsX4_start (wsX1_init) := ggX4_start_X1_init
set_option maxRecDepth 20000 in
theorem ggX4_tick_X4_runAt : GoodIn wsX4_tick wsX4_runAt := goodIn_r _ [9, 10, 11, 125, 126, 127, 128] (by decide +kernel) (by decide +kernel)
set_option maxRecDepth 20000 in
theorem gX4_tick_X4_runAt : GoodIn wsX4_tick (wsV RX4 65 RX4 yX4_runAt wsX4_runAt) := goodIn_app (goodIn_of _ (by decide +kernel)) ggX4_tick_X4_runAt
set_option maxRecDepth 20000 in
theorem ggX4_tick_X4_within : GoodIn wsX4_tick wsX4_within := goodIn_r _ [14] (by decide +kernel) (by decide +kernel)
set_option maxRecDepth 20000 in
theorem gX4_tick_X4_within : GoodIn wsX4_tick (va_wsS RX4 39 yX4_within wsX4_within) := goodIn_app (goodIn_of _ (by decide +kernel)) ggX4_tick_X4_within
set_option maxRecDepth 20000 in
theorem ggX4_tick_X1_passSecond : GoodIn wsX4_tick wsX1_passSecond := goodIn_r _ [19, 20, 21, 22, 23, 24, 25, 26, 18, 27, 28, 29, 30, 31, 32, 33, 34, 35, 36, 37, 38, 39, 40, 41, 42, 43, 44, 45, 46, 47, 48, 49, 50, 51, 52, 53, 54, 55, 56, 57, 58, 59, 60, 61, 62, 63, 64, 65, 66, 67, 68, 69, 70, 71, 72, 73, 74, 75, 76, 77, 78, 79, 80, 81, 82, 83, 84, 85, 86, 87, 88, 89, 90, 91, 92, 93, 94, 95, 96, 97, 98, 99, 100, 101, 102, 103, 104, 105, 106, 107, 108, 109, 110, 111, 112, 113, 114, 115, 116, 117, 118, 119, 120, 121, 122, 123, 124, 129, 130, 131, 132, 133, 134, 135, 136, 137, 138, 139, 140, 141, 142] (by decide +kernel) (by decide +kernel)
set_option maxRecDepth 20000 in
theorem gX4_tick_X1_passSecond : GoodIn wsX4_tick (wsV RX4 75 RX1 yX1_passSecond wsX1_passSecond) := goodIn_app (goodIn_of _ (by decide +kernel)) ggX4_tick_X1_passSecond
set_option maxRecDepth 20000 in
theorem ggX4_state_X4_runAt : GoodIn wsX4_state wsX4_runAt := goodIn_r _ [6, 7, 8, 23, 24, 25, 26] (by decide +kernel) (by decide +kernel)
set_option maxRecDepth 20000 in
theorem gX4_state_X4_runAt : GoodIn wsX4_state (wsV RX4 65 RX4 yX4_runAt wsX4_runAt) := goodIn_app (goodIn_of _ (by decide +kernel)) ggX4_state_X4_runAt
set_option maxRecDepth 20000 in
theorem ggX4_stepOf_X4_runAt : GoodIn wsX4_stepOf wsX4_runAt := goodIn_r _ [6, 7, 8, 23, 24, 25, 26] (by decide +kernel) (by decide +kernel)
set_option maxRecDepth 20000 in
theorem gX4_stepOf_X4_runAt : GoodIn wsX4_stepOf (wsV RX4 65 RX4 yX4_runAt wsX4_runAt) := goodIn_app (goodIn_of _ (by decide +kernel)) ggX4_stepOf_X4_runAt
set_option maxRecDepth 20000 in
theorem ggX4_counted_X4_runAt : GoodIn wsX4_counted wsX4_runAt := goodIn_r _ [8, 9, 10, 32, 33, 34, 35] (by decide +kernel) (by decide +kernel)
set_option maxRecDepth 20000 in
theorem gX4_counted_X4_runAt : GoodIn wsX4_counted (wsV RX4 65 RX4 yX4_runAt wsX4_runAt) := goodIn_app (goodIn_of _ (by decide +kernel)) ggX4_counted_X4_runAt
set_option maxRecDepth 20000 in
theorem ggX4_failed_X4_runAt : GoodIn wsX4_failed wsX4_runAt := goodIn_r _ [6, 7, 8, 23, 24, 25, 26] (by decide +kernel) (by decide +kernel)
set_option maxRecDepth 20000 in
theorem gX4_failed_X4_runAt : GoodIn wsX4_failed (wsV RX4 65 RX4 yX4_runAt wsX4_runAt) := goodIn_app (goodIn_of _ (by decide +kernel)) ggX4_failed_X4_runAt
set_option maxRecDepth 20000 in
theorem ggX4_cleaner_X4_runAt : GoodIn wsX4_cleaner wsX4_runAt := goodIn_r _ [6, 7, 8, 19, 20, 21, 22] (by decide +kernel) (by decide +kernel)
set_option maxRecDepth 20000 in
theorem gX4_cleaner_X4_runAt : GoodIn wsX4_cleaner (wsV RX4 65 RX4 yX4_runAt wsX4_runAt) := goodIn_app (goodIn_of _ (by decide +kernel)) ggX4_cleaner_X4_runAt
set_option maxRecDepth 20000 in
theorem ggX4_cleaner_X1_used : GoodIn wsX4_cleaner wsX1_used := goodIn_r _ [13, 14, 15, 16, 17, 18, 23, 24, 25, 26, 27, 28, 29, 30, 31, 32, 33, 34, 35, 36] (by decide +kernel) (by decide +kernel)
set_option maxRecDepth 20000 in
theorem gX4_cleaner_X1_used : GoodIn wsX4_cleaner (wsV RX4 101 RX1 yX1_used wsX1_used) := goodIn_app (goodIn_of _ (by decide +kernel)) ggX4_cleaner_X1_used
set_option maxRecDepth 20000 in
theorem ggX4_interface2_X4_runAt : GoodIn wsX4_interface2 wsX4_runAt := goodIn_r _ [6, 7, 8, 25, 26, 27, 28] (by decide +kernel) (by decide +kernel)
set_option maxRecDepth 20000 in
theorem gX4_interface2_X4_runAt : GoodIn wsX4_interface2 (wsV RX4 65 RX4 yX4_runAt wsX4_runAt) := goodIn_app (goodIn_of _ (by decide +kernel)) ggX4_interface2_X4_runAt
set_option maxRecDepth 20000 in
theorem ggX4_interface2_X1_isOver : GoodIn wsX4_interface2 wsX1_isOver := goodIn_r _ [13, 14, 29, 30, 31, 32, 33, 34, 35, 36, 37, 38, 39, 40, 41, 42] (by decide +kernel) (by decide +kernel)
set_option maxRecDepth 20000 in
theorem gX4_interface2_X1_isOver : GoodIn wsX4_interface2 (wsV RX4 105 RX1 yX1_isOver wsX1_isOver) := goodIn_app (goodIn_of _ (by decide +kernel)) ggX4_interface2_X1_isOver
set_option maxRecDepth 20000 in
theorem ggX4_interface2_X4_within : GoodIn wsX4_interface2 wsX4_within := goodIn_r _ [17] (by decide +kernel) (by decide +kernel)
set_option maxRecDepth 20000 in
theorem gX4_interface2_X4_within : GoodIn wsX4_interface2 (va_wsS RX4 39 yX4_within wsX4_within) := goodIn_app (goodIn_of _ (by decide +kernel)) ggX4_interface2_X4_within
set_option maxRecDepth 20000 in
theorem ggX4_interface2_X1_setInterface : GoodIn wsX4_interface2 wsX1_setInterface := goodIn_r _ [21, 22, 23, 24, 29, 30, 31, 32, 33, 34, 35, 36, 37, 38, 39, 40, 41, 42] (by decide +kernel) (by decide +kernel)
set_option maxRecDepth 20000 in
theorem gX4_interface2_X1_setInterface : GoodIn wsX4_interface2 (wsV RX4 108 RX1 yX1_setInterface wsX1_setInterface) := goodIn_app (goodIn_of _ (by decide +kernel)) ggX4_interface2_X1_setInterface
set_option maxRecDepth 20000 in
theorem ggX4_level_X4_runAt : GoodIn wsX4_level wsX4_runAt := goodIn_r _ [7, 8, 9, 24, 25, 26, 27] (by decide +kernel) (by decide +kernel)
set_option maxRecDepth 20000 in
theorem gX4_level_X4_runAt : GoodIn wsX4_level (wsV RX4 65 RX4 yX4_runAt wsX4_runAt) := goodIn_app (goodIn_of _ (by decide +kernel)) ggX4_level_X4_runAt
set_option maxRecDepth 20000 in
theorem ggX4_breakOff_X4_runAt : GoodIn wsX4_breakOff wsX4_runAt := goodIn_r _ [5, 6, 7, 21, 22, 23, 24] (by decide +kernel) (by decide +kernel)
set_option maxRecDepth 20000 in
theorem gX4_breakOff_X4_runAt : GoodIn wsX4_breakOff (wsV RX4 65 RX4 yX4_runAt wsX4_runAt) := goodIn_app (goodIn_of _ (by decide +kernel)) ggX4_breakOff_X4_runAt
set_option maxRecDepth 20000 in
theorem ggX4_breakOff_X1_isOver : GoodIn wsX4_breakOff wsX1_isOver := goodIn_r _ [12, 13, 25, 26, 27, 28, 29, 30, 31, 32, 33, 34, 35, 36, 37, 38] (by decide +kernel) (by decide +kernel)
set_option maxRecDepth 20000 in
theorem gX4_breakOff_X1_isOver : GoodIn wsX4_breakOff (wsV RX4 105 RX1 yX1_isOver wsX1_isOver) := goodIn_app (goodIn_of _ (by decide +kernel)) ggX4_breakOff_X1_isOver
set_option maxRecDepth 20000 in
theorem ggX4_breakOff_X1_end : GoodIn wsX4_breakOff wsX1_end := goodIn_r _ [17, 18, 19, 20, 13, 25, 26, 27, 28, 29, 30, 31, 32, 33, 34, 35, 36, 37, 38, 39, 40, 41, 42, 43, 44, 45] (by decide +kernel) (by decide +kernel)
set_option maxRecDepth 20000 in
theorem gX4_breakOff_X1_end : GoodIn wsX4_breakOff (wsV RX4 115 RX1 yX1_end wsX1_end) := goodIn_app (goodIn_of _ (by decide +kernel)) ggX4_breakOff_X1_end
set_option maxRecDepth 20000 in
theorem ggX4_record_X4_runAt : GoodIn wsX4_record wsX4_runAt := goodIn_r _ [5, 6, 7, 25, 26, 27, 28] (by decide +kernel) (by decide +kernel)
set_option maxRecDepth 20000 in
theorem gX4_record_X4_runAt : GoodIn wsX4_record (wsV RX4 65 RX4 yX4_runAt wsX4_runAt) := goodIn_app (goodIn_of _ (by decide +kernel)) ggX4_record_X4_runAt
set_option maxRecDepth 20000 in
theorem ggX4_record_X1_stayAt : GoodIn wsX4_record wsX1_stayAt := goodIn_r _ [12, 13, 14, 29, 30, 31, 32, 33, 34, 35, 36, 37, 38, 39, 40, 41, 42] (by decide +kernel) (by decide +kernel)
set_option maxRecDepth 20000 in
theorem gX4_record_X1_stayAt : GoodIn wsX4_record (wsV RX4 119 RX1 yX1_stayAt wsX1_stayAt) := goodIn_app (goodIn_of _ (by decide +kernel)) ggX4_record_X1_stayAt
set_option maxRecDepth 20000 in
theorem ggX4_record_X2_told : GoodIn wsX4_record wsX2_told := goodIn_r _ [19, 20, 21, 22, 23, 24, 43, 44, 45, 46, 47, 48, 49, 50, 51, 52, 53] (by decide +kernel) (by decide +kernel)
set_option maxRecDepth 20000 in
theorem gX4_record_X2_told : GoodIn wsX4_record (wsV RX4 123 RX2 yX2_told wsX2_told) := goodIn_app (goodIn_of _ (by decide +kernel)) ggX4_record_X2_told
set_option maxRecDepth 20000 in
theorem ggX5_isOn_X5_isRun : GoodIn wsX5_isOn wsX5_isRun := goodIn_r _ [6, 7, 8, 9, 10, 11, 12, 13, 14, 15, 16, 17, 18, 19, 20, 21, 22, 23, 24, 25, 26, 27, 28, 29, 30, 31] (by decide +kernel) (by decide +kernel)
set_option maxRecDepth 20000 in
theorem gX5_isOn_X5_isRun : GoodIn wsX5_isOn (wsV RX5 89 RX5 yX5_isRun wsX5_isRun) := goodIn_app (goodIn_of _ (by decide +kernel)) ggX5_isOn_X5_isRun
set_option maxRecDepth 20000 in
theorem ggX5_tick_X5_isRun : GoodIn wsX5_tick wsX5_isRun := goodIn_r _ [21, 22, 52, 53, 54, 55, 56, 57, 58, 59, 60, 61, 62, 63, 64, 65, 66, 67, 68, 69, 70, 71, 72, 73, 74, 75] (by decide +kernel) (by decide +kernel)
set_option maxRecDepth 20000 in
theorem gX5_tick_X5_isRun : GoodIn wsX5_tick (wsV RX5 89 RX5 yX5_isRun wsX5_isRun) := goodIn_app (goodIn_of _ (by decide +kernel)) ggX5_tick_X5_isRun
set_option maxRecDepth 20000 in
theorem ggX5_tick_X5_isOn : GoodIn wsX5_tick wsX5_isOn := goodIn_r _ [26, 4, 17, 18, 19, 20, 21, 22, 52, 53, 54, 55, 56, 57, 58, 59, 60, 61, 62, 63, 64, 65, 66, 67, 68, 69, 70, 71, 72, 73, 74, 75] (by decide +kernel) (by decide +kernel)
set_option maxRecDepth 20000 in
theorem gX5_tick_X5_isOn : GoodIn wsX5_tick (wsV RX5 103 RX5 yX5_isOn wsX5_isOn) := goodIn_app (goodIn_of _ (by decide +kernel)) ggX5_tick_X5_isOn
set_option maxRecDepth 20000 in
theorem ggX5_tick_X5_place : GoodIn wsX5_tick wsX5_place := goodIn_r _ [30, 31, 32, 52, 53, 54, 55, 56, 57, 58, 59, 60, 61, 62, 63, 64, 65, 66, 67, 68, 69, 70, 71, 72, 73, 74, 75] (by decide +kernel) (by decide +kernel)
set_option maxRecDepth 20000 in
theorem gX5_tick_X5_place : GoodIn wsX5_tick (wsV RX5 106 RX5 yX5_place wsX5_place) := goodIn_app (goodIn_of _ (by decide +kernel)) ggX5_tick_X5_place
set_option maxRecDepth 20000 in
theorem ggX5_tick_X5_isHeld : GoodIn wsX5_tick wsX5_isHeld := goodIn_r _ [36, 5, 37, 9, 38, 39, 52, 53, 54, 55, 56, 57, 58, 59, 60, 61, 62, 63, 64, 65, 66, 67, 68, 69, 70, 71, 72, 73, 74, 75] (by decide +kernel) (by decide +kernel)
set_option maxRecDepth 20000 in
theorem gX5_tick_X5_isHeld : GoodIn wsX5_tick (wsV RX5 110 RX5 yX5_isHeld wsX5_isHeld) := goodIn_app (goodIn_of _ (by decide +kernel)) ggX5_tick_X5_isHeld
set_option maxRecDepth 20000 in
theorem ggX5_tick_X5_end : GoodIn wsX5_tick wsX5_end := goodIn_r _ [43, 44, 32, 10, 45, 31, 4, 46, 15, 14, 12, 13, 52, 53, 54, 55, 56, 57, 58, 59, 60, 61, 62, 63, 64, 65, 66, 67, 68, 69, 70, 71, 72, 73, 74, 75] (by decide +kernel) (by decide +kernel)
set_option maxRecDepth 20000 in
theorem gX5_tick_X5_end : GoodIn wsX5_tick (wsV RX5 114 RX5 yX5_end wsX5_end) := goodIn_app (goodIn_of _ (by decide +kernel)) ggX5_tick_X5_end
set_option maxRecDepth 20000 in
theorem ggX5_tick_X5_miss : GoodIn wsX5_tick wsX5_miss := goodIn_r _ [50, 32, 15, 14, 51, 4, 44, 10, 52, 53, 54, 55, 56, 57, 58, 59, 60, 61, 62, 63, 64, 65, 66, 67, 68, 69, 70, 71, 72, 73, 74, 75] (by decide +kernel) (by decide +kernel)
set_option maxRecDepth 20000 in
theorem gX5_tick_X5_miss : GoodIn wsX5_tick (wsV RX5 118 RX5 yX5_miss wsX5_miss) := goodIn_app (goodIn_of _ (by decide +kernel)) ggX5_tick_X5_miss
set_option maxRecDepth 20000 in
theorem ggX5_state_X5_isRun : GoodIn wsX5_state wsX5_isRun := goodIn_r _ [6, 7, 8, 9, 10, 11, 12, 13, 14, 15, 16, 17, 18, 19, 20, 21, 22, 23, 24, 25, 26, 27, 28, 29, 30, 31] (by decide +kernel) (by decide +kernel)
set_option maxRecDepth 20000 in
theorem gX5_state_X5_isRun : GoodIn wsX5_state (wsV RX5 89 RX5 yX5_isRun wsX5_isRun) := goodIn_app (goodIn_of _ (by decide +kernel)) ggX5_state_X5_isRun
set_option maxRecDepth 20000 in
theorem ggX5_stepOf_X5_isRun : GoodIn wsX5_stepOf wsX5_isRun := goodIn_r _ [6, 7, 8, 9, 10, 11, 12, 13, 14, 15, 16, 17, 18, 19, 20, 21, 22, 23, 24, 25, 26, 27, 28, 29, 30, 31] (by decide +kernel) (by decide +kernel)
set_option maxRecDepth 20000 in
theorem gX5_stepOf_X5_isRun : GoodIn wsX5_stepOf (wsV RX5 89 RX5 yX5_isRun wsX5_isRun) := goodIn_app (goodIn_of _ (by decide +kernel)) ggX5_stepOf_X5_isRun
set_option maxRecDepth 20000 in
theorem ggX5_counted_X5_isRun : GoodIn wsX5_counted wsX5_isRun := goodIn_r _ [7, 8, 9, 10, 11, 12, 13, 14, 15, 16, 17, 18, 19, 20, 21, 22, 23, 24, 25, 26, 27, 28, 29, 30, 31, 32] (by decide +kernel) (by decide +kernel)
set_option maxRecDepth 20000 in
theorem gX5_counted_X5_isRun : GoodIn wsX5_counted (wsV RX5 89 RX5 yX5_isRun wsX5_isRun) := goodIn_app (goodIn_of _ (by decide +kernel)) ggX5_counted_X5_isRun
set_option maxRecDepth 20000 in
theorem ggX5_failed_X5_isRun : GoodIn wsX5_failed wsX5_isRun := goodIn_r _ [6, 7, 8, 9, 10, 11, 12, 13, 14, 15, 16, 17, 18, 19, 20, 21, 22, 23, 24, 25, 26, 27, 28, 29, 30, 31] (by decide +kernel) (by decide +kernel)
set_option maxRecDepth 20000 in
theorem gX5_failed_X5_isRun : GoodIn wsX5_failed (wsV RX5 89 RX5 yX5_isRun wsX5_isRun) := goodIn_app (goodIn_of _ (by decide +kernel)) ggX5_failed_X5_isRun
set_option maxRecDepth 20000 in
theorem ggX5_cleaner_X5_isRun : GoodIn wsX5_cleaner wsX5_isRun := goodIn_r _ [10, 11, 12, 13, 14, 15, 16, 17, 18, 19, 20, 21, 22, 23, 24, 25, 26, 27, 28, 29, 30, 31, 32, 33, 34, 35] (by decide +kernel) (by decide +kernel)
set_option maxRecDepth 20000 in
theorem gX5_cleaner_X5_isRun : GoodIn wsX5_cleaner (wsV RX5 89 RX5 yX5_isRun wsX5_isRun) := goodIn_app (goodIn_of _ (by decide +kernel)) ggX5_cleaner_X5_isRun
set_option maxRecDepth 20000 in
theorem ggX5_interface2_X5_isOn : GoodIn wsX5_interface2 wsX5_isOn := goodIn_r _ [8, 9, 10, 11, 12, 7, 13, 14, 15, 16, 17, 18, 19, 20, 21, 22, 23, 24, 25, 26, 27, 28, 29, 30, 31, 32, 33, 34, 35, 36, 37, 38] (by decide +kernel) (by decide +kernel)
set_option maxRecDepth 20000 in
theorem gX5_interface2_X5_isOn : GoodIn wsX5_interface2 (wsV RX5 103 RX5 yX5_isOn wsX5_isOn) := goodIn_app (goodIn_of _ (by decide +kernel)) ggX5_interface2_X5_isOn
set_option maxRecDepth 20000 in
theorem ggX5_level_X5_isRun : GoodIn wsX5_level wsX5_isRun := goodIn_r _ [7, 8, 9, 10, 11, 12, 13, 14, 15, 16, 17, 18, 19, 20, 21, 22, 23, 24, 25, 26, 27, 28, 29, 30, 31, 32] (by decide +kernel) (by decide +kernel)
set_option maxRecDepth 20000 in
theorem gX5_level_X5_isRun : GoodIn wsX5_level (wsV RX5 89 RX5 yX5_isRun wsX5_isRun) := goodIn_app (goodIn_of _ (by decide +kernel)) ggX5_level_X5_isRun
set_option maxRecDepth 20000 in
theorem ggX5_breakOff_X5_isOn : GoodIn wsX5_breakOff wsX5_isOn := goodIn_r _ [9, 1, 10, 11, 12, 8, 13, 14, 15, 16, 17, 18, 19, 20, 21, 22, 23, 24, 25, 26, 27, 28, 29, 30, 31, 32, 33, 34, 35, 36, 37, 38] (by decide +kernel) (by decide +kernel)
set_option maxRecDepth 20000 in
theorem gX5_breakOff_X5_isOn : GoodIn wsX5_breakOff (wsV RX5 103 RX5 yX5_isOn wsX5_isOn) := goodIn_app (goodIn_of _ (by decide +kernel)) ggX5_breakOff_X5_isOn
set_option maxRecDepth 20000 in
theorem ggX5_record_X5_isRun : GoodIn wsX5_record wsX5_isRun := goodIn_r _ [11, 12, 13, 14, 15, 16, 17, 18, 19, 20, 21, 22, 23, 24, 25, 26, 27, 28, 29, 30, 31, 32, 33, 34, 35, 36] (by decide +kernel) (by decide +kernel)
set_option maxRecDepth 20000 in
theorem gX5_record_X5_isRun : GoodIn wsX5_record (wsV RX5 89 RX5 yX5_isRun wsX5_isRun) := goodIn_app (goodIn_of _ (by decide +kernel)) ggX5_record_X5_isRun
abbrev vwCl : List vw_C := [(RX0, TX0, 3), (RX1, TX1, 14), (RX2, TX2, 7), (RX3, TX3, 4), (RX4, TX4, 4), (RX5, TX5, 24)]
end
section
set_option maxRecDepth 20000 in
theorem lwp_1 : GoodIn lw_tbl wsL_law_r1 := goodIn_r _ [20, 21, 14, 328, 329, 15, 499, 22, 23, 24, 25, 26, 27, 28, 32, 30, 33, 34, 35, 330, 331, 332, 333, 407] (by decide +kernel) (by decide +kernel)
set_option maxRecDepth 20000 in
theorem lwp_2 : GoodIn lw_tbl wsL_law_r2 := goodIn_r _ [335, 408, 336, 337, 338, 409, 339, 340, 342, 343, 344, 345, 346, 347, 348, 349, 350, 351, 352, 353, 354, 355, 356, 357] (by decide +kernel) (by decide +kernel)
set_option maxRecDepth 20000 in
theorem lwp_3 : GoodIn lw_tbl wsL_law_r3 := goodIn_r _ [45, 46, 47, 48, 49, 16, 50, 51, 52, 53, 54, 56, 57, 58, 410, 411, 412, 413, 334, 67, 68, 69, 70, 79] (by decide +kernel) (by decide +kernel)
set_option maxRecDepth 20000 in
theorem lwp_4 : GoodIn lw_tbl wsL_law_r4 := goodIn_r _ [83, 84, 85, 17, 71, 73, 0, 74, 75, 76, 77, 78, 80, 81, 82, 86, 87, 88, 89, 90, 92, 94, 95, 105] (by decide +kernel) (by decide +kernel)
set_option maxRecDepth 20000 in
theorem lwp_5 : GoodIn lw_tbl wsL_law_r5 := goodIn_r _ [106, 107, 108, 414, 415, 416, 417, 418, 419, 109, 110, 111, 112, 117, 18, 59, 113, 114, 115, 116, 118, 119, 120, 121] (by decide +kernel) (by decide +kernel)
set_option maxRecDepth 20000 in
theorem lwp_6 : GoodIn lw_tbl wsL_law_r6 := goodIn_r _ [158, 159, 122, 161, 124, 19, 162, 164, 166, 168, 169, 171, 172, 173, 174, 175, 176, 125, 126, 127, 128, 129, 131, 132] (by decide +kernel) (by decide +kernel)
set_option maxRecDepth 20000 in
theorem lwp_7 : GoodIn lw_tbl wsL_law_r7 := goodIn_r _ [134, 136, 139, 141, 420, 421, 422, 423, 341, 206, 207, 208, 209, 214, 215, 216, 167, 210, 212, 1, 213, 217, 218, 219] (by decide +kernel) (by decide +kernel)
set_option maxRecDepth 20000 in
theorem lwp_8 : GoodIn lw_tbl wsL_law_r8 := goodIn_r _ [220, 130, 221, 222, 223, 224, 225, 226, 227, 228, 229, 230, 231, 233, 2, 234, 239, 235, 236, 237, 238, 240, 242, 3] (by decide +kernel) (by decide +kernel)
set_option maxRecDepth 20000 in
theorem lwp_9 : GoodIn lw_tbl wsL_law_r9 := goodIn_r _ [243, 135, 244, 245, 246, 247, 248, 249, 251, 4, 252, 140, 138, 93, 133, 253, 254, 255, 256, 257, 258, 260, 5, 261] (by decide +kernel) (by decide +kernel)
set_option maxRecDepth 20000 in
theorem lwp_10 : GoodIn lw_tbl wsL_law_r10 := goodIn_r _ [262, 264, 6, 265, 142, 424, 425, 426, 427, 432, 433, 434, 447, 428, 430, 7, 431, 435, 437, 8, 438, 439, 441, 9] (by decide +kernel) (by decide +kernel)
set_option maxRecDepth 20000 in
theorem lwp_11 : GoodIn lw_tbl wsL_law_r11 := goodIn_r _ [442, 443, 445, 10, 446, 448, 449, 451, 11, 452, 453, 455, 12, 456, 266, 267, 268, 269, 457, 458, 459, 460, 270, 271] (by decide +kernel) (by decide +kernel)
set_option maxRecDepth 20000 in
theorem lwp_12 : GoodIn lw_tbl wsL_law_r12 := goodIn_r _ [272, 273, 165, 461, 462, 463, 464, 274, 275, 276, 277, 278, 163, 137, 465, 466, 467, 468, 469, 279, 280, 281, 282, 170] (by decide +kernel) (by decide +kernel)
set_option maxRecDepth 20000 in
theorem lwp_13 : GoodIn lw_tbl wsL_law_r13 := goodIn_r _ [470, 471, 472, 473, 283, 284, 285, 286, 287, 288, 289, 290, 291, 292, 293, 474, 475, 476, 477, 478, 294, 295, 296, 297] (by decide +kernel) (by decide +kernel)
set_option maxRecDepth 20000 in
theorem lwp_14 : GoodIn lw_tbl wsL_law_r14 := goodIn_r _ [298, 299, 300, 301, 302, 479, 480, 481, 482, 303, 304, 305, 306, 160, 483, 484, 485, 486, 307, 308, 309, 310, 311, 487] (by decide +kernel) (by decide +kernel)
set_option maxRecDepth 20000 in
theorem lwp_15 : GoodIn lw_tbl wsL_law_r15 := goodIn_r _ [488, 489, 490, 312, 313, 314, 315, 316, 317, 318, 319, 320, 321, 322, 323, 91, 491, 492, 493, 494, 324, 325, 326, 327] (by decide +kernel) (by decide +kernel)
set_option maxRecDepth 20000 in
theorem lwp_16 : GoodIn lw_tbl wsL_law_r16 := goodIn_r _ [495, 496, 497, 498] (by decide +kernel) (by decide +kernel)
set_option maxRecDepth 20000 in
theorem lwc_0 : GoodIn lw_tbl wsX00 := goodIn_r _ [60, 62, 64] (by decide +kernel) (by decide +kernel)
set_option maxRecDepth 20000 in
theorem lwc_1 : GoodIn lw_tbl wsX10 := goodIn_r _ [177, 179, 181, 183, 185, 187, 189, 191, 193, 195, 197, 199, 201, 203] (by decide +kernel) (by decide +kernel)
set_option maxRecDepth 20000 in
theorem lwc_2 : GoodIn lw_tbl wsX20 := goodIn_r _ [143, 145, 147, 149, 151, 153, 155] (by decide +kernel) (by decide +kernel)
set_option maxRecDepth 20000 in
theorem lwc_3 : GoodIn lw_tbl wsX30 := goodIn_r _ [96, 98, 100, 102] (by decide +kernel) (by decide +kernel)
set_option maxRecDepth 20000 in
theorem lwc_4 : GoodIn lw_tbl wsX40 := goodIn_r _ [36, 38, 40, 42] (by decide +kernel) (by decide +kernel)
set_option maxRecDepth 20000 in
theorem lwc_5 : GoodIn lw_tbl wsX50 := goodIn_r _ [358, 360, 362, 364, 366, 368, 370, 372, 374, 376, 378, 380, 382, 384, 386, 388, 390, 392, 394, 396, 398, 400, 402, 404] (by decide +kernel) (by decide +kernel)
theorem lwp_all : GoodIn lw_tbl wsL_law := goodIn_app (goodIn_app (goodIn_app (goodIn_app (goodIn_app (goodIn_app (goodIn_app (goodIn_app lwp_1 (goodIn_app lwp_2 (goodIn_app lwp_3 (goodIn_app lwp_4 (goodIn_app lwp_5 (goodIn_app lwp_6 (goodIn_app lwp_7 (goodIn_app lwp_8 (goodIn_app lwp_9 (goodIn_app lwp_10 (goodIn_app lwp_11 (goodIn_app lwp_12 (goodIn_app lwp_13 (goodIn_app lwp_14 (goodIn_app lwp_15 (lwp_16)))))))))))))))) lwc_4) lwc_5) lwc_0) lwc_3) lwc_1) lwc_2) (fun w h => absurd h List.not_mem_nil)
theorem wsL_law_in : ∀ w ∈ wsL_law, w ∈ lw_tbl := fun w h => (lwp_all w h).1
theorem inlX0 : ∀ w ∈ wsX00, w ∈ wsL_law := fun _ h => List.mem_append_left _ (List.mem_append_left _ (List.mem_append_left _ (List.mem_append_left _ (List.mem_append_right _ h))))
theorem inX0 : ∀ w ∈ wsX00, w ∈ lw_tbl := fun w h => wsL_law_in w (inlX0 w h)
theorem inlX1 : ∀ w ∈ wsX10, w ∈ wsL_law := fun _ h => List.mem_append_left _ (List.mem_append_left _ (List.mem_append_right _ h))
theorem inX1 : ∀ w ∈ wsX10, w ∈ lw_tbl := fun w h => wsL_law_in w (inlX1 w h)
theorem inlX2 : ∀ w ∈ wsX20, w ∈ wsL_law := fun _ h => List.mem_append_left _ (List.mem_append_right _ h)
theorem inX2 : ∀ w ∈ wsX20, w ∈ lw_tbl := fun w h => wsL_law_in w (inlX2 w h)
theorem inlX3 : ∀ w ∈ wsX30, w ∈ wsL_law := fun _ h => List.mem_append_left _ (List.mem_append_left _ (List.mem_append_left _ (List.mem_append_right _ h)))
theorem inX3 : ∀ w ∈ wsX30, w ∈ lw_tbl := fun w h => wsL_law_in w (inlX3 w h)
theorem inlX4 : ∀ w ∈ wsX40, w ∈ wsL_law := fun _ h => List.mem_append_left _ (List.mem_append_left _ (List.mem_append_left _ (List.mem_append_left _ (List.mem_append_left _ (List.mem_append_left _ (List.mem_append_right _ h))))))
theorem inX4 : ∀ w ∈ wsX40, w ∈ lw_tbl := fun w h => wsL_law_in w (inlX4 w h)
theorem inlX5 : ∀ w ∈ wsX50, w ∈ wsL_law := fun _ h => List.mem_append_left _ (List.mem_append_left _ (List.mem_append_left _ (List.mem_append_left _ (List.mem_append_left _ (List.mem_append_right _ h)))))
theorem inX5 : ∀ w ∈ wsX50, w ∈ lw_tbl := fun w h => wsL_law_in w (inlX5 w h)
set_option maxRecDepth 20000 in
theorem ggL_law_X4_init : GoodIn wsL_law wsX4_init := goodIn_r _ [9, 10, 11, 12, 13, 14, 15, 16, 17, 18, 364, 365, 366, 367] (by decide +kernel) (by decide +kernel)
set_option maxRecDepth 20000 in
theorem gL_law_X4_init : GoodIn wsL_law (wsX4_init) := ggL_law_X4_init
set_option maxRecDepth 20000 in
theorem ggL_law_X5_init : GoodIn wsL_law wsX5_init := goodIn_r _ [21, 22, 11, 12, 23, 24, 25, 26, 27, 28, 29, 30, 31, 32, 33, 34, 35, 36, 37, 38, 39, 40, 41, 42, 43, 44, 45, 46, 47, 368, 369, 370, 371, 372, 373, 374, 375, 376, 377, 378, 379, 380, 381, 382, 383, 384, 385, 386, 387, 388, 389, 390, 391] (by decide +kernel) (by decide +kernel)
set_option maxRecDepth 20000 in
theorem gL_law_X5_init : GoodIn wsL_law (wsX5_init) := ggL_law_X5_init
set_option maxRecDepth 20000 in
theorem ggL_law_X4_recipe : GoodIn wsL_law wsX4_recipe := goodIn_r _ [51, 17, 14, 13, 52, 53, 54, 55, 56, 57, 11, 12, 58, 59, 60, 61, 364, 365, 366, 367, 392, 393, 394] (by decide +kernel) (by decide +kernel)
set_option maxRecDepth 20000 in
theorem gL_law_X4_recipe : GoodIn wsL_law (wsV RL 13 RX4 yX4_recipe wsX4_recipe) := goodIn_app (goodIn_of _ (by decide +kernel)) ggL_law_X4_recipe
set_option maxRecDepth 20000 in
theorem ggL_law_X5_recipe : GoodIn wsL_law wsX5_recipe := goodIn_r _ [65, 66, 368, 369, 370, 371, 372, 373, 374, 375, 376, 377, 378, 379, 380, 381, 382, 383, 384, 385, 386, 387, 388, 389, 390, 391] (by decide +kernel) (by decide +kernel)
set_option maxRecDepth 20000 in
theorem gL_law_X5_recipe : GoodIn wsL_law (wsV RL 17 RX5 yX5_recipe wsX5_recipe) := goodIn_app (goodIn_of _ (by decide +kernel)) ggL_law_X5_recipe
set_option maxRecDepth 20000 in
theorem ggL_law_X4_step : GoodIn wsL_law wsX4_step := goodIn_r _ [70, 71, 72, 73, 74, 75, 76, 77, 78, 2, 79, 17, 14, 80, 81, 82, 53, 83, 61, 60, 59, 84, 85, 86, 87, 88, 89, 90, 11, 12, 91, 92, 93, 94, 95, 96, 97, 98, 395, 396, 397, 398, 364, 365, 366, 367, 392, 393, 394] (by decide +kernel) (by decide +kernel)
set_option maxRecDepth 20000 in
theorem gL_law_X4_step : GoodIn wsL_law (wsV RL 20 RX4 yX4_step wsX4_step) := goodIn_app (goodIn_of _ (by decide +kernel)) ggL_law_X4_step
set_option maxRecDepth 20000 in
theorem ggL_law_X5_step : GoodIn wsL_law wsX5_step := goodIn_r _ [102, 66, 26, 24, 103, 104, 27, 28, 30, 31, 368, 369, 370, 371, 372, 373, 374, 375, 376, 377, 378, 379, 380, 381, 382, 383, 384, 385, 386, 387, 388, 389, 390, 391] (by decide +kernel) (by decide +kernel)
set_option maxRecDepth 20000 in
theorem gL_law_X5_step : GoodIn wsL_law (wsV RL 24 RX5 yX5_step wsX5_step) := goodIn_app (goodIn_of _ (by decide +kernel)) ggL_law_X5_step
set_option maxRecDepth 20000 in
theorem ggL_law_X4_start : GoodIn wsL_law wsX4_start := goodIn_r _ [108, 18, 16, 15, 109, 110, 111, 76, 77, 78, 2, 79, 17, 14, 112, 113, 114, 53, 115, 60, 59, 116, 117, 118, 119, 11, 12, 120, 121, 122, 123, 124, 125, 126, 127, 128, 129, 130, 131, 132, 133, 134, 135, 136, 137, 138, 139, 140, 141, 142, 143, 144, 145, 146, 147, 364, 365, 366, 367, 399, 400, 401, 402, 403, 404, 405, 406, 407, 408, 409, 410, 411, 412, 392, 393, 394, 413, 414, 415, 416, 417, 418, 419] (by decide +kernel) (by decide +kernel)
set_option maxRecDepth 20000 in
theorem gL_law_X4_start : GoodIn wsL_law (wsV RL 25 RX4 yX4_start wsX4_start) := goodIn_app (goodIn_of _ (by decide +kernel)) ggL_law_X4_start
set_option maxRecDepth 20000 in
theorem ggL_law_X5_start : GoodIn wsL_law wsX5_start := goodIn_r _ [151, 66, 24, 152, 26, 32, 33, 34, 47, 368, 369, 370, 371, 372, 373, 374, 375, 376, 377, 378, 379, 380, 381, 382, 383, 384, 385, 386, 387, 388, 389, 390, 391] (by decide +kernel) (by decide +kernel)
set_option maxRecDepth 20000 in
theorem gL_law_X5_start : GoodIn wsL_law (wsV RL 29 RX5 yX5_start wsX5_start) := goodIn_app (goodIn_of _ (by decide +kernel)) ggL_law_X5_start
set_option maxRecDepth 20000 in
theorem ggL_law_X4_tick : GoodIn wsL_law wsX4_tick := goodIn_r _ [156, 157, 158, 159, 160, 161, 162, 163, 2, 164, 18, 16, 84, 85, 86, 165, 166, 167, 110, 168, 126, 169, 129, 128, 170, 171, 172, 173, 174, 175, 176, 75, 177, 91, 93, 94, 178, 179, 180, 181, 182, 183, 134, 135, 136, 184, 185, 186, 187, 188, 189, 190, 191, 192, 132, 193, 133, 194, 195, 196, 197, 198, 199, 200, 201, 202, 203, 204, 205, 120, 127, 206, 207, 113, 114, 53, 115, 60, 59, 208, 209, 210, 211, 212, 213, 214, 215, 123, 122, 124, 125, 131, 137, 138, 139, 140, 11, 12, 141, 142, 143, 144, 145, 146, 147, 216, 217, 218, 219, 130, 220, 399, 400, 401, 402, 403, 404, 405, 406, 407, 408, 409, 410, 411, 412, 364, 365, 366, 367, 413, 414, 415, 416, 417, 418, 419, 395, 396, 397, 398, 392, 393, 394] (by decide +kernel) (by decide +kernel)
set_option maxRecDepth 20000 in
theorem gL_law_X4_tick : GoodIn wsL_law (wsV RL 30 RX4 yX4_tick wsX4_tick) := goodIn_app (goodIn_of _ (by decide +kernel)) ggL_law_X4_tick
set_option maxRecDepth 20000 in
theorem ggL_law_X5_tick : GoodIn wsL_law wsX5_tick := goodIn_r _ [224, 225, 226, 227, 34, 27, 42, 43, 44, 228, 36, 40, 39, 41, 38, 37, 28, 229, 230, 231, 5, 232, 152, 233, 234, 235, 236, 237, 238, 239, 240, 32, 35, 241, 242, 243, 244, 30, 31, 245, 246, 247, 248, 249, 47, 24, 46, 250, 251, 252, 253, 45, 368, 369, 370, 371, 372, 373, 374, 375, 376, 377, 378, 379, 380, 381, 382, 383, 384, 385, 386, 387, 388, 389, 390, 391] (by decide +kernel) (by decide +kernel)
set_option maxRecDepth 20000 in
theorem gL_law_X5_tick : GoodIn wsL_law (wsV RL 34 RX5 yX5_tick wsX5_tick) := goodIn_app (goodIn_of _ (by decide +kernel)) ggL_law_X5_tick
set_option maxRecDepth 20000 in
theorem ggL_law_X4_state : GoodIn wsL_law wsX4_state := goodIn_r _ [257, 160, 161, 162, 163, 2, 164, 18, 16, 399, 400, 401, 402, 403, 404, 405, 406, 407, 408, 409, 410, 411, 412, 364, 365, 366, 367] (by decide +kernel) (by decide +kernel)
set_option maxRecDepth 20000 in
theorem gL_law_X4_state : GoodIn wsL_law (wsV RL 35 RX4 yX4_state wsX4_state) := goodIn_app (goodIn_of _ (by decide +kernel)) ggL_law_X4_state
set_option maxRecDepth 20000 in
theorem ggL_law_X5_state : GoodIn wsL_law wsX5_state := goodIn_r _ [261, 34, 229, 230, 231, 5, 232, 152, 368, 369, 370, 371, 372, 373, 374, 375, 376, 377, 378, 379, 380, 381, 382, 383, 384, 385, 386, 387, 388, 389, 390, 391] (by decide +kernel) (by decide +kernel)
set_option maxRecDepth 20000 in
theorem gL_law_X5_state : GoodIn wsL_law (wsV RL 39 RX5 yX5_state wsX5_state) := goodIn_app (goodIn_of _ (by decide +kernel)) ggL_law_X5_state
set_option maxRecDepth 20000 in
theorem ggL_law_X4_stepOf : GoodIn wsL_law wsX4_stepOf := goodIn_r _ [265, 266, 161, 162, 163, 2, 164, 18, 16, 399, 400, 401, 402, 403, 404, 405, 406, 407, 408, 409, 410, 411, 412, 364, 365, 366, 367] (by decide +kernel) (by decide +kernel)
set_option maxRecDepth 20000 in
theorem gL_law_X4_stepOf : GoodIn wsL_law (wsV RL 40 RX4 yX4_stepOf wsX4_stepOf) := goodIn_app (goodIn_of _ (by decide +kernel)) ggL_law_X4_stepOf
set_option maxRecDepth 20000 in
theorem ggL_law_X5_stepOf : GoodIn wsL_law wsX5_stepOf := goodIn_r _ [270, 35, 229, 230, 231, 5, 232, 152, 368, 369, 370, 371, 372, 373, 374, 375, 376, 377, 378, 379, 380, 381, 382, 383, 384, 385, 386, 387, 388, 389, 390, 391] (by decide +kernel) (by decide +kernel)
set_option maxRecDepth 20000 in
theorem gL_law_X5_stepOf : GoodIn wsL_law (wsV RL 43 RX5 yX5_stepOf wsX5_stepOf) := goodIn_app (goodIn_of _ (by decide +kernel)) ggL_law_X5_stepOf
set_option maxRecDepth 20000 in
theorem ggL_law_X4_counted : GoodIn wsL_law wsX4_counted := goodIn_r _ [274, 275, 276, 277, 161, 162, 163, 2, 164, 18, 16, 399, 400, 401, 402, 403, 404, 405, 406, 407, 408, 409, 410, 411, 412, 413, 414, 415, 416, 417, 418, 419, 364, 365, 366, 367] (by decide +kernel) (by decide +kernel)
set_option maxRecDepth 20000 in
theorem gL_law_X4_counted : GoodIn wsL_law (wsV RL 44 RX4 yX4_counted wsX4_counted) := goodIn_app (goodIn_of _ (by decide +kernel)) ggL_law_X4_counted
set_option maxRecDepth 20000 in
theorem ggL_law_X5_counted : GoodIn wsL_law wsX5_counted := goodIn_r _ [281, 37, 282, 229, 230, 231, 5, 232, 152, 368, 369, 370, 371, 372, 373, 374, 375, 376, 377, 378, 379, 380, 381, 382, 383, 384, 385, 386, 387, 388, 389, 390, 391] (by decide +kernel) (by decide +kernel)
set_option maxRecDepth 20000 in
theorem gL_law_X5_counted : GoodIn wsL_law (wsV RL 48 RX5 yX5_counted wsX5_counted) := goodIn_app (goodIn_of _ (by decide +kernel)) ggL_law_X5_counted
set_option maxRecDepth 20000 in
theorem ggL_law_X4_failed : GoodIn wsL_law wsX4_failed := goodIn_r _ [286, 287, 161, 162, 163, 2, 164, 18, 16, 399, 400, 401, 402, 403, 404, 405, 406, 407, 408, 409, 410, 411, 412, 364, 365, 366, 367] (by decide +kernel) (by decide +kernel)
set_option maxRecDepth 20000 in
theorem gL_law_X4_failed : GoodIn wsL_law (wsV RL 49 RX4 yX4_failed wsX4_failed) := goodIn_app (goodIn_of _ (by decide +kernel)) ggL_law_X4_failed
set_option maxRecDepth 20000 in
theorem ggL_law_X5_failed : GoodIn wsL_law wsX5_failed := goodIn_r _ [291, 45, 229, 230, 231, 5, 232, 152, 368, 369, 370, 371, 372, 373, 374, 375, 376, 377, 378, 379, 380, 381, 382, 383, 384, 385, 386, 387, 388, 389, 390, 391] (by decide +kernel) (by decide +kernel)
set_option maxRecDepth 20000 in
theorem gL_law_X5_failed : GoodIn wsL_law (wsV RL 52 RX5 yX5_failed wsX5_failed) := goodIn_app (goodIn_of _ (by decide +kernel)) ggL_law_X5_failed
set_option maxRecDepth 20000 in
theorem ggL_law_X4_cleaner : GoodIn wsL_law wsX4_cleaner := goodIn_r _ [295, 296, 161, 162, 163, 2, 164, 18, 16, 297, 298, 299, 110, 300, 134, 135, 136, 301, 302, 364, 365, 366, 367, 399, 400, 401, 402, 403, 404, 405, 406, 407, 408, 409, 410, 411, 412] (by decide +kernel) (by decide +kernel)
set_option maxRecDepth 20000 in
theorem gL_law_X4_cleaner : GoodIn wsL_law (wsV RL 53 RX4 yX4_cleaner wsX4_cleaner) := goodIn_app (goodIn_of _ (by decide +kernel)) ggL_law_X4_cleaner
set_option maxRecDepth 20000 in
theorem ggL_law_X5_cleaner : GoodIn wsL_law wsX5_cleaner := goodIn_r _ [306, 307, 42, 43, 44, 225, 229, 230, 231, 5, 232, 152, 368, 369, 370, 371, 372, 373, 374, 375, 376, 377, 378, 379, 380, 381, 382, 383, 384, 385, 386, 387, 388, 389, 390, 391] (by decide +kernel) (by decide +kernel)
set_option maxRecDepth 20000 in
theorem gL_law_X5_cleaner : GoodIn wsL_law (wsV RL 57 RX5 yX5_cleaner wsX5_cleaner) := goodIn_app (goodIn_of _ (by decide +kernel)) ggL_law_X5_cleaner
set_option maxRecDepth 20000 in
theorem ggL_law_X4_interface2 : GoodIn wsL_law wsX4_interface2 := goodIn_r _ [311, 71, 161, 162, 163, 2, 164, 18, 16, 312, 171, 172, 110, 173, 128, 84, 85, 86, 313, 314, 315, 316, 131, 132, 133, 364, 365, 366, 367, 399, 400, 401, 402, 403, 404, 405, 406, 407, 408, 409, 410, 411, 412] (by decide +kernel) (by decide +kernel)
set_option maxRecDepth 20000 in
theorem gL_law_X4_interface2 : GoodIn wsL_law (wsV RL 58 RX4 yX4_interface2 wsX4_interface2) := goodIn_app (goodIn_of _ (by decide +kernel)) ggL_law_X4_interface2
set_option maxRecDepth 20000 in
theorem ggL_law_X5_interface2 : GoodIn wsL_law wsX5_interface2 := goodIn_r _ [320, 103, 40, 41, 233, 234, 235, 5, 236, 34, 229, 230, 231, 232, 152, 368, 369, 370, 371, 372, 373, 374, 375, 376, 377, 378, 379, 380, 381, 382, 383, 384, 385, 386, 387, 388, 389, 390, 391] (by decide +kernel) (by decide +kernel)
set_option maxRecDepth 20000 in
theorem gL_law_X5_interface2 : GoodIn wsL_law (wsV RL 62 RX5 yX5_interface2 wsX5_interface2) := goodIn_app (goodIn_of _ (by decide +kernel)) ggL_law_X5_interface2
set_option maxRecDepth 20000 in
theorem ggL_law_X4_level : GoodIn wsL_law wsX4_level := goodIn_r _ [324, 160, 325, 161, 162, 163, 2, 164, 18, 16, 399, 400, 401, 402, 403, 404, 405, 406, 407, 408, 409, 410, 411, 412, 364, 365, 366, 367] (by decide +kernel) (by decide +kernel)
set_option maxRecDepth 20000 in
theorem gL_law_X4_level : GoodIn wsL_law (wsV RL 63 RX4 yX4_level wsX4_level) := goodIn_app (goodIn_of _ (by decide +kernel)) ggL_law_X4_level
set_option maxRecDepth 20000 in
theorem ggL_law_X5_level : GoodIn wsL_law wsX5_level := goodIn_r _ [329, 34, 33, 229, 230, 231, 5, 232, 152, 368, 369, 370, 371, 372, 373, 374, 375, 376, 377, 378, 379, 380, 381, 382, 383, 384, 385, 386, 387, 388, 389, 390, 391] (by decide +kernel) (by decide +kernel)
set_option maxRecDepth 20000 in
theorem gL_law_X5_level : GoodIn wsL_law (wsV RL 66 RX5 yX5_level wsX5_level) := goodIn_app (goodIn_of _ (by decide +kernel)) ggL_law_X5_level
set_option maxRecDepth 20000 in
theorem ggL_law_X4_breakOff : GoodIn wsL_law wsX4_breakOff := goodIn_r _ [333, 161, 162, 163, 2, 164, 18, 16, 312, 171, 172, 110, 173, 128, 334, 209, 210, 211, 126, 129, 206, 364, 365, 366, 367, 399, 400, 401, 402, 403, 404, 405, 406, 407, 408, 409, 410, 411, 412, 413, 414, 415, 416, 417, 418, 419] (by decide +kernel) (by decide +kernel)
set_option maxRecDepth 20000 in
theorem gL_law_X4_breakOff : GoodIn wsL_law (wsV RL 67 RX4 yX4_breakOff wsX4_breakOff) := goodIn_app (goodIn_of _ (by decide +kernel)) ggL_law_X4_breakOff
set_option maxRecDepth 20000 in
theorem ggL_law_X5_breakOff : GoodIn wsL_law wsX5_breakOff := goodIn_r _ [338, 34, 47, 35, 36, 233, 234, 235, 5, 236, 229, 230, 231, 232, 152, 368, 369, 370, 371, 372, 373, 374, 375, 376, 377, 378, 379, 380, 381, 382, 383, 384, 385, 386, 387, 388, 389, 390, 391] (by decide +kernel) (by decide +kernel)
set_option maxRecDepth 20000 in
theorem gL_law_X5_breakOff : GoodIn wsL_law (wsV RL 71 RX5 yX5_breakOff wsX5_breakOff) := goodIn_app (goodIn_of _ (by decide +kernel)) ggL_law_X5_breakOff
set_option maxRecDepth 20000 in
theorem ggL_law_X4_record : GoodIn wsL_law wsX4_record := goodIn_r _ [342, 161, 162, 163, 2, 164, 18, 16, 343, 344, 345, 110, 346, 127, 123, 347, 348, 349, 125, 350, 141, 351, 147, 142, 143, 364, 365, 366, 367, 399, 400, 401, 402, 403, 404, 405, 406, 407, 408, 409, 410, 411, 412, 413, 414, 415, 416, 417, 418, 419, 395, 396, 397, 398] (by decide +kernel) (by decide +kernel)
set_option maxRecDepth 20000 in
theorem gL_law_X4_record : GoodIn wsL_law (wsV RL 72 RX4 yX4_record wsX4_record) := goodIn_app (goodIn_of _ (by decide +kernel)) ggL_law_X4_record
set_option maxRecDepth 20000 in
theorem ggL_law_X5_record : GoodIn wsL_law wsX5_record := goodIn_r _ [355, 35, 27, 32, 45, 46, 47, 229, 230, 231, 5, 232, 152, 368, 369, 370, 371, 372, 373, 374, 375, 376, 377, 378, 379, 380, 381, 382, 383, 384, 385, 386, 387, 388, 389, 390, 391] (by decide +kernel) (by decide +kernel)
set_option maxRecDepth 20000 in
theorem gL_law_X5_record : GoodIn wsL_law (wsV RL 76 RX5 yX5_record wsX5_record) := goodIn_app (goodIn_of _ (by decide +kernel)) ggL_law_X5_record
set_option maxRecDepth 20000 in
theorem ggL_law_X4_states : GoodIn wsL_law wsX4_states := goodIn_r _ [359] (by decide +kernel) (by decide +kernel)
set_option maxRecDepth 20000 in
theorem gL_law_X4_states : GoodIn wsL_law (wsV RL 77 RX4 yX4_states wsX4_states) := goodIn_app (goodIn_of _ (by decide +kernel)) ggL_law_X4_states
set_option maxRecDepth 20000 in
theorem ggL_law_X5_states : GoodIn wsL_law wsX5_states := goodIn_r _ [363] (by decide +kernel) (by decide +kernel)
set_option maxRecDepth 20000 in
theorem gL_law_X5_states : GoodIn wsL_law (wsV RL 80 RX5 yX5_states wsX5_states) := goodIn_app (goodIn_of _ (by decide +kernel)) ggL_law_X5_states
end
section
theorem dX0_init_0 : decode cX0_init 0 = .ok (.aload_n 0, 1) := by decide +kernel
theorem dX0_init_1 : decode cX0_init 1 = .ok (.invokespecial 3, 3) := by decide +kernel
theorem dX0_init_4 : decode cX0_init 4 = .ok (.aload_n 0, 1) := by decide +kernel
theorem dX0_init_5 : decode cX0_init 5 = .ok (.bipush 12, 2) := by decide +kernel
theorem dX0_init_7 : decode cX0_init 7 = .ok (.anewarray 9, 3) := by decide +kernel
theorem dX0_init_10 : decode cX0_init 10 = .ok (.putfield 11, 3) := by decide +kernel
theorem dX0_init_13 : decode cX0_init 13 = .ok (.aload_n 0, 1) := by decide +kernel
theorem dX0_init_14 : decode cX0_init 14 = .ok (.iconst 0, 1) := by decide +kernel
theorem dX0_init_15 : decode cX0_init 15 = .ok (.putfield 17, 3) := by decide +kernel
theorem dX0_init_18 : decode cX0_init 18 = .ok (.aload_n 0, 1) := by decide +kernel
theorem dX0_init_19 : decode cX0_init 19 = .ok (.iconst 0, 1) := by decide +kernel
theorem dX0_init_20 : decode cX0_init 20 = .ok (.putfield 21, 3) := by decide +kernel
theorem dX0_init_23 : decode cX0_init 23 = .ok (.return_, 1) := by decide +kernel
theorem dX0_takesAStep_0 : decode cX0_takesAStep 0 = .ok (.aload_n 0, 1) := by decide +kernel
theorem dX0_takesAStep_1 : decode cX0_takesAStep 1 = .ok (.getfield 21, 3) := by decide +kernel
theorem dX0_takesAStep_4 : decode cX0_takesAStep 4 = .ok (.ifCond .ne 19, 3) := by decide +kernel
theorem dX0_takesAStep_7 : decode cX0_takesAStep 7 = .ok (.aload_n 0, 1) := by decide +kernel
theorem dX0_takesAStep_8 : decode cX0_takesAStep 8 = .ok (.getfield 17, 3) := by decide +kernel
theorem dX0_takesAStep_11 : decode cX0_takesAStep 11 = .ok (.aload_n 0, 1) := by decide +kernel
theorem dX0_takesAStep_12 : decode cX0_takesAStep 12 = .ok (.getfield 11, 3) := by decide +kernel
theorem dX0_takesAStep_15 : decode cX0_takesAStep 15 = .ok (.arraylength, 1) := by decide +kernel
theorem dX0_takesAStep_16 : decode cX0_takesAStep 16 = .ok (.if_icmp .ge 7, 3) := by decide +kernel
theorem dX0_takesAStep_19 : decode cX0_takesAStep 19 = .ok (.iconst 1, 1) := by decide +kernel
theorem dX0_takesAStep_20 : decode cX0_takesAStep 20 = .ok (.goto 4, 3) := by decide +kernel
theorem dX0_takesAStep_23 : decode cX0_takesAStep 23 = .ok (.iconst 0, 1) := by decide +kernel
theorem dX0_takesAStep_24 : decode cX0_takesAStep 24 = .ok (.ireturn, 1) := by decide +kernel
theorem dX0_append_0 : decode cX0_append 0 = .ok (.aload_n 0, 1) := by decide +kernel
theorem dX0_append_1 : decode cX0_append 1 = .ok (.getfield 17, 3) := by decide +kernel
theorem dX0_append_4 : decode cX0_append 4 = .ok (.ifCond .lt 35, 3) := by decide +kernel
theorem dX0_append_7 : decode cX0_append 7 = .ok (.aload_n 0, 1) := by decide +kernel
theorem dX0_append_8 : decode cX0_append 8 = .ok (.getfield 17, 3) := by decide +kernel
theorem dX0_append_11 : decode cX0_append 11 = .ok (.aload_n 0, 1) := by decide +kernel
theorem dX0_append_12 : decode cX0_append 12 = .ok (.getfield 11, 3) := by decide +kernel
theorem dX0_append_15 : decode cX0_append 15 = .ok (.arraylength, 1) := by decide +kernel
theorem dX0_append_16 : decode cX0_append 16 = .ok (.if_icmp .ge 23, 3) := by decide +kernel
theorem dX0_append_19 : decode cX0_append 19 = .ok (.aload_n 0, 1) := by decide +kernel
theorem dX0_append_20 : decode cX0_append 20 = .ok (.getfield 11, 3) := by decide +kernel
theorem dX0_append_23 : decode cX0_append 23 = .ok (.aload_n 0, 1) := by decide +kernel
theorem dX0_append_24 : decode cX0_append 24 = .ok (.getfield 17, 3) := by decide +kernel
theorem dX0_append_27 : decode cX0_append 27 = .ok (.aload_n 1, 1) := by decide +kernel
theorem dX0_append_28 : decode cX0_append 28 = .ok (.aastore, 1) := by decide +kernel
theorem dX0_append_29 : decode cX0_append 29 = .ok (.aload_n 0, 1) := by decide +kernel
theorem dX0_append_30 : decode cX0_append 30 = .ok (.dup, 1) := by decide +kernel
theorem dX0_append_31 : decode cX0_append 31 = .ok (.getfield 17, 3) := by decide +kernel
theorem dX0_append_34 : decode cX0_append 34 = .ok (.iconst 1, 1) := by decide +kernel
theorem dX0_append_35 : decode cX0_append 35 = .ok (.iadd, 1) := by decide +kernel
theorem dX0_append_36 : decode cX0_append 36 = .ok (.putfield 17, 3) := by decide +kernel
theorem dX0_append_39 : decode cX0_append 39 = .ok (.return_, 1) := by decide +kernel
theorem dX0_stepAt_0 : decode cX0_stepAt 0 = .ok (.iload_n 1, 1) := by decide +kernel
theorem dX0_stepAt_1 : decode cX0_stepAt 1 = .ok (.ifCond .lt 20, 3) := by decide +kernel
theorem dX0_stepAt_4 : decode cX0_stepAt 4 = .ok (.iload_n 1, 1) := by decide +kernel
theorem dX0_stepAt_5 : decode cX0_stepAt 5 = .ok (.aload_n 0, 1) := by decide +kernel
theorem dX0_stepAt_6 : decode cX0_stepAt 6 = .ok (.getfield 17, 3) := by decide +kernel
theorem dX0_stepAt_9 : decode cX0_stepAt 9 = .ok (.if_icmp .ge 12, 3) := by decide +kernel
theorem dX0_stepAt_12 : decode cX0_stepAt 12 = .ok (.iload_n 1, 1) := by decide +kernel
theorem dX0_stepAt_13 : decode cX0_stepAt 13 = .ok (.aload_n 0, 1) := by decide +kernel
theorem dX0_stepAt_14 : decode cX0_stepAt 14 = .ok (.getfield 11, 3) := by decide +kernel
theorem dX0_stepAt_17 : decode cX0_stepAt 17 = .ok (.arraylength, 1) := by decide +kernel
theorem dX0_stepAt_18 : decode cX0_stepAt 18 = .ok (.if_icmp .lt 5, 3) := by decide +kernel
theorem dX0_stepAt_21 : decode cX0_stepAt 21 = .ok (.aconst_null, 1) := by decide +kernel
theorem dX0_stepAt_22 : decode cX0_stepAt 22 = .ok (.areturn, 1) := by decide +kernel
theorem dX0_stepAt_23 : decode cX0_stepAt 23 = .ok (.aload_n 0, 1) := by decide +kernel
theorem dX0_stepAt_24 : decode cX0_stepAt 24 = .ok (.getfield 11, 3) := by decide +kernel
theorem dX0_stepAt_27 : decode cX0_stepAt 27 = .ok (.iload_n 1, 1) := by decide +kernel
theorem dX0_stepAt_28 : decode cX0_stepAt 28 = .ok (.aaload, 1) := by decide +kernel
theorem dX0_stepAt_29 : decode cX0_stepAt 29 = .ok (.areturn, 1) := by decide +kernel
theorem dX1_init_0 : decode cX1_init 0 = .ok (.aload_n 0, 1) := by decide +kernel
theorem dX1_init_1 : decode cX1_init 1 = .ok (.invokespecial 3, 3) := by decide +kernel
theorem dX1_init_4 : decode cX1_init 4 = .ok (.aload_n 0, 1) := by decide +kernel
theorem dX1_init_5 : decode cX1_init 5 = .ok (.aload_n 1, 1) := by decide +kernel
theorem dX1_init_6 : decode cX1_init 6 = .ok (.putfield 9, 3) := by decide +kernel
theorem dX1_init_9 : decode cX1_init 9 = .ok (.aload_n 0, 1) := by decide +kernel
theorem dX1_init_10 : decode cX1_init 10 = .ok (.iload_n 3, 1) := by decide +kernel
theorem dX1_init_11 : decode cX1_init 11 = .ok (.putfield 15, 3) := by decide +kernel
theorem dX1_init_14 : decode cX1_init 14 = .ok (.aload_n 0, 1) := by decide +kernel
theorem dX1_init_15 : decode cX1_init 15 = .ok (.bipush 12, 2) := by decide +kernel
theorem dX1_init_17 : decode cX1_init 17 = .ok (.anewarray 19, 3) := by decide +kernel
theorem dX1_init_20 : decode cX1_init 20 = .ok (.putfield 21, 3) := by decide +kernel
theorem dX1_init_23 : decode cX1_init 23 = .ok (.aload_n 0, 1) := by decide +kernel
theorem dX1_init_24 : decode cX1_init 24 = .ok (.new 19, 3) := by decide +kernel
theorem dX1_init_27 : decode cX1_init 27 = .ok (.dup, 1) := by decide +kernel
theorem dX1_init_28 : decode cX1_init 28 = .ok (.aload_n 2, 1) := by decide +kernel
theorem dX1_init_29 : decode cX1_init 29 = .ok (.iconst 0, 1) := by decide +kernel
theorem dX1_init_30 : decode cX1_init 30 = .ok (.invokespecial 25, 3) := by decide +kernel
theorem dX1_init_33 : decode cX1_init 33 = .ok (.putfield 28, 3) := by decide +kernel
theorem dX1_init_36 : decode cX1_init 36 = .ok (.aload_n 0, 1) := by decide +kernel
theorem dX1_init_37 : decode cX1_init 37 = .ok (.getfield 21, 3) := by decide +kernel
theorem dX1_init_40 : decode cX1_init 40 = .ok (.iconst 0, 1) := by decide +kernel
theorem dX1_init_41 : decode cX1_init 41 = .ok (.aload_n 0, 1) := by decide +kernel
theorem dX1_init_42 : decode cX1_init 42 = .ok (.getfield 28, 3) := by decide +kernel
theorem dX1_init_45 : decode cX1_init 45 = .ok (.aastore, 1) := by decide +kernel
theorem dX1_init_46 : decode cX1_init 46 = .ok (.aload_n 0, 1) := by decide +kernel
theorem dX1_init_47 : decode cX1_init 47 = .ok (.iconst 1, 1) := by decide +kernel
theorem dX1_init_48 : decode cX1_init 48 = .ok (.putfield 32, 3) := by decide +kernel
theorem dX1_init_51 : decode cX1_init 51 = .ok (.aload_n 0, 1) := by decide +kernel
theorem dX1_init_52 : decode cX1_init 52 = .ok (.iconst 1, 1) := by decide +kernel
theorem dX1_init_53 : decode cX1_init 53 = .ok (.putfield 35, 3) := by decide +kernel
theorem dX1_init_56 : decode cX1_init 56 = .ok (.aload_n 0, 1) := by decide +kernel
theorem dX1_init_57 : decode cX1_init 57 = .ok (.iconst 0, 1) := by decide +kernel
theorem dX1_init_58 : decode cX1_init 58 = .ok (.putfield 38, 3) := by decide +kernel
theorem dX1_init_61 : decode cX1_init 61 = .ok (.aload_n 0, 1) := by decide +kernel
theorem dX1_init_62 : decode cX1_init 62 = .ok (.iconst 0, 1) := by decide +kernel
theorem dX1_init_63 : decode cX1_init 63 = .ok (.putfield 41, 3) := by decide +kernel
theorem dX1_init_66 : decode cX1_init 66 = .ok (.aload_n 0, 1) := by decide +kernel
theorem dX1_init_67 : decode cX1_init 67 = .ok (.iconst 0, 1) := by decide +kernel
theorem dX1_init_68 : decode cX1_init 68 = .ok (.putfield 44, 3) := by decide +kernel
theorem dX1_init_71 : decode cX1_init 71 = .ok (.aload_n 0, 1) := by decide +kernel
theorem dX1_init_72 : decode cX1_init 72 = .ok (.dconst 0, 1) := by decide +kernel
theorem dX1_init_73 : decode cX1_init 73 = .ok (.putfield 48, 3) := by decide +kernel
theorem dX1_init_76 : decode cX1_init 76 = .ok (.aload_n 0, 1) := by decide +kernel
theorem dX1_init_77 : decode cX1_init 77 = .ok (.iconst 0, 1) := by decide +kernel
theorem dX1_init_78 : decode cX1_init 78 = .ok (.putfield 52, 3) := by decide +kernel
theorem dX1_init_81 : decode cX1_init 81 = .ok (.aload_n 0, 1) := by decide +kernel
theorem dX1_init_82 : decode cX1_init 82 = .ok (.dconst 0, 1) := by decide +kernel
theorem dX1_init_83 : decode cX1_init 83 = .ok (.putfield 55, 3) := by decide +kernel
theorem dX1_init_86 : decode cX1_init 86 = .ok (.aload_n 0, 1) := by decide +kernel
theorem dX1_init_87 : decode cX1_init 87 = .ok (.dconst 0, 1) := by decide +kernel
theorem dX1_init_88 : decode cX1_init 88 = .ok (.putfield 58, 3) := by decide +kernel
theorem dX1_init_91 : decode cX1_init 91 = .ok (.aload_n 0, 1) := by decide +kernel
theorem dX1_init_92 : decode cX1_init 92 = .ok (.dconst 0, 1) := by decide +kernel
theorem dX1_init_93 : decode cX1_init 93 = .ok (.putfield 61, 3) := by decide +kernel
theorem dX1_init_96 : decode cX1_init 96 = .ok (.return_, 1) := by decide +kernel
theorem dX1_isOver_0 : decode cX1_isOver 0 = .ok (.aload_n 0, 1) := by decide +kernel
theorem dX1_isOver_1 : decode cX1_isOver 1 = .ok (.getfield 35, 3) := by decide +kernel
theorem dX1_isOver_4 : decode cX1_isOver 4 = .ok (.iconst 2, 1) := by decide +kernel
theorem dX1_isOver_5 : decode cX1_isOver 5 = .ok (.if_icmp .eq 19, 3) := by decide +kernel
theorem dX1_isOver_8 : decode cX1_isOver 8 = .ok (.aload_n 0, 1) := by decide +kernel
theorem dX1_isOver_9 : decode cX1_isOver 9 = .ok (.getfield 35, 3) := by decide +kernel
theorem dX1_isOver_12 : decode cX1_isOver 12 = .ok (.iconst 3, 1) := by decide +kernel
theorem dX1_isOver_13 : decode cX1_isOver 13 = .ok (.if_icmp .eq 11, 3) := by decide +kernel
theorem dX1_isOver_16 : decode cX1_isOver 16 = .ok (.aload_n 0, 1) := by decide +kernel
theorem dX1_isOver_17 : decode cX1_isOver 17 = .ok (.getfield 35, 3) := by decide +kernel
theorem dX1_isOver_20 : decode cX1_isOver 20 = .ok (.iconst 4, 1) := by decide +kernel
theorem dX1_isOver_21 : decode cX1_isOver 21 = .ok (.if_icmp .ne 7, 3) := by decide +kernel
theorem dX1_isOver_24 : decode cX1_isOver 24 = .ok (.iconst 1, 1) := by decide +kernel
theorem dX1_isOver_25 : decode cX1_isOver 25 = .ok (.goto 4, 3) := by decide +kernel
theorem dX1_isOver_28 : decode cX1_isOver 28 = .ok (.iconst 0, 1) := by decide +kernel
theorem dX1_isOver_29 : decode cX1_isOver 29 = .ok (.ireturn, 1) := by decide +kernel
theorem dX1_stayAt_0 : decode cX1_stayAt 0 = .ok (.iload_n 1, 1) := by decide +kernel
theorem dX1_stayAt_1 : decode cX1_stayAt 1 = .ok (.ifCond .lt 20, 3) := by decide +kernel
theorem dX1_stayAt_4 : decode cX1_stayAt 4 = .ok (.iload_n 1, 1) := by decide +kernel
theorem dX1_stayAt_5 : decode cX1_stayAt 5 = .ok (.aload_n 0, 1) := by decide +kernel
theorem dX1_stayAt_6 : decode cX1_stayAt 6 = .ok (.getfield 32, 3) := by decide +kernel
theorem dX1_stayAt_9 : decode cX1_stayAt 9 = .ok (.if_icmp .ge 12, 3) := by decide +kernel
theorem dX1_stayAt_12 : decode cX1_stayAt 12 = .ok (.iload_n 1, 1) := by decide +kernel
theorem dX1_stayAt_13 : decode cX1_stayAt 13 = .ok (.aload_n 0, 1) := by decide +kernel
theorem dX1_stayAt_14 : decode cX1_stayAt 14 = .ok (.getfield 21, 3) := by decide +kernel
theorem dX1_stayAt_17 : decode cX1_stayAt 17 = .ok (.arraylength, 1) := by decide +kernel
theorem dX1_stayAt_18 : decode cX1_stayAt 18 = .ok (.if_icmp .lt 5, 3) := by decide +kernel
theorem dX1_stayAt_21 : decode cX1_stayAt 21 = .ok (.aconst_null, 1) := by decide +kernel
theorem dX1_stayAt_22 : decode cX1_stayAt 22 = .ok (.areturn, 1) := by decide +kernel
theorem dX1_stayAt_23 : decode cX1_stayAt 23 = .ok (.aload_n 0, 1) := by decide +kernel
theorem dX1_stayAt_24 : decode cX1_stayAt 24 = .ok (.getfield 21, 3) := by decide +kernel
theorem dX1_stayAt_27 : decode cX1_stayAt 27 = .ok (.iload_n 1, 1) := by decide +kernel
theorem dX1_stayAt_28 : decode cX1_stayAt 28 = .ok (.aaload, 1) := by decide +kernel
theorem dX1_stayAt_29 : decode cX1_stayAt 29 = .ok (.areturn, 1) := by decide +kernel
theorem dX1_used_0 : decode cX1_used 0 = .ok (.iload_n 1, 1) := by decide +kernel
theorem dX1_used_1 : decode cX1_used 1 = .ok (.tableswitch 60 0 3 #[31, 36, 41, 46], 31) := by decide +kernel
theorem dX1_used_32 : decode cX1_used 32 = .ok (.aload_n 0, 1) := by decide +kernel
theorem dX1_used_33 : decode cX1_used 33 = .ok (.getfield 55, 3) := by decide +kernel
theorem dX1_used_36 : decode cX1_used 36 = .ok (.dreturn, 1) := by decide +kernel
theorem dX1_used_37 : decode cX1_used 37 = .ok (.aload_n 0, 1) := by decide +kernel
theorem dX1_used_38 : decode cX1_used 38 = .ok (.getfield 58, 3) := by decide +kernel
theorem dX1_used_41 : decode cX1_used 41 = .ok (.dreturn, 1) := by decide +kernel
theorem dX1_used_42 : decode cX1_used 42 = .ok (.aload_n 0, 1) := by decide +kernel
theorem dX1_used_43 : decode cX1_used 43 = .ok (.getfield 61, 3) := by decide +kernel
theorem dX1_used_46 : decode cX1_used 46 = .ok (.dreturn, 1) := by decide +kernel
theorem dX1_used_47 : decode cX1_used 47 = .ok (.ldc2_w 64, 3) := by decide +kernel
theorem dX1_used_50 : decode cX1_used 50 = .ok (.aload_n 0, 1) := by decide +kernel
theorem dX1_used_51 : decode cX1_used 51 = .ok (.getfield 58, 3) := by decide +kernel
theorem dX1_used_54 : decode cX1_used 54 = .ok (.dsub, 1) := by decide +kernel
theorem dX1_used_55 : decode cX1_used 55 = .ok (.aload_n 0, 1) := by decide +kernel
theorem dX1_used_56 : decode cX1_used 56 = .ok (.getfield 61, 3) := by decide +kernel
theorem dX1_used_59 : decode cX1_used 59 = .ok (.dadd, 1) := by decide +kernel
theorem dX1_used_60 : decode cX1_used 60 = .ok (.dreturn, 1) := by decide +kernel
theorem dX1_used_61 : decode cX1_used 61 = .ok (.ldc2_w 66, 3) := by decide +kernel
theorem dX1_used_64 : decode cX1_used 64 = .ok (.dreturn, 1) := by decide +kernel
theorem dX1_setInterface_0 : decode cX1_setInterface 0 = .ok (.aload_n 0, 1) := by decide +kernel
theorem dX1_setInterface_1 : decode cX1_setInterface 1 = .ok (.iconst 1, 1) := by decide +kernel
theorem dX1_setInterface_2 : decode cX1_setInterface 2 = .ok (.putfield 44, 3) := by decide +kernel
theorem dX1_setInterface_5 : decode cX1_setInterface 5 = .ok (.aload_n 0, 1) := by decide +kernel
theorem dX1_setInterface_6 : decode cX1_setInterface 6 = .ok (.dload_n 1, 1) := by decide +kernel
theorem dX1_setInterface_7 : decode cX1_setInterface 7 = .ok (.putfield 48, 3) := by decide +kernel
theorem dX1_setInterface_10 : decode cX1_setInterface 10 = .ok (.aload_n 0, 1) := by decide +kernel
theorem dX1_setInterface_11 : decode cX1_setInterface 11 = .ok (.iload_n 3, 1) := by decide +kernel
theorem dX1_setInterface_12 : decode cX1_setInterface 12 = .ok (.putfield 52, 3) := by decide +kernel
theorem dX1_setInterface_15 : decode cX1_setInterface 15 = .ok (.return_, 1) := by decide +kernel
theorem dX1_passSecond_0 : decode cX1_passSecond 0 = .ok (.aload_n 0, 1) := by decide +kernel
theorem dX1_passSecond_1 : decode cX1_passSecond 1 = .ok (.invokevirtual 68, 3) := by decide +kernel
theorem dX1_passSecond_4 : decode cX1_passSecond 4 = .ok (.ifCond .eq 4, 3) := by decide +kernel
theorem dX1_passSecond_7 : decode cX1_passSecond 7 = .ok (.return_, 1) := by decide +kernel
theorem dX1_passSecond_8 : decode cX1_passSecond 8 = .ok (.aload_n 0, 1) := by decide +kernel
theorem dX1_passSecond_9 : decode cX1_passSecond 9 = .ok (.getfield 28, 3) := by decide +kernel
theorem dX1_passSecond_12 : decode cX1_passSecond 12 = .ok (.getfield 72, 3) := by decide +kernel
theorem dX1_passSecond_15 : decode cX1_passSecond 15 = .ok (.dload_n 1, 1) := by decide +kernel
theorem dX1_passSecond_16 : decode cX1_passSecond 16 = .ok (.dload_n 3, 1) := by decide +kernel
theorem dX1_passSecond_17 : decode cX1_passSecond 17 = .ok (.dload 5, 2) := by decide +kernel
theorem dX1_passSecond_19 : decode cX1_passSecond 19 = .ok (.invokevirtual 76, 3) := by decide +kernel
theorem dX1_passSecond_22 : decode cX1_passSecond 22 = .ok (.istore 7, 2) := by decide +kernel
theorem dX1_passSecond_24 : decode cX1_passSecond 24 = .ok (.aload_n 0, 1) := by decide +kernel
theorem dX1_passSecond_25 : decode cX1_passSecond 25 = .ok (.dload 5, 2) := by decide +kernel
theorem dX1_passSecond_27 : decode cX1_passSecond 27 = .ok (.iload 7, 2) := by decide +kernel
theorem dX1_passSecond_29 : decode cX1_passSecond 29 = .ok (.invokevirtual 82, 3) := by decide +kernel
theorem dX1_passSecond_32 : decode cX1_passSecond 32 = .ok (.aload_n 0, 1) := by decide +kernel
theorem dX1_passSecond_33 : decode cX1_passSecond 33 = .ok (.dup, 1) := by decide +kernel
theorem dX1_passSecond_34 : decode cX1_passSecond 34 = .ok (.getfield 38, 3) := by decide +kernel
theorem dX1_passSecond_37 : decode cX1_passSecond 37 = .ok (.iconst 1, 1) := by decide +kernel
theorem dX1_passSecond_38 : decode cX1_passSecond 38 = .ok (.iadd, 1) := by decide +kernel
theorem dX1_passSecond_39 : decode cX1_passSecond 39 = .ok (.putfield 38, 3) := by decide +kernel
theorem dX1_passSecond_42 : decode cX1_passSecond 42 = .ok (.aload_n 0, 1) := by decide +kernel
theorem dX1_passSecond_43 : decode cX1_passSecond 43 = .ok (.getfield 35, 3) := by decide +kernel
theorem dX1_passSecond_46 : decode cX1_passSecond 46 = .ok (.ifCond .ne 11, 3) := by decide +kernel
theorem dX1_passSecond_49 : decode cX1_passSecond 49 = .ok (.aload_n 0, 1) := by decide +kernel
theorem dX1_passSecond_50 : decode cX1_passSecond 50 = .ok (.dload_n 1, 1) := by decide +kernel
theorem dX1_passSecond_51 : decode cX1_passSecond 51 = .ok (.invokevirtual 86, 3) := by decide +kernel
theorem dX1_passSecond_54 : decode cX1_passSecond 54 = .ok (.goto 19, 3) := by decide +kernel
theorem dX1_passSecond_57 : decode cX1_passSecond 57 = .ok (.iload 7, 2) := by decide +kernel
theorem dX1_passSecond_59 : decode cX1_passSecond 59 = .ok (.ifCond .eq 10, 3) := by decide +kernel
theorem dX1_passSecond_62 : decode cX1_passSecond 62 = .ok (.aload_n 0, 1) := by decide +kernel
theorem dX1_passSecond_63 : decode cX1_passSecond 63 = .ok (.invokevirtual 90, 3) := by decide +kernel
theorem dX1_passSecond_66 : decode cX1_passSecond 66 = .ok (.goto 7, 3) := by decide +kernel
theorem dX1_passSecond_69 : decode cX1_passSecond 69 = .ok (.aload_n 0, 1) := by decide +kernel
theorem dX1_passSecond_70 : decode cX1_passSecond 70 = .ok (.invokevirtual 93, 3) := by decide +kernel
theorem dX1_passSecond_73 : decode cX1_passSecond 73 = .ok (.return_, 1) := by decide +kernel
theorem dX1_use_0 : decode cX1_use 0 = .ok (.aload_n 0, 1) := by decide +kernel
theorem dX1_use_1 : decode cX1_use 1 = .ok (.getfield 28, 3) := by decide +kernel
theorem dX1_use_4 : decode cX1_use 4 = .ok (.getfield 72, 3) := by decide +kernel
theorem dX1_use_7 : decode cX1_use 7 = .ok (.invokevirtual 96, 3) := by decide +kernel
theorem dX1_use_10 : decode cX1_use 10 = .ok (.ifCond .eq 14, 3) := by decide +kernel
theorem dX1_use_13 : decode cX1_use 13 = .ok (.aload_n 0, 1) := by decide +kernel
theorem dX1_use_14 : decode cX1_use 14 = .ok (.dup, 1) := by decide +kernel
theorem dX1_use_15 : decode cX1_use 15 = .ok (.getfield 55, 3) := by decide +kernel
theorem dX1_use_18 : decode cX1_use 18 = .ok (.dload_n 1, 1) := by decide +kernel
theorem dX1_use_19 : decode cX1_use 19 = .ok (.dadd, 1) := by decide +kernel
theorem dX1_use_20 : decode cX1_use 20 = .ok (.putfield 55, 3) := by decide +kernel
theorem dX1_use_23 : decode cX1_use 23 = .ok (.return_, 1) := by decide +kernel
theorem dX1_use_24 : decode cX1_use 24 = .ok (.aload_n 0, 1) := by decide +kernel
theorem dX1_use_25 : decode cX1_use 25 = .ok (.dup, 1) := by decide +kernel
theorem dX1_use_26 : decode cX1_use 26 = .ok (.getfield 58, 3) := by decide +kernel
theorem dX1_use_29 : decode cX1_use 29 = .ok (.dload_n 1, 1) := by decide +kernel
theorem dX1_use_30 : decode cX1_use 30 = .ok (.dadd, 1) := by decide +kernel
theorem dX1_use_31 : decode cX1_use 31 = .ok (.putfield 58, 3) := by decide +kernel
theorem dX1_use_34 : decode cX1_use 34 = .ok (.aload_n 0, 1) := by decide +kernel
theorem dX1_use_35 : decode cX1_use 35 = .ok (.getfield 35, 3) := by decide +kernel
theorem dX1_use_38 : decode cX1_use 38 = .ok (.iconst 1, 1) := by decide +kernel
theorem dX1_use_39 : decode cX1_use 39 = .ok (.if_icmp .ne 25, 3) := by decide +kernel
theorem dX1_use_42 : decode cX1_use 42 = .ok (.aload_n 0, 1) := by decide +kernel
theorem dX1_use_43 : decode cX1_use 43 = .ok (.dup, 1) := by decide +kernel
theorem dX1_use_44 : decode cX1_use 44 = .ok (.getfield 61, 3) := by decide +kernel
theorem dX1_use_47 : decode cX1_use 47 = .ok (.iload_n 3, 1) := by decide +kernel
theorem dX1_use_48 : decode cX1_use 48 = .ok (.ifCond .eq 7, 3) := by decide +kernel
theorem dX1_use_51 : decode cX1_use 51 = .ok (.dload_n 1, 1) := by decide +kernel
theorem dX1_use_52 : decode cX1_use 52 = .ok (.goto 8, 3) := by decide +kernel
theorem dX1_use_55 : decode cX1_use 55 = .ok (.dload_n 1, 1) := by decide +kernel
theorem dX1_use_56 : decode cX1_use 56 = .ok (.ldc2_w 99, 3) := by decide +kernel
theorem dX1_use_59 : decode cX1_use 59 = .ok (.dmul, 1) := by decide +kernel
theorem dX1_use_60 : decode cX1_use 60 = .ok (.dadd, 1) := by decide +kernel
theorem dX1_use_61 : decode cX1_use 61 = .ok (.putfield 61, 3) := by decide +kernel
theorem dX1_use_64 : decode cX1_use 64 = .ok (.return_, 1) := by decide +kernel
theorem dX1_waitASecond_0 : decode cX1_waitASecond 0 = .ok (.aload_n 0, 1) := by decide +kernel
theorem dX1_waitASecond_1 : decode cX1_waitASecond 1 = .ok (.getfield 28, 3) := by decide +kernel
theorem dX1_waitASecond_4 : decode cX1_waitASecond 4 = .ok (.getfield 72, 3) := by decide +kernel
theorem dX1_waitASecond_7 : decode cX1_waitASecond 7 = .ok (.dload_n 1, 1) := by decide +kernel
theorem dX1_waitASecond_8 : decode cX1_waitASecond 8 = .ok (.aload_n 0, 1) := by decide +kernel
theorem dX1_waitASecond_9 : decode cX1_waitASecond 9 = .ok (.getfield 48, 3) := by decide +kernel
theorem dX1_waitASecond_12 : decode cX1_waitASecond 12 = .ok (.invokevirtual 101, 3) := by decide +kernel
theorem dX1_waitASecond_15 : decode cX1_waitASecond 15 = .ok (.ifCond .ne 12, 3) := by decide +kernel
theorem dX1_waitASecond_18 : decode cX1_waitASecond 18 = .ok (.aload_n 0, 1) := by decide +kernel
theorem dX1_waitASecond_19 : decode cX1_waitASecond 19 = .ok (.getfield 28, 3) := by decide +kernel
theorem dX1_waitASecond_22 : decode cX1_waitASecond 22 = .ok (.iconst 0, 1) := by decide +kernel
theorem dX1_waitASecond_23 : decode cX1_waitASecond 23 = .ok (.putfield 105, 3) := by decide +kernel
theorem dX1_waitASecond_26 : decode cX1_waitASecond 26 = .ok (.return_, 1) := by decide +kernel
theorem dX1_waitASecond_27 : decode cX1_waitASecond 27 = .ok (.aload_n 0, 1) := by decide +kernel
theorem dX1_waitASecond_28 : decode cX1_waitASecond 28 = .ok (.getfield 28, 3) := by decide +kernel
theorem dX1_waitASecond_31 : decode cX1_waitASecond 31 = .ok (.dup, 1) := by decide +kernel
theorem dX1_waitASecond_32 : decode cX1_waitASecond 32 = .ok (.getfield 105, 3) := by decide +kernel
theorem dX1_waitASecond_35 : decode cX1_waitASecond 35 = .ok (.iconst 1, 1) := by decide +kernel
theorem dX1_waitASecond_36 : decode cX1_waitASecond 36 = .ok (.iadd, 1) := by decide +kernel
theorem dX1_waitASecond_37 : decode cX1_waitASecond 37 = .ok (.putfield 105, 3) := by decide +kernel
theorem dX1_waitASecond_40 : decode cX1_waitASecond 40 = .ok (.aload_n 0, 1) := by decide +kernel
theorem dX1_waitASecond_41 : decode cX1_waitASecond 41 = .ok (.getfield 28, 3) := by decide +kernel
theorem dX1_waitASecond_44 : decode cX1_waitASecond 44 = .ok (.getfield 105, 3) := by decide +kernel
theorem dX1_waitASecond_47 : decode cX1_waitASecond 47 = .ok (.aload_n 0, 1) := by decide +kernel
theorem dX1_waitASecond_48 : decode cX1_waitASecond 48 = .ok (.getfield 52, 3) := by decide +kernel
theorem dX1_waitASecond_51 : decode cX1_waitASecond 51 = .ok (.if_icmp .lt 8, 3) := by decide +kernel
theorem dX1_waitASecond_54 : decode cX1_waitASecond 54 = .ok (.aload_n 0, 1) := by decide +kernel
theorem dX1_waitASecond_55 : decode cX1_waitASecond 55 = .ok (.iconst 1, 1) := by decide +kernel
theorem dX1_waitASecond_56 : decode cX1_waitASecond 56 = .ok (.putfield 35, 3) := by decide +kernel
theorem dX1_waitASecond_59 : decode cX1_waitASecond 59 = .ok (.return_, 1) := by decide +kernel
theorem dX1_countASecond_0 : decode cX1_countASecond 0 = .ok (.aload_n 0, 1) := by decide +kernel
theorem dX1_countASecond_1 : decode cX1_countASecond 1 = .ok (.getfield 28, 3) := by decide +kernel
theorem dX1_countASecond_4 : decode cX1_countASecond 4 = .ok (.iconst 0, 1) := by decide +kernel
theorem dX1_countASecond_5 : decode cX1_countASecond 5 = .ok (.putfield 108, 3) := by decide +kernel
theorem dX1_countASecond_8 : decode cX1_countASecond 8 = .ok (.aload_n 0, 1) := by decide +kernel
theorem dX1_countASecond_9 : decode cX1_countASecond 9 = .ok (.getfield 28, 3) := by decide +kernel
theorem dX1_countASecond_12 : decode cX1_countASecond 12 = .ok (.dup, 1) := by decide +kernel
theorem dX1_countASecond_13 : decode cX1_countASecond 13 = .ok (.getfield 111, 3) := by decide +kernel
theorem dX1_countASecond_16 : decode cX1_countASecond 16 = .ok (.iconst 1, 1) := by decide +kernel
theorem dX1_countASecond_17 : decode cX1_countASecond 17 = .ok (.iadd, 1) := by decide +kernel
theorem dX1_countASecond_18 : decode cX1_countASecond 18 = .ok (.putfield 111, 3) := by decide +kernel
theorem dX1_countASecond_21 : decode cX1_countASecond 21 = .ok (.aload_n 0, 1) := by decide +kernel
theorem dX1_countASecond_22 : decode cX1_countASecond 22 = .ok (.getfield 28, 3) := by decide +kernel
theorem dX1_countASecond_25 : decode cX1_countASecond 25 = .ok (.getfield 111, 3) := by decide +kernel
theorem dX1_countASecond_28 : decode cX1_countASecond 28 = .ok (.aload_n 0, 1) := by decide +kernel
theorem dX1_countASecond_29 : decode cX1_countASecond 29 = .ok (.getfield 28, 3) := by decide +kernel
theorem dX1_countASecond_32 : decode cX1_countASecond 32 = .ok (.getfield 72, 3) := by decide +kernel
theorem dX1_countASecond_35 : decode cX1_countASecond 35 = .ok (.getfield 114, 3) := by decide +kernel
theorem dX1_countASecond_38 : decode cX1_countASecond 38 = .ok (.if_icmp .ge 4, 3) := by decide +kernel
theorem dX1_countASecond_41 : decode cX1_countASecond 41 = .ok (.return_, 1) := by decide +kernel
theorem dX1_countASecond_42 : decode cX1_countASecond 42 = .ok (.aload_n 0, 1) := by decide +kernel
theorem dX1_countASecond_43 : decode cX1_countASecond 43 = .ok (.getfield 9, 3) := by decide +kernel
theorem dX1_countASecond_46 : decode cX1_countASecond 46 = .ok (.aload_n 0, 1) := by decide +kernel
theorem dX1_countASecond_47 : decode cX1_countASecond 47 = .ok (.getfield 32, 3) := by decide +kernel
theorem dX1_countASecond_50 : decode cX1_countASecond 50 = .ok (.invokevirtual 117, 3) := by decide +kernel
theorem dX1_countASecond_53 : decode cX1_countASecond 53 = .ok (.astore_n 1, 1) := by decide +kernel
theorem dX1_countASecond_54 : decode cX1_countASecond 54 = .ok (.aload_n 1, 1) := by decide +kernel
theorem dX1_countASecond_55 : decode cX1_countASecond 55 = .ok (.ifnonnull 11, 3) := by decide +kernel
theorem dX1_countASecond_58 : decode cX1_countASecond 58 = .ok (.aload_n 0, 1) := by decide +kernel
theorem dX1_countASecond_59 : decode cX1_countASecond 59 = .ok (.iconst 3, 1) := by decide +kernel
theorem dX1_countASecond_60 : decode cX1_countASecond 60 = .ok (.invokevirtual 123, 3) := by decide +kernel
theorem dX1_countASecond_63 : decode cX1_countASecond 63 = .ok (.goto 19, 3) := by decide +kernel
theorem dX1_countASecond_66 : decode cX1_countASecond 66 = .ok (.aload_n 0, 1) := by decide +kernel
theorem dX1_countASecond_67 : decode cX1_countASecond 67 = .ok (.getfield 28, 3) := by decide +kernel
theorem dX1_countASecond_70 : decode cX1_countASecond 70 = .ok (.aload_n 0, 1) := by decide +kernel
theorem dX1_countASecond_71 : decode cX1_countASecond 71 = .ok (.getfield 38, 3) := by decide +kernel
theorem dX1_countASecond_74 : decode cX1_countASecond 74 = .ok (.putfield 127, 3) := by decide +kernel
theorem dX1_countASecond_77 : decode cX1_countASecond 77 = .ok (.aload_n 0, 1) := by decide +kernel
theorem dX1_countASecond_78 : decode cX1_countASecond 78 = .ok (.aload_n 1, 1) := by decide +kernel
theorem dX1_countASecond_79 : decode cX1_countASecond 79 = .ok (.invokevirtual 130, 3) := by decide +kernel
theorem dX1_countASecond_82 : decode cX1_countASecond 82 = .ok (.return_, 1) := by decide +kernel
theorem dX1_begin_0 : decode cX1_begin 0 = .ok (.aload_n 0, 1) := by decide +kernel
theorem dX1_begin_1 : decode cX1_begin 1 = .ok (.getfield 32, 3) := by decide +kernel
theorem dX1_begin_4 : decode cX1_begin 4 = .ok (.ifCond .lt 15, 3) := by decide +kernel
theorem dX1_begin_7 : decode cX1_begin 7 = .ok (.aload_n 0, 1) := by decide +kernel
theorem dX1_begin_8 : decode cX1_begin 8 = .ok (.getfield 32, 3) := by decide +kernel
theorem dX1_begin_11 : decode cX1_begin 11 = .ok (.aload_n 0, 1) := by decide +kernel
theorem dX1_begin_12 : decode cX1_begin 12 = .ok (.getfield 21, 3) := by decide +kernel
theorem dX1_begin_15 : decode cX1_begin 15 = .ok (.arraylength, 1) := by decide +kernel
theorem dX1_begin_16 : decode cX1_begin 16 = .ok (.if_icmp .lt 4, 3) := by decide +kernel
theorem dX1_begin_19 : decode cX1_begin 19 = .ok (.return_, 1) := by decide +kernel
theorem dX1_begin_20 : decode cX1_begin 20 = .ok (.aload_n 0, 1) := by decide +kernel
theorem dX1_begin_21 : decode cX1_begin 21 = .ok (.new 19, 3) := by decide +kernel
theorem dX1_begin_24 : decode cX1_begin 24 = .ok (.dup, 1) := by decide +kernel
theorem dX1_begin_25 : decode cX1_begin 25 = .ok (.aload_n 1, 1) := by decide +kernel
theorem dX1_begin_26 : decode cX1_begin 26 = .ok (.aload_n 0, 1) := by decide +kernel
theorem dX1_begin_27 : decode cX1_begin 27 = .ok (.getfield 38, 3) := by decide +kernel
theorem dX1_begin_30 : decode cX1_begin 30 = .ok (.invokespecial 25, 3) := by decide +kernel
theorem dX1_begin_33 : decode cX1_begin 33 = .ok (.putfield 28, 3) := by decide +kernel
theorem dX1_begin_36 : decode cX1_begin 36 = .ok (.aload_n 0, 1) := by decide +kernel
theorem dX1_begin_37 : decode cX1_begin 37 = .ok (.getfield 21, 3) := by decide +kernel
theorem dX1_begin_40 : decode cX1_begin 40 = .ok (.aload_n 0, 1) := by decide +kernel
theorem dX1_begin_41 : decode cX1_begin 41 = .ok (.getfield 32, 3) := by decide +kernel
theorem dX1_begin_44 : decode cX1_begin 44 = .ok (.aload_n 0, 1) := by decide +kernel
theorem dX1_begin_45 : decode cX1_begin 45 = .ok (.getfield 28, 3) := by decide +kernel
theorem dX1_begin_48 : decode cX1_begin 48 = .ok (.aastore, 1) := by decide +kernel
theorem dX1_begin_49 : decode cX1_begin 49 = .ok (.aload_n 0, 1) := by decide +kernel
theorem dX1_begin_50 : decode cX1_begin 50 = .ok (.dup, 1) := by decide +kernel
theorem dX1_begin_51 : decode cX1_begin 51 = .ok (.getfield 32, 3) := by decide +kernel
theorem dX1_begin_54 : decode cX1_begin 54 = .ok (.iconst 1, 1) := by decide +kernel
theorem dX1_begin_55 : decode cX1_begin 55 = .ok (.iadd, 1) := by decide +kernel
theorem dX1_begin_56 : decode cX1_begin 56 = .ok (.putfield 32, 3) := by decide +kernel
theorem dX1_begin_59 : decode cX1_begin 59 = .ok (.aload_n 0, 1) := by decide +kernel
theorem dX1_begin_60 : decode cX1_begin 60 = .ok (.aload_n 0, 1) := by decide +kernel
theorem dX1_begin_61 : decode cX1_begin 61 = .ok (.getfield 44, 3) := by decide +kernel
theorem dX1_begin_64 : decode cX1_begin 64 = .ok (.ifCond .eq 7, 3) := by decide +kernel
theorem dX1_begin_67 : decode cX1_begin 67 = .ok (.iconst 0, 1) := by decide +kernel
theorem dX1_begin_68 : decode cX1_begin 68 = .ok (.goto 4, 3) := by decide +kernel
theorem dX1_begin_71 : decode cX1_begin 71 = .ok (.iconst 1, 1) := by decide +kernel
theorem dX1_begin_72 : decode cX1_begin 72 = .ok (.putfield 35, 3) := by decide +kernel
theorem dX1_begin_75 : decode cX1_begin 75 = .ok (.return_, 1) := by decide +kernel
theorem dX1_missASecond_0 : decode cX1_missASecond 0 = .ok (.aload_n 0, 1) := by decide +kernel
theorem dX1_missASecond_1 : decode cX1_missASecond 1 = .ok (.getfield 28, 3) := by decide +kernel
theorem dX1_missASecond_4 : decode cX1_missASecond 4 = .ok (.dup, 1) := by decide +kernel
theorem dX1_missASecond_5 : decode cX1_missASecond 5 = .ok (.getfield 108, 3) := by decide +kernel
theorem dX1_missASecond_8 : decode cX1_missASecond 8 = .ok (.iconst 1, 1) := by decide +kernel
theorem dX1_missASecond_9 : decode cX1_missASecond 9 = .ok (.iadd, 1) := by decide +kernel
theorem dX1_missASecond_10 : decode cX1_missASecond 10 = .ok (.putfield 108, 3) := by decide +kernel
theorem dX1_missASecond_13 : decode cX1_missASecond 13 = .ok (.aload_n 0, 1) := by decide +kernel
theorem dX1_missASecond_14 : decode cX1_missASecond 14 = .ok (.getfield 28, 3) := by decide +kernel
theorem dX1_missASecond_17 : decode cX1_missASecond 17 = .ok (.getfield 108, 3) := by decide +kernel
theorem dX1_missASecond_20 : decode cX1_missASecond 20 = .ok (.bipush 30, 2) := by decide +kernel
theorem dX1_missASecond_22 : decode cX1_missASecond 22 = .ok (.if_icmp .ge 4, 3) := by decide +kernel
theorem dX1_missASecond_25 : decode cX1_missASecond 25 = .ok (.return_, 1) := by decide +kernel
theorem dX1_missASecond_26 : decode cX1_missASecond 26 = .ok (.aload_n 0, 1) := by decide +kernel
theorem dX1_missASecond_27 : decode cX1_missASecond 27 = .ok (.dup, 1) := by decide +kernel
theorem dX1_missASecond_28 : decode cX1_missASecond 28 = .ok (.getfield 41, 3) := by decide +kernel
theorem dX1_missASecond_31 : decode cX1_missASecond 31 = .ok (.iconst 1, 1) := by decide +kernel
theorem dX1_missASecond_32 : decode cX1_missASecond 32 = .ok (.iadd, 1) := by decide +kernel
theorem dX1_missASecond_33 : decode cX1_missASecond 33 = .ok (.putfield 41, 3) := by decide +kernel
theorem dX1_missASecond_36 : decode cX1_missASecond 36 = .ok (.aload_n 0, 1) := by decide +kernel
theorem dX1_missASecond_37 : decode cX1_missASecond 37 = .ok (.getfield 28, 3) := by decide +kernel
theorem dX1_missASecond_40 : decode cX1_missASecond 40 = .ok (.dup, 1) := by decide +kernel
theorem dX1_missASecond_41 : decode cX1_missASecond 41 = .ok (.getfield 134, 3) := by decide +kernel
theorem dX1_missASecond_44 : decode cX1_missASecond 44 = .ok (.iconst 1, 1) := by decide +kernel
theorem dX1_missASecond_45 : decode cX1_missASecond 45 = .ok (.iadd, 1) := by decide +kernel
theorem dX1_missASecond_46 : decode cX1_missASecond 46 = .ok (.putfield 134, 3) := by decide +kernel
theorem dX1_missASecond_49 : decode cX1_missASecond 49 = .ok (.aload_n 0, 1) := by decide +kernel
theorem dX1_missASecond_50 : decode cX1_missASecond 50 = .ok (.getfield 28, 3) := by decide +kernel
theorem dX1_missASecond_53 : decode cX1_missASecond 53 = .ok (.iconst 0, 1) := by decide +kernel
theorem dX1_missASecond_54 : decode cX1_missASecond 54 = .ok (.putfield 111, 3) := by decide +kernel
theorem dX1_missASecond_57 : decode cX1_missASecond 57 = .ok (.aload_n 0, 1) := by decide +kernel
theorem dX1_missASecond_58 : decode cX1_missASecond 58 = .ok (.getfield 28, 3) := by decide +kernel
theorem dX1_missASecond_61 : decode cX1_missASecond 61 = .ok (.iconst 0, 1) := by decide +kernel
theorem dX1_missASecond_62 : decode cX1_missASecond 62 = .ok (.putfield 108, 3) := by decide +kernel
theorem dX1_missASecond_65 : decode cX1_missASecond 65 = .ok (.aload_n 0, 1) := by decide +kernel
theorem dX1_missASecond_66 : decode cX1_missASecond 66 = .ok (.getfield 28, 3) := by decide +kernel
theorem dX1_missASecond_69 : decode cX1_missASecond 69 = .ok (.getfield 134, 3) := by decide +kernel
theorem dX1_missASecond_72 : decode cX1_missASecond 72 = .ok (.iconst 3, 1) := by decide +kernel
theorem dX1_missASecond_73 : decode cX1_missASecond 73 = .ok (.if_icmp .lt 8, 3) := by decide +kernel
theorem dX1_missASecond_76 : decode cX1_missASecond 76 = .ok (.aload_n 0, 1) := by decide +kernel
theorem dX1_missASecond_77 : decode cX1_missASecond 77 = .ok (.iconst 2, 1) := by decide +kernel
theorem dX1_missASecond_78 : decode cX1_missASecond 78 = .ok (.invokevirtual 123, 3) := by decide +kernel
theorem dX1_missASecond_81 : decode cX1_missASecond 81 = .ok (.return_, 1) := by decide +kernel
theorem dX1_end_0 : decode cX1_end 0 = .ok (.aload_n 0, 1) := by decide +kernel
theorem dX1_end_1 : decode cX1_end 1 = .ok (.getfield 28, 3) := by decide +kernel
theorem dX1_end_4 : decode cX1_end 4 = .ok (.aload_n 0, 1) := by decide +kernel
theorem dX1_end_5 : decode cX1_end 5 = .ok (.getfield 38, 3) := by decide +kernel
theorem dX1_end_8 : decode cX1_end 8 = .ok (.putfield 127, 3) := by decide +kernel
theorem dX1_end_11 : decode cX1_end 11 = .ok (.aload_n 0, 1) := by decide +kernel
theorem dX1_end_12 : decode cX1_end 12 = .ok (.iload_n 1, 1) := by decide +kernel
theorem dX1_end_13 : decode cX1_end 13 = .ok (.putfield 35, 3) := by decide +kernel
theorem dX1_end_16 : decode cX1_end 16 = .ok (.return_, 1) := by decide +kernel
theorem dX2_init_0 : decode cX2_init 0 = .ok (.aload_n 0, 1) := by decide +kernel
theorem dX2_init_1 : decode cX2_init 1 = .ok (.invokespecial 3, 3) := by decide +kernel
theorem dX2_init_4 : decode cX2_init 4 = .ok (.aload_n 0, 1) := by decide +kernel
theorem dX2_init_5 : decode cX2_init 5 = .ok (.aload_n 1, 1) := by decide +kernel
theorem dX2_init_6 : decode cX2_init 6 = .ok (.putfield 9, 3) := by decide +kernel
theorem dX2_init_9 : decode cX2_init 9 = .ok (.aload_n 0, 1) := by decide +kernel
theorem dX2_init_10 : decode cX2_init 10 = .ok (.iload_n 2, 1) := by decide +kernel
theorem dX2_init_11 : decode cX2_init 11 = .ok (.putfield 15, 3) := by decide +kernel
theorem dX2_init_14 : decode cX2_init 14 = .ok (.aload_n 0, 1) := by decide +kernel
theorem dX2_init_15 : decode cX2_init 15 = .ok (.iconst (-1), 1) := by decide +kernel
theorem dX2_init_16 : decode cX2_init 16 = .ok (.putfield 19, 3) := by decide +kernel
theorem dX2_init_19 : decode cX2_init 19 = .ok (.aload_n 0, 1) := by decide +kernel
theorem dX2_init_20 : decode cX2_init 20 = .ok (.iconst 0, 1) := by decide +kernel
theorem dX2_init_21 : decode cX2_init 21 = .ok (.putfield 22, 3) := by decide +kernel
theorem dX2_init_24 : decode cX2_init 24 = .ok (.aload_n 0, 1) := by decide +kernel
theorem dX2_init_25 : decode cX2_init 25 = .ok (.iconst 0, 1) := by decide +kernel
theorem dX2_init_26 : decode cX2_init 26 = .ok (.putfield 25, 3) := by decide +kernel
theorem dX2_init_29 : decode cX2_init 29 = .ok (.aload_n 0, 1) := by decide +kernel
theorem dX2_init_30 : decode cX2_init 30 = .ok (.iconst 0, 1) := by decide +kernel
theorem dX2_init_31 : decode cX2_init 31 = .ok (.putfield 28, 3) := by decide +kernel
theorem dX2_init_34 : decode cX2_init 34 = .ok (.aload_n 0, 1) := by decide +kernel
theorem dX2_init_35 : decode cX2_init 35 = .ok (.iconst 0, 1) := by decide +kernel
theorem dX2_init_36 : decode cX2_init 36 = .ok (.putfield 31, 3) := by decide +kernel
theorem dX2_init_39 : decode cX2_init 39 = .ok (.return_, 1) := by decide +kernel
theorem dX2_told_0 : decode cX2_told 0 = .ok (.iload_n 1, 1) := by decide +kernel
theorem dX2_told_1 : decode cX2_told 1 = .ok (.tableswitch 54 0 3 #[31, 39, 44, 49], 31) := by decide +kernel
theorem dX2_told_32 : decode cX2_told 32 = .ok (.aload_n 0, 1) := by decide +kernel
theorem dX2_told_33 : decode cX2_told 33 = .ok (.getfield 9, 3) := by decide +kernel
theorem dX2_told_36 : decode cX2_told 36 = .ok (.getfield 34, 3) := by decide +kernel
theorem dX2_told_39 : decode cX2_told 39 = .ok (.ireturn, 1) := by decide +kernel
theorem dX2_told_40 : decode cX2_told 40 = .ok (.aload_n 0, 1) := by decide +kernel
theorem dX2_told_41 : decode cX2_told 41 = .ok (.getfield 31, 3) := by decide +kernel
theorem dX2_told_44 : decode cX2_told 44 = .ok (.ireturn, 1) := by decide +kernel
theorem dX2_told_45 : decode cX2_told 45 = .ok (.aload_n 0, 1) := by decide +kernel
theorem dX2_told_46 : decode cX2_told 46 = .ok (.getfield 15, 3) := by decide +kernel
theorem dX2_told_49 : decode cX2_told 49 = .ok (.ireturn, 1) := by decide +kernel
theorem dX2_told_50 : decode cX2_told 50 = .ok (.aload_n 0, 1) := by decide +kernel
theorem dX2_told_51 : decode cX2_told 51 = .ok (.getfield 19, 3) := by decide +kernel
theorem dX2_told_54 : decode cX2_told 54 = .ok (.ireturn, 1) := by decide +kernel
theorem dX2_told_55 : decode cX2_told 55 = .ok (.iconst (-1), 1) := by decide +kernel
theorem dX2_told_56 : decode cX2_told 56 = .ok (.ireturn, 1) := by decide +kernel
theorem dX3_init_0 : decode cX3_init 0 = .ok (.aload_n 0, 1) := by decide +kernel
theorem dX3_init_1 : decode cX3_init 1 = .ok (.invokespecial 3, 3) := by decide +kernel
theorem dX3_init_4 : decode cX3_init 4 = .ok (.aload_n 0, 1) := by decide +kernel
theorem dX3_init_5 : decode cX3_init 5 = .ok (.iload_n 1, 1) := by decide +kernel
theorem dX3_init_6 : decode cX3_init 6 = .ok (.putfield 9, 3) := by decide +kernel
theorem dX3_init_9 : decode cX3_init 9 = .ok (.aload_n 0, 1) := by decide +kernel
theorem dX3_init_10 : decode cX3_init 10 = .ok (.iload_n 2, 1) := by decide +kernel
theorem dX3_init_11 : decode cX3_init 11 = .ok (.putfield 15, 3) := by decide +kernel
theorem dX3_init_14 : decode cX3_init 14 = .ok (.aload_n 0, 1) := by decide +kernel
theorem dX3_init_15 : decode cX3_init 15 = .ok (.dload_n 3, 1) := by decide +kernel
theorem dX3_init_16 : decode cX3_init 16 = .ok (.putfield 18, 3) := by decide +kernel
theorem dX3_init_19 : decode cX3_init 19 = .ok (.aload_n 0, 1) := by decide +kernel
theorem dX3_init_20 : decode cX3_init 20 = .ok (.dload 5, 2) := by decide +kernel
theorem dX3_init_22 : decode cX3_init 22 = .ok (.putfield 22, 3) := by decide +kernel
theorem dX3_init_25 : decode cX3_init 25 = .ok (.return_, 1) := by decide +kernel
theorem dX3_usesWater_0 : decode cX3_usesWater 0 = .ok (.aload_n 0, 1) := by decide +kernel
theorem dX3_usesWater_1 : decode cX3_usesWater 1 = .ok (.getfield 9, 3) := by decide +kernel
theorem dX3_usesWater_4 : decode cX3_usesWater 4 = .ok (.ifCond .eq 11, 3) := by decide +kernel
theorem dX3_usesWater_7 : decode cX3_usesWater 7 = .ok (.aload_n 0, 1) := by decide +kernel
theorem dX3_usesWater_8 : decode cX3_usesWater 8 = .ok (.getfield 9, 3) := by decide +kernel
theorem dX3_usesWater_11 : decode cX3_usesWater 11 = .ok (.iconst 4, 1) := by decide +kernel
theorem dX3_usesWater_12 : decode cX3_usesWater 12 = .ok (.if_icmp .ne 7, 3) := by decide +kernel
theorem dX3_usesWater_15 : decode cX3_usesWater 15 = .ok (.iconst 1, 1) := by decide +kernel
theorem dX3_usesWater_16 : decode cX3_usesWater 16 = .ok (.goto 4, 3) := by decide +kernel
theorem dX3_usesWater_19 : decode cX3_usesWater 19 = .ok (.iconst 0, 1) := by decide +kernel
theorem dX3_usesWater_20 : decode cX3_usesWater 20 = .ok (.ireturn, 1) := by decide +kernel
theorem dX3_holds_0 : decode cX3_holds 0 = .ok (.aload_n 0, 1) := by decide +kernel
theorem dX3_holds_1 : decode cX3_holds 1 = .ok (.getfield 9, 3) := by decide +kernel
theorem dX3_holds_4 : decode cX3_holds 4 = .ok (.tableswitch 109 0 3 #[32, 54, 54, 85], 32) := by decide +kernel
theorem dX3_holds_36 : decode cX3_holds 36 = .ok (.dload 5, 2) := by decide +kernel
theorem dX3_holds_38 : decode cX3_holds 38 = .ok (.dconst 1, 1) := by decide +kernel
theorem dX3_holds_39 : decode cX3_holds 39 = .ok (.dcmp .l, 1) := by decide +kernel
theorem dX3_holds_40 : decode cX3_holds 40 = .ok (.ifCond .lt 16, 3) := by decide +kernel
theorem dX3_holds_43 : decode cX3_holds 43 = .ok (.dload_n 1, 1) := by decide +kernel
theorem dX3_holds_44 : decode cX3_holds 44 = .ok (.aload_n 0, 1) := by decide +kernel
theorem dX3_holds_45 : decode cX3_holds 45 = .ok (.getfield 18, 3) := by decide +kernel
theorem dX3_holds_48 : decode cX3_holds 48 = .ok (.dcmp .g, 1) := by decide +kernel
theorem dX3_holds_49 : decode cX3_holds 49 = .ok (.ifCond .gt 7, 3) := by decide +kernel
theorem dX3_holds_52 : decode cX3_holds 52 = .ok (.iconst 1, 1) := by decide +kernel
theorem dX3_holds_53 : decode cX3_holds 53 = .ok (.goto 4, 3) := by decide +kernel
theorem dX3_holds_56 : decode cX3_holds 56 = .ok (.iconst 0, 1) := by decide +kernel
theorem dX3_holds_57 : decode cX3_holds 57 = .ok (.ireturn, 1) := by decide +kernel
theorem dX3_holds_58 : decode cX3_holds 58 = .ok (.dload 5, 2) := by decide +kernel
theorem dX3_holds_60 : decode cX3_holds 60 = .ok (.dconst 1, 1) := by decide +kernel
theorem dX3_holds_61 : decode cX3_holds 61 = .ok (.dcmp .l, 1) := by decide +kernel
theorem dX3_holds_62 : decode cX3_holds 62 = .ok (.ifCond .lt 25, 3) := by decide +kernel
theorem dX3_holds_65 : decode cX3_holds 65 = .ok (.dload_n 1, 1) := by decide +kernel
theorem dX3_holds_66 : decode cX3_holds 66 = .ok (.aload_n 0, 1) := by decide +kernel
theorem dX3_holds_67 : decode cX3_holds 67 = .ok (.getfield 18, 3) := by decide +kernel
theorem dX3_holds_70 : decode cX3_holds 70 = .ok (.dcmp .l, 1) := by decide +kernel
theorem dX3_holds_71 : decode cX3_holds 71 = .ok (.ifCond .lt 16, 3) := by decide +kernel
theorem dX3_holds_74 : decode cX3_holds 74 = .ok (.dload_n 3, 1) := by decide +kernel
theorem dX3_holds_75 : decode cX3_holds 75 = .ok (.aload_n 0, 1) := by decide +kernel
theorem dX3_holds_76 : decode cX3_holds 76 = .ok (.getfield 22, 3) := by decide +kernel
theorem dX3_holds_79 : decode cX3_holds 79 = .ok (.dcmp .l, 1) := by decide +kernel
theorem dX3_holds_80 : decode cX3_holds 80 = .ok (.ifCond .lt 7, 3) := by decide +kernel
theorem dX3_holds_83 : decode cX3_holds 83 = .ok (.iconst 1, 1) := by decide +kernel
theorem dX3_holds_84 : decode cX3_holds 84 = .ok (.goto 4, 3) := by decide +kernel
theorem dX3_holds_87 : decode cX3_holds 87 = .ok (.iconst 0, 1) := by decide +kernel
theorem dX3_holds_88 : decode cX3_holds 88 = .ok (.ireturn, 1) := by decide +kernel
theorem dX3_holds_89 : decode cX3_holds 89 = .ok (.dload 5, 2) := by decide +kernel
theorem dX3_holds_91 : decode cX3_holds 91 = .ok (.ldc2_w 25, 3) := by decide +kernel
theorem dX3_holds_94 : decode cX3_holds 94 = .ok (.dcmp .l, 1) := by decide +kernel
theorem dX3_holds_95 : decode cX3_holds 95 = .ok (.ifCond .lt 16, 3) := by decide +kernel
theorem dX3_holds_98 : decode cX3_holds 98 = .ok (.dload_n 3, 1) := by decide +kernel
theorem dX3_holds_99 : decode cX3_holds 99 = .ok (.aload_n 0, 1) := by decide +kernel
theorem dX3_holds_100 : decode cX3_holds 100 = .ok (.getfield 22, 3) := by decide +kernel
theorem dX3_holds_103 : decode cX3_holds 103 = .ok (.dcmp .l, 1) := by decide +kernel
theorem dX3_holds_104 : decode cX3_holds 104 = .ok (.ifCond .lt 7, 3) := by decide +kernel
theorem dX3_holds_107 : decode cX3_holds 107 = .ok (.iconst 1, 1) := by decide +kernel
theorem dX3_holds_108 : decode cX3_holds 108 = .ok (.goto 4, 3) := by decide +kernel
theorem dX3_holds_111 : decode cX3_holds 111 = .ok (.iconst 0, 1) := by decide +kernel
theorem dX3_holds_112 : decode cX3_holds 112 = .ok (.ireturn, 1) := by decide +kernel
theorem dX3_holds_113 : decode cX3_holds 113 = .ok (.dload 5, 2) := by decide +kernel
theorem dX3_holds_115 : decode cX3_holds 115 = .ok (.ldc2_w 27, 3) := by decide +kernel
theorem dX3_holds_118 : decode cX3_holds 118 = .ok (.dcmp .g, 1) := by decide +kernel
theorem dX3_holds_119 : decode cX3_holds 119 = .ok (.ifCond .gt 7, 3) := by decide +kernel
theorem dX3_holds_122 : decode cX3_holds 122 = .ok (.iconst 1, 1) := by decide +kernel
theorem dX3_holds_123 : decode cX3_holds 123 = .ok (.goto 4, 3) := by decide +kernel
theorem dX3_holds_126 : decode cX3_holds 126 = .ok (.iconst 0, 1) := by decide +kernel
theorem dX3_holds_127 : decode cX3_holds 127 = .ok (.ireturn, 1) := by decide +kernel
theorem dX3_passesInterface_0 : decode cX3_passesInterface 0 = .ok (.aload_n 0, 1) := by decide +kernel
theorem dX3_passesInterface_1 : decode cX3_passesInterface 1 = .ok (.invokevirtual 29, 3) := by decide +kernel
theorem dX3_passesInterface_4 : decode cX3_passesInterface 4 = .ok (.ifCond .eq 17, 3) := by decide +kernel
theorem dX3_passesInterface_7 : decode cX3_passesInterface 7 = .ok (.dload_n 1, 1) := by decide +kernel
theorem dX3_passesInterface_8 : decode cX3_passesInterface 8 = .ok (.dload_n 3, 1) := by decide +kernel
theorem dX3_passesInterface_9 : decode cX3_passesInterface 9 = .ok (.dcmp .g, 1) := by decide +kernel
theorem dX3_passesInterface_10 : decode cX3_passesInterface 10 = .ok (.ifCond .gt 7, 3) := by decide +kernel
theorem dX3_passesInterface_13 : decode cX3_passesInterface 13 = .ok (.iconst 1, 1) := by decide +kernel
theorem dX3_passesInterface_14 : decode cX3_passesInterface 14 = .ok (.goto 18, 3) := by decide +kernel
theorem dX3_passesInterface_17 : decode cX3_passesInterface 17 = .ok (.iconst 0, 1) := by decide +kernel
theorem dX3_passesInterface_18 : decode cX3_passesInterface 18 = .ok (.goto 14, 3) := by decide +kernel
theorem dX3_passesInterface_21 : decode cX3_passesInterface 21 = .ok (.dload_n 1, 1) := by decide +kernel
theorem dX3_passesInterface_22 : decode cX3_passesInterface 22 = .ok (.dload_n 3, 1) := by decide +kernel
theorem dX3_passesInterface_23 : decode cX3_passesInterface 23 = .ok (.dcmp .l, 1) := by decide +kernel
theorem dX3_passesInterface_24 : decode cX3_passesInterface 24 = .ok (.ifCond .lt 7, 3) := by decide +kernel
theorem dX3_passesInterface_27 : decode cX3_passesInterface 27 = .ok (.iconst 1, 1) := by decide +kernel
theorem dX3_passesInterface_28 : decode cX3_passesInterface 28 = .ok (.goto 4, 3) := by decide +kernel
theorem dX3_passesInterface_31 : decode cX3_passesInterface 31 = .ok (.iconst 0, 1) := by decide +kernel
theorem dX3_passesInterface_32 : decode cX3_passesInterface 32 = .ok (.ireturn, 1) := by decide +kernel
theorem dX4_init_0 : decode cX4_init 0 = .ok (.aload_n 0, 1) := by decide +kernel
theorem dX4_init_1 : decode cX4_init 1 = .ok (.invokespecial 1, 3) := by decide +kernel
theorem dX4_init_4 : decode cX4_init 4 = .ok (.aload_n 0, 1) := by decide +kernel
theorem dX4_init_5 : decode cX4_init 5 = .ok (.bipush 10, 2) := by decide +kernel
theorem dX4_init_7 : decode cX4_init 7 = .ok (.anewarray 9, 3) := by decide +kernel
theorem dX4_init_10 : decode cX4_init 10 = .ok (.putfield 11, 3) := by decide +kernel
theorem dX4_init_13 : decode cX4_init 13 = .ok (.aload_n 0, 1) := by decide +kernel
theorem dX4_init_14 : decode cX4_init 14 = .ok (.bipush 30, 2) := by decide +kernel
theorem dX4_init_16 : decode cX4_init 16 = .ok (.anewarray 15, 3) := by decide +kernel
theorem dX4_init_19 : decode cX4_init 19 = .ok (.putfield 17, 3) := by decide +kernel
theorem dX4_init_22 : decode cX4_init 22 = .ok (.aload_n 0, 1) := by decide +kernel
theorem dX4_init_23 : decode cX4_init 23 = .ok (.iconst 0, 1) := by decide +kernel
theorem dX4_init_24 : decode cX4_init 24 = .ok (.putfield 21, 3) := by decide +kernel
theorem dX4_init_27 : decode cX4_init 27 = .ok (.aload_n 0, 1) := by decide +kernel
theorem dX4_init_28 : decode cX4_init 28 = .ok (.iconst 0, 1) := by decide +kernel
theorem dX4_init_29 : decode cX4_init 29 = .ok (.putfield 25, 3) := by decide +kernel
theorem dX4_init_32 : decode cX4_init 32 = .ok (.return_, 1) := by decide +kernel
theorem dX4_recipe_0 : decode cX4_recipe 0 = .ok (.aload_n 0, 1) := by decide +kernel
theorem dX4_recipe_1 : decode cX4_recipe 1 = .ok (.getfield 21, 3) := by decide +kernel
theorem dX4_recipe_4 : decode cX4_recipe 4 = .ok (.ifCond .lt 15, 3) := by decide +kernel
theorem dX4_recipe_7 : decode cX4_recipe 7 = .ok (.aload_n 0, 1) := by decide +kernel
theorem dX4_recipe_8 : decode cX4_recipe 8 = .ok (.getfield 21, 3) := by decide +kernel
theorem dX4_recipe_11 : decode cX4_recipe 11 = .ok (.aload_n 0, 1) := by decide +kernel
theorem dX4_recipe_12 : decode cX4_recipe 12 = .ok (.getfield 11, 3) := by decide +kernel
theorem dX4_recipe_15 : decode cX4_recipe 15 = .ok (.arraylength, 1) := by decide +kernel
theorem dX4_recipe_16 : decode cX4_recipe 16 = .ok (.if_icmp .lt 6, 3) := by decide +kernel
theorem dX4_recipe_19 : decode cX4_recipe 19 = .ok (.bipush (-2), 2) := by decide +kernel
theorem dX4_recipe_21 : decode cX4_recipe 21 = .ok (.ireturn, 1) := by decide +kernel
theorem dX4_recipe_22 : decode cX4_recipe 22 = .ok (.aload_n 0, 1) := by decide +kernel
theorem dX4_recipe_23 : decode cX4_recipe 23 = .ok (.getfield 21, 3) := by decide +kernel
theorem dX4_recipe_26 : decode cX4_recipe 26 = .ok (.istore_n 1, 1) := by decide +kernel
theorem dX4_recipe_27 : decode cX4_recipe 27 = .ok (.aload_n 0, 1) := by decide +kernel
theorem dX4_recipe_28 : decode cX4_recipe 28 = .ok (.getfield 11, 3) := by decide +kernel
theorem dX4_recipe_31 : decode cX4_recipe 31 = .ok (.iload_n 1, 1) := by decide +kernel
theorem dX4_recipe_32 : decode cX4_recipe 32 = .ok (.new 9, 3) := by decide +kernel
theorem dX4_recipe_35 : decode cX4_recipe 35 = .ok (.dup, 1) := by decide +kernel
theorem dX4_recipe_36 : decode cX4_recipe 36 = .ok (.invokespecial 28, 3) := by decide +kernel
theorem dX4_recipe_39 : decode cX4_recipe 39 = .ok (.aastore, 1) := by decide +kernel
theorem dX4_recipe_40 : decode cX4_recipe 40 = .ok (.aload_n 0, 1) := by decide +kernel
theorem dX4_recipe_41 : decode cX4_recipe 41 = .ok (.iload_n 1, 1) := by decide +kernel
theorem dX4_recipe_42 : decode cX4_recipe 42 = .ok (.iconst 1, 1) := by decide +kernel
theorem dX4_recipe_43 : decode cX4_recipe 43 = .ok (.iadd, 1) := by decide +kernel
theorem dX4_recipe_44 : decode cX4_recipe 44 = .ok (.putfield 21, 3) := by decide +kernel
theorem dX4_recipe_47 : decode cX4_recipe 47 = .ok (.iload_n 1, 1) := by decide +kernel
theorem dX4_recipe_48 : decode cX4_recipe 48 = .ok (.ireturn, 1) := by decide +kernel
theorem dX4_step_0 : decode cX4_step 0 = .ok (.aload_n 0, 1) := by decide +kernel
theorem dX4_step_1 : decode cX4_step 1 = .ok (.iload_n 1, 1) := by decide +kernel
theorem dX4_step_2 : decode cX4_step 2 = .ok (.invokevirtual 29, 3) := by decide +kernel
theorem dX4_step_5 : decode cX4_step 5 = .ok (.astore 8, 2) := by decide +kernel
theorem dX4_step_7 : decode cX4_step 7 = .ok (.aload 8, 2) := by decide +kernel
theorem dX4_step_9 : decode cX4_step 9 = .ok (.ifnull 11, 3) := by decide +kernel
theorem dX4_step_12 : decode cX4_step 12 = .ok (.aload 8, 2) := by decide +kernel
theorem dX4_step_14 : decode cX4_step 14 = .ok (.invokevirtual 33, 3) := by decide +kernel
theorem dX4_step_17 : decode cX4_step 17 = .ok (.ifCond .ne 5, 3) := by decide +kernel
theorem dX4_step_20 : decode cX4_step 20 = .ok (.iconst 0, 1) := by decide +kernel
theorem dX4_step_21 : decode cX4_step 21 = .ok (.ireturn, 1) := by decide +kernel
theorem dX4_step_22 : decode cX4_step 22 = .ok (.iload_n 2, 1) := by decide +kernel
theorem dX4_step_23 : decode cX4_step 23 = .ok (.ifCond .lt 20, 3) := by decide +kernel
theorem dX4_step_26 : decode cX4_step 26 = .ok (.iload_n 2, 1) := by decide +kernel
theorem dX4_step_27 : decode cX4_step 27 = .ok (.iconst 4, 1) := by decide +kernel
theorem dX4_step_28 : decode cX4_step 28 = .ok (.if_icmp .gt 15, 3) := by decide +kernel
theorem dX4_step_31 : decode cX4_step 31 = .ok (.iload_n 3, 1) := by decide +kernel
theorem dX4_step_32 : decode cX4_step 32 = .ok (.iconst 1, 1) := by decide +kernel
theorem dX4_step_33 : decode cX4_step 33 = .ok (.if_icmp .lt 10, 3) := by decide +kernel
theorem dX4_step_36 : decode cX4_step 36 = .ok (.iload_n 3, 1) := by decide +kernel
theorem dX4_step_37 : decode cX4_step 37 = .ok (.sipush 3600, 3) := by decide +kernel
theorem dX4_step_40 : decode cX4_step 40 = .ok (.if_icmp .le 5, 3) := by decide +kernel
theorem dX4_step_43 : decode cX4_step 43 = .ok (.iconst 0, 1) := by decide +kernel
theorem dX4_step_44 : decode cX4_step 44 = .ok (.ireturn, 1) := by decide +kernel
theorem dX4_step_45 : decode cX4_step 45 = .ok (.dload 4, 2) := by decide +kernel
theorem dX4_step_47 : decode cX4_step 47 = .ok (.dconst 0, 1) := by decide +kernel
theorem dX4_step_48 : decode cX4_step 48 = .ok (.ldc2_w 37, 3) := by decide +kernel
theorem dX4_step_51 : decode cX4_step 51 = .ok (.invokestatic 39, 3) := by decide +kernel
theorem dX4_step_54 : decode cX4_step 54 = .ok (.ifCond .eq 15, 3) := by decide +kernel
theorem dX4_step_57 : decode cX4_step 57 = .ok (.dload 6, 2) := by decide +kernel
theorem dX4_step_59 : decode cX4_step 59 = .ok (.dconst 0, 1) := by decide +kernel
theorem dX4_step_60 : decode cX4_step 60 = .ok (.ldc2_w 43, 3) := by decide +kernel
theorem dX4_step_63 : decode cX4_step 63 = .ok (.invokestatic 39, 3) := by decide +kernel
theorem dX4_step_66 : decode cX4_step 66 = .ok (.ifCond .ne 5, 3) := by decide +kernel
theorem dX4_step_69 : decode cX4_step 69 = .ok (.iconst 0, 1) := by decide +kernel
theorem dX4_step_70 : decode cX4_step 70 = .ok (.ireturn, 1) := by decide +kernel
theorem dX4_step_71 : decode cX4_step 71 = .ok (.aload 8, 2) := by decide +kernel
theorem dX4_step_73 : decode cX4_step 73 = .ok (.new 45, 3) := by decide +kernel
theorem dX4_step_76 : decode cX4_step 76 = .ok (.dup, 1) := by decide +kernel
theorem dX4_step_77 : decode cX4_step 77 = .ok (.iload_n 2, 1) := by decide +kernel
theorem dX4_step_78 : decode cX4_step 78 = .ok (.iload_n 3, 1) := by decide +kernel
theorem dX4_step_79 : decode cX4_step 79 = .ok (.dload 4, 2) := by decide +kernel
theorem dX4_step_81 : decode cX4_step 81 = .ok (.dload 6, 2) := by decide +kernel
theorem dX4_step_83 : decode cX4_step 83 = .ok (.invokespecial 47, 3) := by decide +kernel
theorem dX4_step_86 : decode cX4_step 86 = .ok (.invokevirtual 50, 3) := by decide +kernel
theorem dX4_step_89 : decode cX4_step 89 = .ok (.iconst 1, 1) := by decide +kernel
theorem dX4_step_90 : decode cX4_step 90 = .ok (.ireturn, 1) := by decide +kernel
theorem dX4_start_0 : decode cX4_start 0 = .ok (.aload_n 0, 1) := by decide +kernel
theorem dX4_start_1 : decode cX4_start 1 = .ok (.iload_n 1, 1) := by decide +kernel
theorem dX4_start_2 : decode cX4_start 2 = .ok (.invokevirtual 29, 3) := by decide +kernel
theorem dX4_start_5 : decode cX4_start 5 = .ok (.astore_n 3, 1) := by decide +kernel
theorem dX4_start_6 : decode cX4_start 6 = .ok (.aload_n 3, 1) := by decide +kernel
theorem dX4_start_7 : decode cX4_start 7 = .ok (.ifnull 14, 3) := by decide +kernel
theorem dX4_start_10 : decode cX4_start 10 = .ok (.iload_n 2, 1) := by decide +kernel
theorem dX4_start_11 : decode cX4_start 11 = .ok (.iconst 1, 1) := by decide +kernel
theorem dX4_start_12 : decode cX4_start 12 = .ok (.if_icmp .lt 9, 3) := by decide +kernel
theorem dX4_start_15 : decode cX4_start 15 = .ok (.iload_n 2, 1) := by decide +kernel
theorem dX4_start_16 : decode cX4_start 16 = .ok (.bipush 9, 2) := by decide +kernel
theorem dX4_start_18 : decode cX4_start 18 = .ok (.if_icmp .le 5, 3) := by decide +kernel
theorem dX4_start_21 : decode cX4_start 21 = .ok (.iconst (-1), 1) := by decide +kernel
theorem dX4_start_22 : decode cX4_start 22 = .ok (.ireturn, 1) := by decide +kernel
theorem dX4_start_23 : decode cX4_start 23 = .ok (.aload_n 3, 1) := by decide +kernel
theorem dX4_start_24 : decode cX4_start 24 = .ok (.iconst 0, 1) := by decide +kernel
theorem dX4_start_25 : decode cX4_start 25 = .ok (.invokevirtual 54, 3) := by decide +kernel
theorem dX4_start_28 : decode cX4_start 28 = .ok (.astore 4, 2) := by decide +kernel
theorem dX4_start_30 : decode cX4_start 30 = .ok (.aload 4, 2) := by decide +kernel
theorem dX4_start_32 : decode cX4_start 32 = .ok (.ifnonnull 5, 3) := by decide +kernel
theorem dX4_start_35 : decode cX4_start 35 = .ok (.iconst (-1), 1) := by decide +kernel
theorem dX4_start_36 : decode cX4_start 36 = .ok (.ireturn, 1) := by decide +kernel
theorem dX4_start_37 : decode cX4_start 37 = .ok (.aload_n 0, 1) := by decide +kernel
theorem dX4_start_38 : decode cX4_start 38 = .ok (.getfield 25, 3) := by decide +kernel
theorem dX4_start_41 : decode cX4_start 41 = .ok (.ifCond .lt 15, 3) := by decide +kernel
theorem dX4_start_44 : decode cX4_start 44 = .ok (.aload_n 0, 1) := by decide +kernel
theorem dX4_start_45 : decode cX4_start 45 = .ok (.getfield 25, 3) := by decide +kernel
theorem dX4_start_48 : decode cX4_start 48 = .ok (.aload_n 0, 1) := by decide +kernel
theorem dX4_start_49 : decode cX4_start 49 = .ok (.getfield 17, 3) := by decide +kernel
theorem dX4_start_52 : decode cX4_start 52 = .ok (.arraylength, 1) := by decide +kernel
theorem dX4_start_53 : decode cX4_start 53 = .ok (.if_icmp .lt 6, 3) := by decide +kernel
theorem dX4_start_56 : decode cX4_start 56 = .ok (.bipush (-2), 2) := by decide +kernel
theorem dX4_start_58 : decode cX4_start 58 = .ok (.ireturn, 1) := by decide +kernel
theorem dX4_start_59 : decode cX4_start 59 = .ok (.aload_n 0, 1) := by decide +kernel
theorem dX4_start_60 : decode cX4_start 60 = .ok (.getfield 25, 3) := by decide +kernel
theorem dX4_start_63 : decode cX4_start 63 = .ok (.istore 5, 2) := by decide +kernel
theorem dX4_start_65 : decode cX4_start 65 = .ok (.aload_n 0, 1) := by decide +kernel
theorem dX4_start_66 : decode cX4_start 66 = .ok (.getfield 17, 3) := by decide +kernel
theorem dX4_start_69 : decode cX4_start 69 = .ok (.iload 5, 2) := by decide +kernel
theorem dX4_start_71 : decode cX4_start 71 = .ok (.new 15, 3) := by decide +kernel
theorem dX4_start_74 : decode cX4_start 74 = .ok (.dup, 1) := by decide +kernel
theorem dX4_start_75 : decode cX4_start 75 = .ok (.aload_n 3, 1) := by decide +kernel
theorem dX4_start_76 : decode cX4_start 76 = .ok (.aload 4, 2) := by decide +kernel
theorem dX4_start_78 : decode cX4_start 78 = .ok (.iload_n 2, 1) := by decide +kernel
theorem dX4_start_79 : decode cX4_start 79 = .ok (.invokespecial 58, 3) := by decide +kernel
theorem dX4_start_82 : decode cX4_start 82 = .ok (.aastore, 1) := by decide +kernel
theorem dX4_start_83 : decode cX4_start 83 = .ok (.aload_n 0, 1) := by decide +kernel
theorem dX4_start_84 : decode cX4_start 84 = .ok (.iload 5, 2) := by decide +kernel
theorem dX4_start_86 : decode cX4_start 86 = .ok (.iconst 1, 1) := by decide +kernel
theorem dX4_start_87 : decode cX4_start 87 = .ok (.iadd, 1) := by decide +kernel
theorem dX4_start_88 : decode cX4_start 88 = .ok (.putfield 25, 3) := by decide +kernel
theorem dX4_start_91 : decode cX4_start 91 = .ok (.aload_n 3, 1) := by decide +kernel
theorem dX4_start_92 : decode cX4_start 92 = .ok (.iconst 1, 1) := by decide +kernel
theorem dX4_start_93 : decode cX4_start 93 = .ok (.putfield 61, 3) := by decide +kernel
theorem dX4_start_96 : decode cX4_start 96 = .ok (.iload 5, 2) := by decide +kernel
theorem dX4_start_98 : decode cX4_start 98 = .ok (.ireturn, 1) := by decide +kernel
theorem dX4_tick_0 : decode cX4_tick 0 = .ok (.aload_n 0, 1) := by decide +kernel
theorem dX4_tick_1 : decode cX4_tick 1 = .ok (.iload_n 1, 1) := by decide +kernel
theorem dX4_tick_2 : decode cX4_tick 2 = .ok (.invokevirtual 65, 3) := by decide +kernel
theorem dX4_tick_5 : decode cX4_tick 5 = .ok (.astore 8, 2) := by decide +kernel
theorem dX4_tick_7 : decode cX4_tick 7 = .ok (.aload 8, 2) := by decide +kernel
theorem dX4_tick_9 : decode cX4_tick 9 = .ok (.ifnonnull 5, 3) := by decide +kernel
theorem dX4_tick_12 : decode cX4_tick 12 = .ok (.iconst (-1), 1) := by decide +kernel
theorem dX4_tick_13 : decode cX4_tick 13 = .ok (.ireturn, 1) := by decide +kernel
theorem dX4_tick_14 : decode cX4_tick 14 = .ok (.dload_n 2, 1) := by decide +kernel
theorem dX4_tick_15 : decode cX4_tick 15 = .ok (.dconst 0, 1) := by decide +kernel
theorem dX4_tick_16 : decode cX4_tick 16 = .ok (.ldc2_w 69, 3) := by decide +kernel
theorem dX4_tick_19 : decode cX4_tick 19 = .ok (.invokestatic 39, 3) := by decide +kernel
theorem dX4_tick_22 : decode cX4_tick 22 = .ok (.ifCond .eq 29, 3) := by decide +kernel
theorem dX4_tick_25 : decode cX4_tick 25 = .ok (.dload 6, 2) := by decide +kernel
theorem dX4_tick_27 : decode cX4_tick 27 = .ok (.dconst 0, 1) := by decide +kernel
theorem dX4_tick_28 : decode cX4_tick 28 = .ok (.ldc2_w 69, 3) := by decide +kernel
theorem dX4_tick_31 : decode cX4_tick 31 = .ok (.invokestatic 39, 3) := by decide +kernel
theorem dX4_tick_34 : decode cX4_tick 34 = .ok (.ifCond .eq 17, 3) := by decide +kernel
theorem dX4_tick_37 : decode cX4_tick 37 = .ok (.dload 4, 2) := by decide +kernel
theorem dX4_tick_39 : decode cX4_tick 39 = .ok (.ldc2_w 71, 3) := by decide +kernel
theorem dX4_tick_42 : decode cX4_tick 42 = .ok (.ldc2_w 73, 3) := by decide +kernel
theorem dX4_tick_45 : decode cX4_tick 45 = .ok (.invokestatic 39, 3) := by decide +kernel
theorem dX4_tick_48 : decode cX4_tick 48 = .ok (.ifCond .ne 5, 3) := by decide +kernel
theorem dX4_tick_51 : decode cX4_tick 51 = .ok (.iconst (-1), 1) := by decide +kernel
theorem dX4_tick_52 : decode cX4_tick 52 = .ok (.ireturn, 1) := by decide +kernel
theorem dX4_tick_53 : decode cX4_tick 53 = .ok (.aload 8, 2) := by decide +kernel
theorem dX4_tick_55 : decode cX4_tick 55 = .ok (.dload_n 2, 1) := by decide +kernel
theorem dX4_tick_56 : decode cX4_tick 56 = .ok (.dload 4, 2) := by decide +kernel
theorem dX4_tick_58 : decode cX4_tick 58 = .ok (.dload 6, 2) := by decide +kernel
theorem dX4_tick_60 : decode cX4_tick 60 = .ok (.invokevirtual 75, 3) := by decide +kernel
theorem dX4_tick_63 : decode cX4_tick 63 = .ok (.aload 8, 2) := by decide +kernel
theorem dX4_tick_65 : decode cX4_tick 65 = .ok (.getfield 79, 3) := by decide +kernel
theorem dX4_tick_68 : decode cX4_tick 68 = .ok (.ireturn, 1) := by decide +kernel
theorem dX4_state_0 : decode cX4_state 0 = .ok (.aload_n 0, 1) := by decide +kernel
theorem dX4_state_1 : decode cX4_state 1 = .ok (.iload_n 1, 1) := by decide +kernel
theorem dX4_state_2 : decode cX4_state 2 = .ok (.invokevirtual 65, 3) := by decide +kernel
theorem dX4_state_5 : decode cX4_state 5 = .ok (.astore_n 2, 1) := by decide +kernel
theorem dX4_state_6 : decode cX4_state 6 = .ok (.aload_n 2, 1) := by decide +kernel
theorem dX4_state_7 : decode cX4_state 7 = .ok (.ifnonnull 7, 3) := by decide +kernel
theorem dX4_state_10 : decode cX4_state 10 = .ok (.iconst (-1), 1) := by decide +kernel
theorem dX4_state_11 : decode cX4_state 11 = .ok (.goto 7, 3) := by decide +kernel
theorem dX4_state_14 : decode cX4_state 14 = .ok (.aload_n 2, 1) := by decide +kernel
theorem dX4_state_15 : decode cX4_state 15 = .ok (.getfield 79, 3) := by decide +kernel
theorem dX4_state_18 : decode cX4_state 18 = .ok (.ireturn, 1) := by decide +kernel
theorem dX4_stepOf_0 : decode cX4_stepOf 0 = .ok (.aload_n 0, 1) := by decide +kernel
theorem dX4_stepOf_1 : decode cX4_stepOf 1 = .ok (.iload_n 1, 1) := by decide +kernel
theorem dX4_stepOf_2 : decode cX4_stepOf 2 = .ok (.invokevirtual 65, 3) := by decide +kernel
theorem dX4_stepOf_5 : decode cX4_stepOf 5 = .ok (.astore_n 2, 1) := by decide +kernel
theorem dX4_stepOf_6 : decode cX4_stepOf 6 = .ok (.aload_n 2, 1) := by decide +kernel
theorem dX4_stepOf_7 : decode cX4_stepOf 7 = .ok (.ifnonnull 7, 3) := by decide +kernel
theorem dX4_stepOf_10 : decode cX4_stepOf 10 = .ok (.iconst (-1), 1) := by decide +kernel
theorem dX4_stepOf_11 : decode cX4_stepOf 11 = .ok (.goto 9, 3) := by decide +kernel
theorem dX4_stepOf_14 : decode cX4_stepOf 14 = .ok (.aload_n 2, 1) := by decide +kernel
theorem dX4_stepOf_15 : decode cX4_stepOf 15 = .ok (.getfield 82, 3) := by decide +kernel
theorem dX4_stepOf_18 : decode cX4_stepOf 18 = .ok (.iconst 1, 1) := by decide +kernel
theorem dX4_stepOf_19 : decode cX4_stepOf 19 = .ok (.isub, 1) := by decide +kernel
theorem dX4_stepOf_20 : decode cX4_stepOf 20 = .ok (.ireturn, 1) := by decide +kernel
theorem dX4_counted_0 : decode cX4_counted 0 = .ok (.aload_n 0, 1) := by decide +kernel
theorem dX4_counted_1 : decode cX4_counted 1 = .ok (.iload_n 1, 1) := by decide +kernel
theorem dX4_counted_2 : decode cX4_counted 2 = .ok (.invokevirtual 65, 3) := by decide +kernel
theorem dX4_counted_5 : decode cX4_counted 5 = .ok (.astore_n 2, 1) := by decide +kernel
theorem dX4_counted_6 : decode cX4_counted 6 = .ok (.aload_n 2, 1) := by decide +kernel
theorem dX4_counted_7 : decode cX4_counted 7 = .ok (.ifnonnull 9, 3) := by decide +kernel
theorem dX4_counted_10 : decode cX4_counted 10 = .ok (.ldc2_w 85, 3) := by decide +kernel
theorem dX4_counted_13 : decode cX4_counted 13 = .ok (.goto 11, 3) := by decide +kernel
theorem dX4_counted_16 : decode cX4_counted 16 = .ok (.aload_n 2, 1) := by decide +kernel
theorem dX4_counted_17 : decode cX4_counted 17 = .ok (.getfield 87, 3) := by decide +kernel
theorem dX4_counted_20 : decode cX4_counted 20 = .ok (.getfield 91, 3) := by decide +kernel
theorem dX4_counted_23 : decode cX4_counted 23 = .ok (.i2l, 1) := by decide +kernel
theorem dX4_counted_24 : decode cX4_counted 24 = .ok (.lreturn, 1) := by decide +kernel
theorem dX4_failed_0 : decode cX4_failed 0 = .ok (.aload_n 0, 1) := by decide +kernel
theorem dX4_failed_1 : decode cX4_failed 1 = .ok (.iload_n 1, 1) := by decide +kernel
theorem dX4_failed_2 : decode cX4_failed 2 = .ok (.invokevirtual 65, 3) := by decide +kernel
theorem dX4_failed_5 : decode cX4_failed 5 = .ok (.astore_n 2, 1) := by decide +kernel
theorem dX4_failed_6 : decode cX4_failed 6 = .ok (.aload_n 2, 1) := by decide +kernel
theorem dX4_failed_7 : decode cX4_failed 7 = .ok (.ifnonnull 7, 3) := by decide +kernel
theorem dX4_failed_10 : decode cX4_failed 10 = .ok (.iconst (-1), 1) := by decide +kernel
theorem dX4_failed_11 : decode cX4_failed 11 = .ok (.goto 7, 3) := by decide +kernel
theorem dX4_failed_14 : decode cX4_failed 14 = .ok (.aload_n 2, 1) := by decide +kernel
theorem dX4_failed_15 : decode cX4_failed 15 = .ok (.getfield 96, 3) := by decide +kernel
theorem dX4_failed_18 : decode cX4_failed 18 = .ok (.ireturn, 1) := by decide +kernel
theorem dX4_cleaner_0 : decode cX4_cleaner 0 = .ok (.aload_n 0, 1) := by decide +kernel
theorem dX4_cleaner_1 : decode cX4_cleaner 1 = .ok (.iload_n 1, 1) := by decide +kernel
theorem dX4_cleaner_2 : decode cX4_cleaner 2 = .ok (.invokevirtual 65, 3) := by decide +kernel
theorem dX4_cleaner_5 : decode cX4_cleaner 5 = .ok (.astore_n 3, 1) := by decide +kernel
theorem dX4_cleaner_6 : decode cX4_cleaner 6 = .ok (.aload_n 3, 1) := by decide +kernel
theorem dX4_cleaner_7 : decode cX4_cleaner 7 = .ok (.ifnonnull 9, 3) := by decide +kernel
theorem dX4_cleaner_10 : decode cX4_cleaner 10 = .ok (.ldc2_w 99, 3) := by decide +kernel
theorem dX4_cleaner_13 : decode cX4_cleaner 13 = .ok (.goto 8, 3) := by decide +kernel
theorem dX4_cleaner_16 : decode cX4_cleaner 16 = .ok (.aload_n 3, 1) := by decide +kernel
theorem dX4_cleaner_17 : decode cX4_cleaner 17 = .ok (.iload_n 2, 1) := by decide +kernel
theorem dX4_cleaner_18 : decode cX4_cleaner 18 = .ok (.invokevirtual 101, 3) := by decide +kernel
theorem dX4_cleaner_21 : decode cX4_cleaner 21 = .ok (.dreturn, 1) := by decide +kernel
theorem dX4_interface2_0 : decode cX4_interface2 0 = .ok (.aload_n 0, 1) := by decide +kernel
theorem dX4_interface2_1 : decode cX4_interface2 1 = .ok (.iload_n 1, 1) := by decide +kernel
theorem dX4_interface2_2 : decode cX4_interface2 2 = .ok (.invokevirtual 65, 3) := by decide +kernel
theorem dX4_interface2_5 : decode cX4_interface2 5 = .ok (.astore 5, 2) := by decide +kernel
theorem dX4_interface2_7 : decode cX4_interface2 7 = .ok (.aload 5, 2) := by decide +kernel
theorem dX4_interface2_9 : decode cX4_interface2 9 = .ok (.ifnull 11, 3) := by decide +kernel
theorem dX4_interface2_12 : decode cX4_interface2 12 = .ok (.aload 5, 2) := by decide +kernel
theorem dX4_interface2_14 : decode cX4_interface2 14 = .ok (.invokevirtual 105, 3) := by decide +kernel
theorem dX4_interface2_17 : decode cX4_interface2 17 = .ok (.ifCond .eq 5, 3) := by decide +kernel
theorem dX4_interface2_20 : decode cX4_interface2 20 = .ok (.iconst 0, 1) := by decide +kernel
theorem dX4_interface2_21 : decode cX4_interface2 21 = .ok (.ireturn, 1) := by decide +kernel
theorem dX4_interface2_22 : decode cX4_interface2 22 = .ok (.dload_n 2, 1) := by decide +kernel
theorem dX4_interface2_23 : decode cX4_interface2 23 = .ok (.dconst 0, 1) := by decide +kernel
theorem dX4_interface2_24 : decode cX4_interface2 24 = .ok (.ldc2_w 37, 3) := by decide +kernel
theorem dX4_interface2_27 : decode cX4_interface2 27 = .ok (.invokestatic 39, 3) := by decide +kernel
theorem dX4_interface2_30 : decode cX4_interface2 30 = .ok (.ifCond .eq 17, 3) := by decide +kernel
theorem dX4_interface2_33 : decode cX4_interface2 33 = .ok (.iload 4, 2) := by decide +kernel
theorem dX4_interface2_35 : decode cX4_interface2 35 = .ok (.iconst 1, 1) := by decide +kernel
theorem dX4_interface2_36 : decode cX4_interface2 36 = .ok (.if_icmp .lt 11, 3) := by decide +kernel
theorem dX4_interface2_39 : decode cX4_interface2 39 = .ok (.iload 4, 2) := by decide +kernel
theorem dX4_interface2_41 : decode cX4_interface2 41 = .ok (.sipush 600, 3) := by decide +kernel
theorem dX4_interface2_44 : decode cX4_interface2 44 = .ok (.if_icmp .le 5, 3) := by decide +kernel
theorem dX4_interface2_47 : decode cX4_interface2 47 = .ok (.iconst 0, 1) := by decide +kernel
theorem dX4_interface2_48 : decode cX4_interface2 48 = .ok (.ireturn, 1) := by decide +kernel
theorem dX4_interface2_49 : decode cX4_interface2 49 = .ok (.aload 5, 2) := by decide +kernel
theorem dX4_interface2_51 : decode cX4_interface2 51 = .ok (.dload_n 2, 1) := by decide +kernel
theorem dX4_interface2_52 : decode cX4_interface2 52 = .ok (.iload 4, 2) := by decide +kernel
theorem dX4_interface2_54 : decode cX4_interface2 54 = .ok (.invokevirtual 108, 3) := by decide +kernel
theorem dX4_interface2_57 : decode cX4_interface2 57 = .ok (.iconst 1, 1) := by decide +kernel
theorem dX4_interface2_58 : decode cX4_interface2 58 = .ok (.ireturn, 1) := by decide +kernel
theorem dX4_level_0 : decode cX4_level 0 = .ok (.aload_n 0, 1) := by decide +kernel
theorem dX4_level_1 : decode cX4_level 1 = .ok (.iload_n 1, 1) := by decide +kernel
theorem dX4_level_2 : decode cX4_level 2 = .ok (.invokevirtual 65, 3) := by decide +kernel
theorem dX4_level_5 : decode cX4_level 5 = .ok (.astore_n 2, 1) := by decide +kernel
theorem dX4_level_6 : decode cX4_level 6 = .ok (.aload_n 2, 1) := by decide +kernel
theorem dX4_level_7 : decode cX4_level 7 = .ok (.ifnonnull 5, 3) := by decide +kernel
theorem dX4_level_10 : decode cX4_level 10 = .ok (.iconst (-1), 1) := by decide +kernel
theorem dX4_level_11 : decode cX4_level 11 = .ok (.ireturn, 1) := by decide +kernel
theorem dX4_level_12 : decode cX4_level 12 = .ok (.aload_n 2, 1) := by decide +kernel
theorem dX4_level_13 : decode cX4_level 13 = .ok (.getfield 79, 3) := by decide +kernel
theorem dX4_level_16 : decode cX4_level 16 = .ok (.iconst 3, 1) := by decide +kernel
theorem dX4_level_17 : decode cX4_level 17 = .ok (.if_icmp .ne 10, 3) := by decide +kernel
theorem dX4_level_20 : decode cX4_level 20 = .ok (.aload_n 2, 1) := by decide +kernel
theorem dX4_level_21 : decode cX4_level 21 = .ok (.getfield 112, 3) := by decide +kernel
theorem dX4_level_24 : decode cX4_level 24 = .ok (.goto 4, 3) := by decide +kernel
theorem dX4_level_27 : decode cX4_level 27 = .ok (.iconst 0, 1) := by decide +kernel
theorem dX4_level_28 : decode cX4_level 28 = .ok (.ireturn, 1) := by decide +kernel
theorem dX4_breakOff_0 : decode cX4_breakOff 0 = .ok (.aload_n 0, 1) := by decide +kernel
theorem dX4_breakOff_1 : decode cX4_breakOff 1 = .ok (.iload_n 1, 1) := by decide +kernel
theorem dX4_breakOff_2 : decode cX4_breakOff 2 = .ok (.invokevirtual 65, 3) := by decide +kernel
theorem dX4_breakOff_5 : decode cX4_breakOff 5 = .ok (.astore_n 2, 1) := by decide +kernel
theorem dX4_breakOff_6 : decode cX4_breakOff 6 = .ok (.aload_n 2, 1) := by decide +kernel
theorem dX4_breakOff_7 : decode cX4_breakOff 7 = .ok (.ifnull 10, 3) := by decide +kernel
theorem dX4_breakOff_10 : decode cX4_breakOff 10 = .ok (.aload_n 2, 1) := by decide +kernel
theorem dX4_breakOff_11 : decode cX4_breakOff 11 = .ok (.invokevirtual 105, 3) := by decide +kernel
theorem dX4_breakOff_14 : decode cX4_breakOff 14 = .ok (.ifCond .eq 5, 3) := by decide +kernel
theorem dX4_breakOff_17 : decode cX4_breakOff 17 = .ok (.iconst 0, 1) := by decide +kernel
theorem dX4_breakOff_18 : decode cX4_breakOff 18 = .ok (.ireturn, 1) := by decide +kernel
theorem dX4_breakOff_19 : decode cX4_breakOff 19 = .ok (.aload_n 2, 1) := by decide +kernel
theorem dX4_breakOff_20 : decode cX4_breakOff 20 = .ok (.iconst 4, 1) := by decide +kernel
theorem dX4_breakOff_21 : decode cX4_breakOff 21 = .ok (.invokevirtual 115, 3) := by decide +kernel
theorem dX4_breakOff_24 : decode cX4_breakOff 24 = .ok (.iconst 1, 1) := by decide +kernel
theorem dX4_breakOff_25 : decode cX4_breakOff 25 = .ok (.ireturn, 1) := by decide +kernel
theorem dX4_record_0 : decode cX4_record 0 = .ok (.aload_n 0, 1) := by decide +kernel
theorem dX4_record_1 : decode cX4_record 1 = .ok (.iload_n 1, 1) := by decide +kernel
theorem dX4_record_2 : decode cX4_record 2 = .ok (.invokevirtual 65, 3) := by decide +kernel
theorem dX4_record_5 : decode cX4_record 5 = .ok (.astore 4, 2) := by decide +kernel
theorem dX4_record_7 : decode cX4_record 7 = .ok (.aload 4, 2) := by decide +kernel
theorem dX4_record_9 : decode cX4_record 9 = .ok (.ifnonnull 5, 3) := by decide +kernel
theorem dX4_record_12 : decode cX4_record 12 = .ok (.iconst (-1), 1) := by decide +kernel
theorem dX4_record_13 : decode cX4_record 13 = .ok (.ireturn, 1) := by decide +kernel
theorem dX4_record_14 : decode cX4_record 14 = .ok (.aload 4, 2) := by decide +kernel
theorem dX4_record_16 : decode cX4_record 16 = .ok (.iload_n 2, 1) := by decide +kernel
theorem dX4_record_17 : decode cX4_record 17 = .ok (.invokevirtual 119, 3) := by decide +kernel
theorem dX4_record_20 : decode cX4_record 20 = .ok (.astore 5, 2) := by decide +kernel
theorem dX4_record_22 : decode cX4_record 22 = .ok (.aload 5, 2) := by decide +kernel
theorem dX4_record_24 : decode cX4_record 24 = .ok (.ifnonnull 7, 3) := by decide +kernel
theorem dX4_record_27 : decode cX4_record 27 = .ok (.iconst (-1), 1) := by decide +kernel
theorem dX4_record_28 : decode cX4_record 28 = .ok (.goto 9, 3) := by decide +kernel
theorem dX4_record_31 : decode cX4_record 31 = .ok (.aload 5, 2) := by decide +kernel
theorem dX4_record_33 : decode cX4_record 33 = .ok (.iload_n 3, 1) := by decide +kernel
theorem dX4_record_34 : decode cX4_record 34 = .ok (.invokevirtual 123, 3) := by decide +kernel
theorem dX4_record_37 : decode cX4_record 37 = .ok (.ireturn, 1) := by decide +kernel
theorem dX4_states_0 : decode cX4_states 0 = .ok (.iconst 5, 1) := by decide +kernel
theorem dX4_states_1 : decode cX4_states 1 = .ok (.ireturn, 1) := by decide +kernel
theorem dX4_recipeAt_0 : decode cX4_recipeAt 0 = .ok (.iload_n 1, 1) := by decide +kernel
theorem dX4_recipeAt_1 : decode cX4_recipeAt 1 = .ok (.ifCond .lt 20, 3) := by decide +kernel
theorem dX4_recipeAt_4 : decode cX4_recipeAt 4 = .ok (.iload_n 1, 1) := by decide +kernel
theorem dX4_recipeAt_5 : decode cX4_recipeAt 5 = .ok (.aload_n 0, 1) := by decide +kernel
theorem dX4_recipeAt_6 : decode cX4_recipeAt 6 = .ok (.getfield 21, 3) := by decide +kernel
theorem dX4_recipeAt_9 : decode cX4_recipeAt 9 = .ok (.if_icmp .ge 12, 3) := by decide +kernel
theorem dX4_recipeAt_12 : decode cX4_recipeAt 12 = .ok (.iload_n 1, 1) := by decide +kernel
theorem dX4_recipeAt_13 : decode cX4_recipeAt 13 = .ok (.aload_n 0, 1) := by decide +kernel
theorem dX4_recipeAt_14 : decode cX4_recipeAt 14 = .ok (.getfield 11, 3) := by decide +kernel
theorem dX4_recipeAt_17 : decode cX4_recipeAt 17 = .ok (.arraylength, 1) := by decide +kernel
theorem dX4_recipeAt_18 : decode cX4_recipeAt 18 = .ok (.if_icmp .lt 5, 3) := by decide +kernel
theorem dX4_recipeAt_21 : decode cX4_recipeAt 21 = .ok (.aconst_null, 1) := by decide +kernel
theorem dX4_recipeAt_22 : decode cX4_recipeAt 22 = .ok (.areturn, 1) := by decide +kernel
theorem dX4_recipeAt_23 : decode cX4_recipeAt 23 = .ok (.aload_n 0, 1) := by decide +kernel
theorem dX4_recipeAt_24 : decode cX4_recipeAt 24 = .ok (.getfield 11, 3) := by decide +kernel
theorem dX4_recipeAt_27 : decode cX4_recipeAt 27 = .ok (.iload_n 1, 1) := by decide +kernel
theorem dX4_recipeAt_28 : decode cX4_recipeAt 28 = .ok (.aaload, 1) := by decide +kernel
theorem dX4_recipeAt_29 : decode cX4_recipeAt 29 = .ok (.areturn, 1) := by decide +kernel
theorem dX4_runAt_0 : decode cX4_runAt 0 = .ok (.iload_n 1, 1) := by decide +kernel
theorem dX4_runAt_1 : decode cX4_runAt 1 = .ok (.ifCond .lt 20, 3) := by decide +kernel
theorem dX4_runAt_4 : decode cX4_runAt 4 = .ok (.iload_n 1, 1) := by decide +kernel
theorem dX4_runAt_5 : decode cX4_runAt 5 = .ok (.aload_n 0, 1) := by decide +kernel
theorem dX4_runAt_6 : decode cX4_runAt 6 = .ok (.getfield 25, 3) := by decide +kernel
theorem dX4_runAt_9 : decode cX4_runAt 9 = .ok (.if_icmp .ge 12, 3) := by decide +kernel
theorem dX4_runAt_12 : decode cX4_runAt 12 = .ok (.iload_n 1, 1) := by decide +kernel
theorem dX4_runAt_13 : decode cX4_runAt 13 = .ok (.aload_n 0, 1) := by decide +kernel
theorem dX4_runAt_14 : decode cX4_runAt 14 = .ok (.getfield 17, 3) := by decide +kernel
theorem dX4_runAt_17 : decode cX4_runAt 17 = .ok (.arraylength, 1) := by decide +kernel
theorem dX4_runAt_18 : decode cX4_runAt 18 = .ok (.if_icmp .lt 5, 3) := by decide +kernel
theorem dX4_runAt_21 : decode cX4_runAt 21 = .ok (.aconst_null, 1) := by decide +kernel
theorem dX4_runAt_22 : decode cX4_runAt 22 = .ok (.areturn, 1) := by decide +kernel
theorem dX4_runAt_23 : decode cX4_runAt 23 = .ok (.aload_n 0, 1) := by decide +kernel
theorem dX4_runAt_24 : decode cX4_runAt 24 = .ok (.getfield 17, 3) := by decide +kernel
theorem dX4_runAt_27 : decode cX4_runAt 27 = .ok (.iload_n 1, 1) := by decide +kernel
theorem dX4_runAt_28 : decode cX4_runAt 28 = .ok (.aaload, 1) := by decide +kernel
theorem dX4_runAt_29 : decode cX4_runAt 29 = .ok (.areturn, 1) := by decide +kernel
theorem dX4_within_0 : decode cX4_within 0 = .ok (.dload_n 0, 1) := by decide +kernel
theorem dX4_within_1 : decode cX4_within 1 = .ok (.dload_n 2, 1) := by decide +kernel
theorem dX4_within_2 : decode cX4_within 2 = .ok (.dcmp .l, 1) := by decide +kernel
theorem dX4_within_3 : decode cX4_within 3 = .ok (.ifCond .lt 14, 3) := by decide +kernel
theorem dX4_within_6 : decode cX4_within 6 = .ok (.dload_n 0, 1) := by decide +kernel
theorem dX4_within_7 : decode cX4_within 7 = .ok (.dload 4, 2) := by decide +kernel
theorem dX4_within_9 : decode cX4_within 9 = .ok (.dcmp .g, 1) := by decide +kernel
theorem dX4_within_10 : decode cX4_within 10 = .ok (.ifCond .gt 7, 3) := by decide +kernel
theorem dX4_within_13 : decode cX4_within 13 = .ok (.iconst 1, 1) := by decide +kernel
theorem dX4_within_14 : decode cX4_within 14 = .ok (.goto 4, 3) := by decide +kernel
theorem dX4_within_17 : decode cX4_within 17 = .ok (.iconst 0, 1) := by decide +kernel
theorem dX4_within_18 : decode cX4_within 18 = .ok (.ireturn, 1) := by decide +kernel
theorem dX5_init_0 : decode cX5_init 0 = .ok (.aload_n 0, 1) := by decide +kernel
theorem dX5_init_1 : decode cX5_init 1 = .ok (.invokespecial 1, 3) := by decide +kernel
theorem dX5_init_4 : decode cX5_init 4 = .ok (.aload_n 0, 1) := by decide +kernel
theorem dX5_init_5 : decode cX5_init 5 = .ok (.bipush 10, 2) := by decide +kernel
theorem dX5_init_7 : decode cX5_init 7 = .ok (.newarray .int, 2) := by decide +kernel
theorem dX5_init_9 : decode cX5_init 9 = .ok (.putfield 9, 3) := by decide +kernel
theorem dX5_init_12 : decode cX5_init 12 = .ok (.aload_n 0, 1) := by decide +kernel
theorem dX5_init_13 : decode cX5_init 13 = .ok (.bipush 10, 2) := by decide +kernel
theorem dX5_init_15 : decode cX5_init 15 = .ok (.newarray .boolean, 2) := by decide +kernel
theorem dX5_init_17 : decode cX5_init 17 = .ok (.putfield 13, 3) := by decide +kernel
theorem dX5_init_20 : decode cX5_init 20 = .ok (.aload_n 0, 1) := by decide +kernel
theorem dX5_init_21 : decode cX5_init 21 = .ok (.bipush 120, 2) := by decide +kernel
theorem dX5_init_23 : decode cX5_init 23 = .ok (.newarray .int, 2) := by decide +kernel
theorem dX5_init_25 : decode cX5_init 25 = .ok (.putfield 17, 3) := by decide +kernel
theorem dX5_init_28 : decode cX5_init 28 = .ok (.aload_n 0, 1) := by decide +kernel
theorem dX5_init_29 : decode cX5_init 29 = .ok (.bipush 120, 2) := by decide +kernel
theorem dX5_init_31 : decode cX5_init 31 = .ok (.newarray .int, 2) := by decide +kernel
theorem dX5_init_33 : decode cX5_init 33 = .ok (.putfield 20, 3) := by decide +kernel
theorem dX5_init_36 : decode cX5_init 36 = .ok (.aload_n 0, 1) := by decide +kernel
theorem dX5_init_37 : decode cX5_init 37 = .ok (.bipush 120, 2) := by decide +kernel
theorem dX5_init_39 : decode cX5_init 39 = .ok (.newarray .double, 2) := by decide +kernel
theorem dX5_init_41 : decode cX5_init 41 = .ok (.putfield 23, 3) := by decide +kernel
theorem dX5_init_44 : decode cX5_init 44 = .ok (.aload_n 0, 1) := by decide +kernel
theorem dX5_init_45 : decode cX5_init 45 = .ok (.bipush 120, 2) := by decide +kernel
theorem dX5_init_47 : decode cX5_init 47 = .ok (.newarray .double, 2) := by decide +kernel
theorem dX5_init_49 : decode cX5_init 49 = .ok (.putfield 27, 3) := by decide +kernel
theorem dX5_init_52 : decode cX5_init 52 = .ok (.aload_n 0, 1) := by decide +kernel
theorem dX5_init_53 : decode cX5_init 53 = .ok (.bipush 30, 2) := by decide +kernel
theorem dX5_init_55 : decode cX5_init 55 = .ok (.newarray .int, 2) := by decide +kernel
theorem dX5_init_57 : decode cX5_init 57 = .ok (.putfield 30, 3) := by decide +kernel
theorem dX5_init_60 : decode cX5_init 60 = .ok (.aload_n 0, 1) := by decide +kernel
theorem dX5_init_61 : decode cX5_init 61 = .ok (.bipush 30, 2) := by decide +kernel
theorem dX5_init_63 : decode cX5_init 63 = .ok (.newarray .int, 2) := by decide +kernel
theorem dX5_init_65 : decode cX5_init 65 = .ok (.putfield 33, 3) := by decide +kernel
theorem dX5_init_68 : decode cX5_init 68 = .ok (.aload_n 0, 1) := by decide +kernel
theorem dX5_init_69 : decode cX5_init 69 = .ok (.bipush 30, 2) := by decide +kernel
theorem dX5_init_71 : decode cX5_init 71 = .ok (.newarray .int, 2) := by decide +kernel
theorem dX5_init_73 : decode cX5_init 73 = .ok (.putfield 36, 3) := by decide +kernel
theorem dX5_init_76 : decode cX5_init 76 = .ok (.aload_n 0, 1) := by decide +kernel
theorem dX5_init_77 : decode cX5_init 77 = .ok (.bipush 30, 2) := by decide +kernel
theorem dX5_init_79 : decode cX5_init 79 = .ok (.newarray .int, 2) := by decide +kernel
theorem dX5_init_81 : decode cX5_init 81 = .ok (.putfield 39, 3) := by decide +kernel
theorem dX5_init_84 : decode cX5_init 84 = .ok (.aload_n 0, 1) := by decide +kernel
theorem dX5_init_85 : decode cX5_init 85 = .ok (.bipush 30, 2) := by decide +kernel
theorem dX5_init_87 : decode cX5_init 87 = .ok (.newarray .int, 2) := by decide +kernel
theorem dX5_init_89 : decode cX5_init 89 = .ok (.putfield 42, 3) := by decide +kernel
theorem dX5_init_92 : decode cX5_init 92 = .ok (.aload_n 0, 1) := by decide +kernel
theorem dX5_init_93 : decode cX5_init 93 = .ok (.bipush 30, 2) := by decide +kernel
theorem dX5_init_95 : decode cX5_init 95 = .ok (.newarray .int, 2) := by decide +kernel
theorem dX5_init_97 : decode cX5_init 97 = .ok (.putfield 45, 3) := by decide +kernel
theorem dX5_init_100 : decode cX5_init 100 = .ok (.aload_n 0, 1) := by decide +kernel
theorem dX5_init_101 : decode cX5_init 101 = .ok (.bipush 30, 2) := by decide +kernel
theorem dX5_init_103 : decode cX5_init 103 = .ok (.newarray .int, 2) := by decide +kernel
theorem dX5_init_105 : decode cX5_init 105 = .ok (.putfield 48, 3) := by decide +kernel
theorem dX5_init_108 : decode cX5_init 108 = .ok (.aload_n 0, 1) := by decide +kernel
theorem dX5_init_109 : decode cX5_init 109 = .ok (.bipush 30, 2) := by decide +kernel
theorem dX5_init_111 : decode cX5_init 111 = .ok (.newarray .int, 2) := by decide +kernel
theorem dX5_init_113 : decode cX5_init 113 = .ok (.putfield 51, 3) := by decide +kernel
theorem dX5_init_116 : decode cX5_init 116 = .ok (.aload_n 0, 1) := by decide +kernel
theorem dX5_init_117 : decode cX5_init 117 = .ok (.bipush 30, 2) := by decide +kernel
theorem dX5_init_119 : decode cX5_init 119 = .ok (.newarray .double, 2) := by decide +kernel
theorem dX5_init_121 : decode cX5_init 121 = .ok (.putfield 54, 3) := by decide +kernel
theorem dX5_init_124 : decode cX5_init 124 = .ok (.aload_n 0, 1) := by decide +kernel
theorem dX5_init_125 : decode cX5_init 125 = .ok (.bipush 30, 2) := by decide +kernel
theorem dX5_init_127 : decode cX5_init 127 = .ok (.newarray .int, 2) := by decide +kernel
theorem dX5_init_129 : decode cX5_init 129 = .ok (.putfield 57, 3) := by decide +kernel
theorem dX5_init_132 : decode cX5_init 132 = .ok (.aload_n 0, 1) := by decide +kernel
theorem dX5_init_133 : decode cX5_init 133 = .ok (.bipush 30, 2) := by decide +kernel
theorem dX5_init_135 : decode cX5_init 135 = .ok (.newarray .double, 2) := by decide +kernel
theorem dX5_init_137 : decode cX5_init 137 = .ok (.putfield 60, 3) := by decide +kernel
theorem dX5_init_140 : decode cX5_init 140 = .ok (.aload_n 0, 1) := by decide +kernel
theorem dX5_init_141 : decode cX5_init 141 = .ok (.bipush 30, 2) := by decide +kernel
theorem dX5_init_143 : decode cX5_init 143 = .ok (.newarray .double, 2) := by decide +kernel
theorem dX5_init_145 : decode cX5_init 145 = .ok (.putfield 63, 3) := by decide +kernel
theorem dX5_init_148 : decode cX5_init 148 = .ok (.aload_n 0, 1) := by decide +kernel
theorem dX5_init_149 : decode cX5_init 149 = .ok (.bipush 30, 2) := by decide +kernel
theorem dX5_init_151 : decode cX5_init 151 = .ok (.newarray .double, 2) := by decide +kernel
theorem dX5_init_153 : decode cX5_init 153 = .ok (.putfield 66, 3) := by decide +kernel
theorem dX5_init_156 : decode cX5_init 156 = .ok (.aload_n 0, 1) := by decide +kernel
theorem dX5_init_157 : decode cX5_init 157 = .ok (.sipush 360, 3) := by decide +kernel
theorem dX5_init_160 : decode cX5_init 160 = .ok (.newarray .int, 2) := by decide +kernel
theorem dX5_init_162 : decode cX5_init 162 = .ok (.putfield 69, 3) := by decide +kernel
theorem dX5_init_165 : decode cX5_init 165 = .ok (.aload_n 0, 1) := by decide +kernel
theorem dX5_init_166 : decode cX5_init 166 = .ok (.sipush 360, 3) := by decide +kernel
theorem dX5_init_169 : decode cX5_init 169 = .ok (.newarray .int, 2) := by decide +kernel
theorem dX5_init_171 : decode cX5_init 171 = .ok (.putfield 72, 3) := by decide +kernel
theorem dX5_init_174 : decode cX5_init 174 = .ok (.aload_n 0, 1) := by decide +kernel
theorem dX5_init_175 : decode cX5_init 175 = .ok (.sipush 360, 3) := by decide +kernel
theorem dX5_init_178 : decode cX5_init 178 = .ok (.newarray .int, 2) := by decide +kernel
theorem dX5_init_180 : decode cX5_init 180 = .ok (.putfield 75, 3) := by decide +kernel
theorem dX5_init_183 : decode cX5_init 183 = .ok (.return_, 1) := by decide +kernel
theorem dX5_recipe_0 : decode cX5_recipe 0 = .ok (.aload_n 0, 1) := by decide +kernel
theorem dX5_recipe_1 : decode cX5_recipe 1 = .ok (.getfield 78, 3) := by decide +kernel
theorem dX5_recipe_4 : decode cX5_recipe 4 = .ok (.bipush 10, 2) := by decide +kernel
theorem dX5_recipe_6 : decode cX5_recipe 6 = .ok (.if_icmp .ne 6, 3) := by decide +kernel
theorem dX5_recipe_9 : decode cX5_recipe 9 = .ok (.bipush (-2), 2) := by decide +kernel
theorem dX5_recipe_11 : decode cX5_recipe 11 = .ok (.ireturn, 1) := by decide +kernel
theorem dX5_recipe_12 : decode cX5_recipe 12 = .ok (.aload_n 0, 1) := by decide +kernel
theorem dX5_recipe_13 : decode cX5_recipe 13 = .ok (.dup, 1) := by decide +kernel
theorem dX5_recipe_14 : decode cX5_recipe 14 = .ok (.getfield 78, 3) := by decide +kernel
theorem dX5_recipe_17 : decode cX5_recipe 17 = .ok (.iconst 1, 1) := by decide +kernel
theorem dX5_recipe_18 : decode cX5_recipe 18 = .ok (.iadd, 1) := by decide +kernel
theorem dX5_recipe_19 : decode cX5_recipe 19 = .ok (.putfield 78, 3) := by decide +kernel
theorem dX5_recipe_22 : decode cX5_recipe 22 = .ok (.aload_n 0, 1) := by decide +kernel
theorem dX5_recipe_23 : decode cX5_recipe 23 = .ok (.getfield 78, 3) := by decide +kernel
theorem dX5_recipe_26 : decode cX5_recipe 26 = .ok (.iconst 1, 1) := by decide +kernel
theorem dX5_recipe_27 : decode cX5_recipe 27 = .ok (.isub, 1) := by decide +kernel
theorem dX5_recipe_28 : decode cX5_recipe 28 = .ok (.ireturn, 1) := by decide +kernel
theorem dX5_step_0 : decode cX5_step 0 = .ok (.iload_n 1, 1) := by decide +kernel
theorem dX5_step_1 : decode cX5_step 1 = .ok (.ifCond .lt 35, 3) := by decide +kernel
theorem dX5_step_4 : decode cX5_step 4 = .ok (.iload_n 1, 1) := by decide +kernel
theorem dX5_step_5 : decode cX5_step 5 = .ok (.aload_n 0, 1) := by decide +kernel
theorem dX5_step_6 : decode cX5_step 6 = .ok (.getfield 78, 3) := by decide +kernel
theorem dX5_step_9 : decode cX5_step 9 = .ok (.if_icmp .ge 27, 3) := by decide +kernel
theorem dX5_step_12 : decode cX5_step 12 = .ok (.aload_n 0, 1) := by decide +kernel
theorem dX5_step_13 : decode cX5_step 13 = .ok (.getfield 13, 3) := by decide +kernel
theorem dX5_step_16 : decode cX5_step 16 = .ok (.iload_n 1, 1) := by decide +kernel
theorem dX5_step_17 : decode cX5_step 17 = .ok (.baload, 1) := by decide +kernel
theorem dX5_step_18 : decode cX5_step 18 = .ok (.ifCond .ne 18, 3) := by decide +kernel
theorem dX5_step_21 : decode cX5_step 21 = .ok (.aload_n 0, 1) := by decide +kernel
theorem dX5_step_22 : decode cX5_step 22 = .ok (.getfield 9, 3) := by decide +kernel
theorem dX5_step_25 : decode cX5_step 25 = .ok (.iload_n 1, 1) := by decide +kernel
theorem dX5_step_26 : decode cX5_step 26 = .ok (.iaload, 1) := by decide +kernel
theorem dX5_step_27 : decode cX5_step 27 = .ok (.bipush 12, 2) := by decide +kernel
theorem dX5_step_29 : decode cX5_step 29 = .ok (.if_icmp .ge 7, 3) := by decide +kernel
theorem dX5_step_32 : decode cX5_step 32 = .ok (.iconst 1, 1) := by decide +kernel
theorem dX5_step_33 : decode cX5_step 33 = .ok (.goto 4, 3) := by decide +kernel
theorem dX5_step_36 : decode cX5_step 36 = .ok (.iconst 0, 1) := by decide +kernel
theorem dX5_step_37 : decode cX5_step 37 = .ok (.istore 8, 2) := by decide +kernel
theorem dX5_step_39 : decode cX5_step 39 = .ok (.iload 8, 2) := by decide +kernel
theorem dX5_step_41 : decode cX5_step 41 = .ok (.ifCond .eq 56, 3) := by decide +kernel
theorem dX5_step_44 : decode cX5_step 44 = .ok (.iload_n 2, 1) := by decide +kernel
theorem dX5_step_45 : decode cX5_step 45 = .ok (.ifCond .lt 52, 3) := by decide +kernel
theorem dX5_step_48 : decode cX5_step 48 = .ok (.iload_n 2, 1) := by decide +kernel
theorem dX5_step_49 : decode cX5_step 49 = .ok (.iconst 4, 1) := by decide +kernel
theorem dX5_step_50 : decode cX5_step 50 = .ok (.if_icmp .gt 47, 3) := by decide +kernel
theorem dX5_step_53 : decode cX5_step 53 = .ok (.iload_n 3, 1) := by decide +kernel
theorem dX5_step_54 : decode cX5_step 54 = .ok (.iconst 1, 1) := by decide +kernel
theorem dX5_step_55 : decode cX5_step 55 = .ok (.if_icmp .lt 42, 3) := by decide +kernel
theorem dX5_step_58 : decode cX5_step 58 = .ok (.iload_n 3, 1) := by decide +kernel
theorem dX5_step_59 : decode cX5_step 59 = .ok (.sipush 3600, 3) := by decide +kernel
theorem dX5_step_62 : decode cX5_step 62 = .ok (.if_icmp .gt 35, 3) := by decide +kernel
theorem dX5_step_65 : decode cX5_step 65 = .ok (.dload 4, 2) := by decide +kernel
theorem dX5_step_67 : decode cX5_step 67 = .ok (.dconst 0, 1) := by decide +kernel
theorem dX5_step_68 : decode cX5_step 68 = .ok (.dcmp .l, 1) := by decide +kernel
theorem dX5_step_69 : decode cX5_step 69 = .ok (.ifCond .lt 28, 3) := by decide +kernel
theorem dX5_step_72 : decode cX5_step 72 = .ok (.dload 4, 2) := by decide +kernel
theorem dX5_step_74 : decode cX5_step 74 = .ok (.ldc2_w 82, 3) := by decide +kernel
theorem dX5_step_77 : decode cX5_step 77 = .ok (.dcmp .g, 1) := by decide +kernel
theorem dX5_step_78 : decode cX5_step 78 = .ok (.ifCond .gt 19, 3) := by decide +kernel
theorem dX5_step_81 : decode cX5_step 81 = .ok (.dload 6, 2) := by decide +kernel
theorem dX5_step_83 : decode cX5_step 83 = .ok (.dconst 0, 1) := by decide +kernel
theorem dX5_step_84 : decode cX5_step 84 = .ok (.dcmp .l, 1) := by decide +kernel
theorem dX5_step_85 : decode cX5_step 85 = .ok (.ifCond .lt 12, 3) := by decide +kernel
theorem dX5_step_88 : decode cX5_step 88 = .ok (.dload 6, 2) := by decide +kernel
theorem dX5_step_90 : decode cX5_step 90 = .ok (.ldc2_w 84, 3) := by decide +kernel
theorem dX5_step_93 : decode cX5_step 93 = .ok (.dcmp .g, 1) := by decide +kernel
theorem dX5_step_94 : decode cX5_step 94 = .ok (.ifCond .le 5, 3) := by decide +kernel
theorem dX5_step_97 : decode cX5_step 97 = .ok (.iconst 0, 1) := by decide +kernel
theorem dX5_step_98 : decode cX5_step 98 = .ok (.ireturn, 1) := by decide +kernel
theorem dX5_step_99 : decode cX5_step 99 = .ok (.bipush 12, 2) := by decide +kernel
theorem dX5_step_101 : decode cX5_step 101 = .ok (.iload_n 1, 1) := by decide +kernel
theorem dX5_step_102 : decode cX5_step 102 = .ok (.imul, 1) := by decide +kernel
theorem dX5_step_103 : decode cX5_step 103 = .ok (.aload_n 0, 1) := by decide +kernel
theorem dX5_step_104 : decode cX5_step 104 = .ok (.getfield 9, 3) := by decide +kernel
theorem dX5_step_107 : decode cX5_step 107 = .ok (.iload_n 1, 1) := by decide +kernel
theorem dX5_step_108 : decode cX5_step 108 = .ok (.iaload, 1) := by decide +kernel
theorem dX5_step_109 : decode cX5_step 109 = .ok (.iadd, 1) := by decide +kernel
theorem dX5_step_110 : decode cX5_step 110 = .ok (.istore 9, 2) := by decide +kernel
theorem dX5_step_112 : decode cX5_step 112 = .ok (.aload_n 0, 1) := by decide +kernel
theorem dX5_step_113 : decode cX5_step 113 = .ok (.getfield 17, 3) := by decide +kernel
theorem dX5_step_116 : decode cX5_step 116 = .ok (.iload 9, 2) := by decide +kernel
theorem dX5_step_118 : decode cX5_step 118 = .ok (.iload_n 2, 1) := by decide +kernel
theorem dX5_step_119 : decode cX5_step 119 = .ok (.iastore, 1) := by decide +kernel
theorem dX5_step_120 : decode cX5_step 120 = .ok (.aload_n 0, 1) := by decide +kernel
theorem dX5_step_121 : decode cX5_step 121 = .ok (.getfield 20, 3) := by decide +kernel
theorem dX5_step_124 : decode cX5_step 124 = .ok (.iload 9, 2) := by decide +kernel
theorem dX5_step_126 : decode cX5_step 126 = .ok (.iload_n 3, 1) := by decide +kernel
theorem dX5_step_127 : decode cX5_step 127 = .ok (.iastore, 1) := by decide +kernel
theorem dX5_step_128 : decode cX5_step 128 = .ok (.aload_n 0, 1) := by decide +kernel
theorem dX5_step_129 : decode cX5_step 129 = .ok (.getfield 23, 3) := by decide +kernel
theorem dX5_step_132 : decode cX5_step 132 = .ok (.iload 9, 2) := by decide +kernel
theorem dX5_step_134 : decode cX5_step 134 = .ok (.dload 4, 2) := by decide +kernel
theorem dX5_step_136 : decode cX5_step 136 = .ok (.dastore, 1) := by decide +kernel
theorem dX5_step_137 : decode cX5_step 137 = .ok (.aload_n 0, 1) := by decide +kernel
theorem dX5_step_138 : decode cX5_step 138 = .ok (.getfield 27, 3) := by decide +kernel
theorem dX5_step_141 : decode cX5_step 141 = .ok (.iload 9, 2) := by decide +kernel
theorem dX5_step_143 : decode cX5_step 143 = .ok (.dload 6, 2) := by decide +kernel
theorem dX5_step_145 : decode cX5_step 145 = .ok (.dastore, 1) := by decide +kernel
theorem dX5_step_146 : decode cX5_step 146 = .ok (.aload_n 0, 1) := by decide +kernel
theorem dX5_step_147 : decode cX5_step 147 = .ok (.getfield 9, 3) := by decide +kernel
theorem dX5_step_150 : decode cX5_step 150 = .ok (.iload_n 1, 1) := by decide +kernel
theorem dX5_step_151 : decode cX5_step 151 = .ok (.dup2, 1) := by decide +kernel
theorem dX5_step_152 : decode cX5_step 152 = .ok (.iaload, 1) := by decide +kernel
theorem dX5_step_153 : decode cX5_step 153 = .ok (.iconst 1, 1) := by decide +kernel
theorem dX5_step_154 : decode cX5_step 154 = .ok (.iadd, 1) := by decide +kernel
theorem dX5_step_155 : decode cX5_step 155 = .ok (.iastore, 1) := by decide +kernel
theorem dX5_step_156 : decode cX5_step 156 = .ok (.iconst 1, 1) := by decide +kernel
theorem dX5_step_157 : decode cX5_step 157 = .ok (.ireturn, 1) := by decide +kernel
theorem dX5_start_0 : decode cX5_start 0 = .ok (.iload_n 1, 1) := by decide +kernel
theorem dX5_start_1 : decode cX5_start 1 = .ok (.ifCond .lt 31, 3) := by decide +kernel
theorem dX5_start_4 : decode cX5_start 4 = .ok (.iload_n 1, 1) := by decide +kernel
theorem dX5_start_5 : decode cX5_start 5 = .ok (.aload_n 0, 1) := by decide +kernel
theorem dX5_start_6 : decode cX5_start 6 = .ok (.getfield 78, 3) := by decide +kernel
theorem dX5_start_9 : decode cX5_start 9 = .ok (.if_icmp .ge 23, 3) := by decide +kernel
theorem dX5_start_12 : decode cX5_start 12 = .ok (.aload_n 0, 1) := by decide +kernel
theorem dX5_start_13 : decode cX5_start 13 = .ok (.getfield 9, 3) := by decide +kernel
theorem dX5_start_16 : decode cX5_start 16 = .ok (.iload_n 1, 1) := by decide +kernel
theorem dX5_start_17 : decode cX5_start 17 = .ok (.iaload, 1) := by decide +kernel
theorem dX5_start_18 : decode cX5_start 18 = .ok (.ifCond .eq 14, 3) := by decide +kernel
theorem dX5_start_21 : decode cX5_start 21 = .ok (.iload_n 2, 1) := by decide +kernel
theorem dX5_start_22 : decode cX5_start 22 = .ok (.iconst 1, 1) := by decide +kernel
theorem dX5_start_23 : decode cX5_start 23 = .ok (.if_icmp .lt 9, 3) := by decide +kernel
theorem dX5_start_26 : decode cX5_start 26 = .ok (.iload_n 2, 1) := by decide +kernel
theorem dX5_start_27 : decode cX5_start 27 = .ok (.bipush 9, 2) := by decide +kernel
theorem dX5_start_29 : decode cX5_start 29 = .ok (.if_icmp .le 5, 3) := by decide +kernel
theorem dX5_start_32 : decode cX5_start 32 = .ok (.iconst (-1), 1) := by decide +kernel
theorem dX5_start_33 : decode cX5_start 33 = .ok (.ireturn, 1) := by decide +kernel
theorem dX5_start_34 : decode cX5_start 34 = .ok (.aload_n 0, 1) := by decide +kernel
theorem dX5_start_35 : decode cX5_start 35 = .ok (.getfield 86, 3) := by decide +kernel
theorem dX5_start_38 : decode cX5_start 38 = .ok (.bipush 30, 2) := by decide +kernel
theorem dX5_start_40 : decode cX5_start 40 = .ok (.if_icmp .ne 6, 3) := by decide +kernel
theorem dX5_start_43 : decode cX5_start 43 = .ok (.bipush (-2), 2) := by decide +kernel
theorem dX5_start_45 : decode cX5_start 45 = .ok (.ireturn, 1) := by decide +kernel
theorem dX5_start_46 : decode cX5_start 46 = .ok (.aload_n 0, 1) := by decide +kernel
theorem dX5_start_47 : decode cX5_start 47 = .ok (.getfield 13, 3) := by decide +kernel
theorem dX5_start_50 : decode cX5_start 50 = .ok (.iload_n 1, 1) := by decide +kernel
theorem dX5_start_51 : decode cX5_start 51 = .ok (.iconst 1, 1) := by decide +kernel
theorem dX5_start_52 : decode cX5_start 52 = .ok (.bastore, 1) := by decide +kernel
theorem dX5_start_53 : decode cX5_start 53 = .ok (.aload_n 0, 1) := by decide +kernel
theorem dX5_start_54 : decode cX5_start 54 = .ok (.getfield 30, 3) := by decide +kernel
theorem dX5_start_57 : decode cX5_start 57 = .ok (.aload_n 0, 1) := by decide +kernel
theorem dX5_start_58 : decode cX5_start 58 = .ok (.getfield 86, 3) := by decide +kernel
theorem dX5_start_61 : decode cX5_start 61 = .ok (.iload_n 1, 1) := by decide +kernel
theorem dX5_start_62 : decode cX5_start 62 = .ok (.iastore, 1) := by decide +kernel
theorem dX5_start_63 : decode cX5_start 63 = .ok (.aload_n 0, 1) := by decide +kernel
theorem dX5_start_64 : decode cX5_start 64 = .ok (.getfield 33, 3) := by decide +kernel
theorem dX5_start_67 : decode cX5_start 67 = .ok (.aload_n 0, 1) := by decide +kernel
theorem dX5_start_68 : decode cX5_start 68 = .ok (.getfield 86, 3) := by decide +kernel
theorem dX5_start_71 : decode cX5_start 71 = .ok (.iload_n 2, 1) := by decide +kernel
theorem dX5_start_72 : decode cX5_start 72 = .ok (.iastore, 1) := by decide +kernel
theorem dX5_start_73 : decode cX5_start 73 = .ok (.aload_n 0, 1) := by decide +kernel
theorem dX5_start_74 : decode cX5_start 74 = .ok (.getfield 36, 3) := by decide +kernel
theorem dX5_start_77 : decode cX5_start 77 = .ok (.aload_n 0, 1) := by decide +kernel
theorem dX5_start_78 : decode cX5_start 78 = .ok (.getfield 86, 3) := by decide +kernel
theorem dX5_start_81 : decode cX5_start 81 = .ok (.iconst 1, 1) := by decide +kernel
theorem dX5_start_82 : decode cX5_start 82 = .ok (.iastore, 1) := by decide +kernel
theorem dX5_start_83 : decode cX5_start 83 = .ok (.aload_n 0, 1) := by decide +kernel
theorem dX5_start_84 : decode cX5_start 84 = .ok (.getfield 75, 3) := by decide +kernel
theorem dX5_start_87 : decode cX5_start 87 = .ok (.bipush 12, 2) := by decide +kernel
theorem dX5_start_89 : decode cX5_start 89 = .ok (.aload_n 0, 1) := by decide +kernel
theorem dX5_start_90 : decode cX5_start 90 = .ok (.getfield 86, 3) := by decide +kernel
theorem dX5_start_93 : decode cX5_start 93 = .ok (.imul, 1) := by decide +kernel
theorem dX5_start_94 : decode cX5_start 94 = .ok (.iconst (-1), 1) := by decide +kernel
theorem dX5_start_95 : decode cX5_start 95 = .ok (.iastore, 1) := by decide +kernel
theorem dX5_start_96 : decode cX5_start 96 = .ok (.aload_n 0, 1) := by decide +kernel
theorem dX5_start_97 : decode cX5_start 97 = .ok (.dup, 1) := by decide +kernel
theorem dX5_start_98 : decode cX5_start 98 = .ok (.getfield 86, 3) := by decide +kernel
theorem dX5_start_101 : decode cX5_start 101 = .ok (.iconst 1, 1) := by decide +kernel
theorem dX5_start_102 : decode cX5_start 102 = .ok (.iadd, 1) := by decide +kernel
theorem dX5_start_103 : decode cX5_start 103 = .ok (.putfield 86, 3) := by decide +kernel
theorem dX5_start_106 : decode cX5_start 106 = .ok (.aload_n 0, 1) := by decide +kernel
theorem dX5_start_107 : decode cX5_start 107 = .ok (.getfield 86, 3) := by decide +kernel
theorem dX5_start_110 : decode cX5_start 110 = .ok (.iconst 1, 1) := by decide +kernel
theorem dX5_start_111 : decode cX5_start 111 = .ok (.isub, 1) := by decide +kernel
theorem dX5_start_112 : decode cX5_start 112 = .ok (.ireturn, 1) := by decide +kernel
theorem dX5_isRun_0 : decode cX5_isRun 0 = .ok (.iload_n 1, 1) := by decide +kernel
theorem dX5_isRun_1 : decode cX5_isRun 1 = .ok (.ifCond .lt 15, 3) := by decide +kernel
theorem dX5_isRun_4 : decode cX5_isRun 4 = .ok (.iload_n 1, 1) := by decide +kernel
theorem dX5_isRun_5 : decode cX5_isRun 5 = .ok (.aload_n 0, 1) := by decide +kernel
theorem dX5_isRun_6 : decode cX5_isRun 6 = .ok (.getfield 86, 3) := by decide +kernel
theorem dX5_isRun_9 : decode cX5_isRun 9 = .ok (.if_icmp .ge 7, 3) := by decide +kernel
theorem dX5_isRun_12 : decode cX5_isRun 12 = .ok (.iconst 1, 1) := by decide +kernel
theorem dX5_isRun_13 : decode cX5_isRun 13 = .ok (.goto 4, 3) := by decide +kernel
theorem dX5_isRun_16 : decode cX5_isRun 16 = .ok (.iconst 0, 1) := by decide +kernel
theorem dX5_isRun_17 : decode cX5_isRun 17 = .ok (.ireturn, 1) := by decide +kernel
theorem dX5_isOn_0 : decode cX5_isOn 0 = .ok (.aload_n 0, 1) := by decide +kernel
theorem dX5_isOn_1 : decode cX5_isOn 1 = .ok (.iload_n 1, 1) := by decide +kernel
theorem dX5_isOn_2 : decode cX5_isOn 2 = .ok (.invokevirtual 89, 3) := by decide +kernel
theorem dX5_isOn_5 : decode cX5_isOn 5 = .ok (.ifCond .eq 17, 3) := by decide +kernel
theorem dX5_isOn_8 : decode cX5_isOn 8 = .ok (.aload_n 0, 1) := by decide +kernel
theorem dX5_isOn_9 : decode cX5_isOn 9 = .ok (.getfield 36, 3) := by decide +kernel
theorem dX5_isOn_12 : decode cX5_isOn 12 = .ok (.iload_n 1, 1) := by decide +kernel
theorem dX5_isOn_13 : decode cX5_isOn 13 = .ok (.iaload, 1) := by decide +kernel
theorem dX5_isOn_14 : decode cX5_isOn 14 = .ok (.iconst 2, 1) := by decide +kernel
theorem dX5_isOn_15 : decode cX5_isOn 15 = .ok (.if_icmp .ge 7, 3) := by decide +kernel
theorem dX5_isOn_18 : decode cX5_isOn 18 = .ok (.iconst 1, 1) := by decide +kernel
theorem dX5_isOn_19 : decode cX5_isOn 19 = .ok (.goto 4, 3) := by decide +kernel
theorem dX5_isOn_22 : decode cX5_isOn 22 = .ok (.iconst 0, 1) := by decide +kernel
theorem dX5_isOn_23 : decode cX5_isOn 23 = .ok (.ireturn, 1) := by decide +kernel
theorem dX5_place_0 : decode cX5_place 0 = .ok (.bipush 12, 2) := by decide +kernel
theorem dX5_place_2 : decode cX5_place 2 = .ok (.aload_n 0, 1) := by decide +kernel
theorem dX5_place_3 : decode cX5_place 3 = .ok (.getfield 30, 3) := by decide +kernel
theorem dX5_place_6 : decode cX5_place 6 = .ok (.iload_n 1, 1) := by decide +kernel
theorem dX5_place_7 : decode cX5_place 7 = .ok (.iaload, 1) := by decide +kernel
theorem dX5_place_8 : decode cX5_place 8 = .ok (.imul, 1) := by decide +kernel
theorem dX5_place_9 : decode cX5_place 9 = .ok (.aload_n 0, 1) := by decide +kernel
theorem dX5_place_10 : decode cX5_place 10 = .ok (.getfield 39, 3) := by decide +kernel
theorem dX5_place_13 : decode cX5_place 13 = .ok (.iload_n 1, 1) := by decide +kernel
theorem dX5_place_14 : decode cX5_place 14 = .ok (.iaload, 1) := by decide +kernel
theorem dX5_place_15 : decode cX5_place 15 = .ok (.iadd, 1) := by decide +kernel
theorem dX5_place_16 : decode cX5_place 16 = .ok (.ireturn, 1) := by decide +kernel
theorem dX5_isHeld_0 : decode cX5_isHeld 0 = .ok (.aload_n 0, 1) := by decide +kernel
theorem dX5_isHeld_1 : decode cX5_isHeld 1 = .ok (.getfield 17, 3) := by decide +kernel
theorem dX5_isHeld_4 : decode cX5_isHeld 4 = .ok (.iload_n 1, 1) := by decide +kernel
theorem dX5_isHeld_5 : decode cX5_isHeld 5 = .ok (.iaload, 1) := by decide +kernel
theorem dX5_isHeld_6 : decode cX5_isHeld 6 = .ok (.tableswitch 100 0 4 #[34, 100, 100, 58, 85], 34) := by decide +kernel
theorem dX5_isHeld_40 : decode cX5_isHeld 40 = .ok (.dload 6, 2) := by decide +kernel
theorem dX5_isHeld_42 : decode cX5_isHeld 42 = .ok (.dconst 1, 1) := by decide +kernel
theorem dX5_isHeld_43 : decode cX5_isHeld 43 = .ok (.dcmp .l, 1) := by decide +kernel
theorem dX5_isHeld_44 : decode cX5_isHeld 44 = .ok (.ifCond .lt 18, 3) := by decide +kernel
theorem dX5_isHeld_47 : decode cX5_isHeld 47 = .ok (.dload_n 2, 1) := by decide +kernel
theorem dX5_isHeld_48 : decode cX5_isHeld 48 = .ok (.aload_n 0, 1) := by decide +kernel
theorem dX5_isHeld_49 : decode cX5_isHeld 49 = .ok (.getfield 23, 3) := by decide +kernel
theorem dX5_isHeld_52 : decode cX5_isHeld 52 = .ok (.iload_n 1, 1) := by decide +kernel
theorem dX5_isHeld_53 : decode cX5_isHeld 53 = .ok (.daload, 1) := by decide +kernel
theorem dX5_isHeld_54 : decode cX5_isHeld 54 = .ok (.dcmp .g, 1) := by decide +kernel
theorem dX5_isHeld_55 : decode cX5_isHeld 55 = .ok (.ifCond .gt 7, 3) := by decide +kernel
theorem dX5_isHeld_58 : decode cX5_isHeld 58 = .ok (.iconst 1, 1) := by decide +kernel
theorem dX5_isHeld_59 : decode cX5_isHeld 59 = .ok (.goto 4, 3) := by decide +kernel
theorem dX5_isHeld_62 : decode cX5_isHeld 62 = .ok (.iconst 0, 1) := by decide +kernel
theorem dX5_isHeld_63 : decode cX5_isHeld 63 = .ok (.ireturn, 1) := by decide +kernel
theorem dX5_isHeld_64 : decode cX5_isHeld 64 = .ok (.dload 6, 2) := by decide +kernel
theorem dX5_isHeld_66 : decode cX5_isHeld 66 = .ok (.ldc2_w 93, 3) := by decide +kernel
theorem dX5_isHeld_69 : decode cX5_isHeld 69 = .ok (.dcmp .l, 1) := by decide +kernel
theorem dX5_isHeld_70 : decode cX5_isHeld 70 = .ok (.ifCond .lt 19, 3) := by decide +kernel
theorem dX5_isHeld_73 : decode cX5_isHeld 73 = .ok (.dload 4, 2) := by decide +kernel
theorem dX5_isHeld_75 : decode cX5_isHeld 75 = .ok (.aload_n 0, 1) := by decide +kernel
theorem dX5_isHeld_76 : decode cX5_isHeld 76 = .ok (.getfield 27, 3) := by decide +kernel
theorem dX5_isHeld_79 : decode cX5_isHeld 79 = .ok (.iload_n 1, 1) := by decide +kernel
theorem dX5_isHeld_80 : decode cX5_isHeld 80 = .ok (.daload, 1) := by decide +kernel
theorem dX5_isHeld_81 : decode cX5_isHeld 81 = .ok (.dcmp .l, 1) := by decide +kernel
theorem dX5_isHeld_82 : decode cX5_isHeld 82 = .ok (.ifCond .lt 7, 3) := by decide +kernel
theorem dX5_isHeld_85 : decode cX5_isHeld 85 = .ok (.iconst 1, 1) := by decide +kernel
theorem dX5_isHeld_86 : decode cX5_isHeld 86 = .ok (.goto 4, 3) := by decide +kernel
theorem dX5_isHeld_89 : decode cX5_isHeld 89 = .ok (.iconst 0, 1) := by decide +kernel
theorem dX5_isHeld_90 : decode cX5_isHeld 90 = .ok (.ireturn, 1) := by decide +kernel
theorem dX5_isHeld_91 : decode cX5_isHeld 91 = .ok (.dload 6, 2) := by decide +kernel
theorem dX5_isHeld_93 : decode cX5_isHeld 93 = .ok (.ldc2_w 95, 3) := by decide +kernel
theorem dX5_isHeld_96 : decode cX5_isHeld 96 = .ok (.dcmp .g, 1) := by decide +kernel
theorem dX5_isHeld_97 : decode cX5_isHeld 97 = .ok (.ifCond .gt 7, 3) := by decide +kernel
theorem dX5_isHeld_100 : decode cX5_isHeld 100 = .ok (.iconst 1, 1) := by decide +kernel
theorem dX5_isHeld_101 : decode cX5_isHeld 101 = .ok (.goto 4, 3) := by decide +kernel
theorem dX5_isHeld_104 : decode cX5_isHeld 104 = .ok (.iconst 0, 1) := by decide +kernel
theorem dX5_isHeld_105 : decode cX5_isHeld 105 = .ok (.ireturn, 1) := by decide +kernel
theorem dX5_isHeld_106 : decode cX5_isHeld 106 = .ok (.dload 6, 2) := by decide +kernel
theorem dX5_isHeld_108 : decode cX5_isHeld 108 = .ok (.dconst 1, 1) := by decide +kernel
theorem dX5_isHeld_109 : decode cX5_isHeld 109 = .ok (.dcmp .l, 1) := by decide +kernel
theorem dX5_isHeld_110 : decode cX5_isHeld 110 = .ok (.ifCond .lt 30, 3) := by decide +kernel
theorem dX5_isHeld_113 : decode cX5_isHeld 113 = .ok (.dload_n 2, 1) := by decide +kernel
theorem dX5_isHeld_114 : decode cX5_isHeld 114 = .ok (.aload_n 0, 1) := by decide +kernel
theorem dX5_isHeld_115 : decode cX5_isHeld 115 = .ok (.getfield 23, 3) := by decide +kernel
theorem dX5_isHeld_118 : decode cX5_isHeld 118 = .ok (.iload_n 1, 1) := by decide +kernel
theorem dX5_isHeld_119 : decode cX5_isHeld 119 = .ok (.daload, 1) := by decide +kernel
theorem dX5_isHeld_120 : decode cX5_isHeld 120 = .ok (.dcmp .l, 1) := by decide +kernel
theorem dX5_isHeld_121 : decode cX5_isHeld 121 = .ok (.ifCond .lt 19, 3) := by decide +kernel
theorem dX5_isHeld_124 : decode cX5_isHeld 124 = .ok (.dload 4, 2) := by decide +kernel
theorem dX5_isHeld_126 : decode cX5_isHeld 126 = .ok (.aload_n 0, 1) := by decide +kernel
theorem dX5_isHeld_127 : decode cX5_isHeld 127 = .ok (.getfield 27, 3) := by decide +kernel
theorem dX5_isHeld_130 : decode cX5_isHeld 130 = .ok (.iload_n 1, 1) := by decide +kernel
theorem dX5_isHeld_131 : decode cX5_isHeld 131 = .ok (.daload, 1) := by decide +kernel
theorem dX5_isHeld_132 : decode cX5_isHeld 132 = .ok (.dcmp .l, 1) := by decide +kernel
theorem dX5_isHeld_133 : decode cX5_isHeld 133 = .ok (.ifCond .lt 7, 3) := by decide +kernel
theorem dX5_isHeld_136 : decode cX5_isHeld 136 = .ok (.iconst 1, 1) := by decide +kernel
theorem dX5_isHeld_137 : decode cX5_isHeld 137 = .ok (.goto 4, 3) := by decide +kernel
theorem dX5_isHeld_140 : decode cX5_isHeld 140 = .ok (.iconst 0, 1) := by decide +kernel
theorem dX5_isHeld_141 : decode cX5_isHeld 141 = .ok (.ireturn, 1) := by decide +kernel
theorem dX5_tick_0 : decode cX5_tick 0 = .ok (.aload_n 0, 1) := by decide +kernel
theorem dX5_tick_1 : decode cX5_tick 1 = .ok (.iload_n 1, 1) := by decide +kernel
theorem dX5_tick_2 : decode cX5_tick 2 = .ok (.invokevirtual 89, 3) := by decide +kernel
theorem dX5_tick_5 : decode cX5_tick 5 = .ok (.ifCond .eq 51, 3) := by decide +kernel
theorem dX5_tick_8 : decode cX5_tick 8 = .ok (.dload_n 2, 1) := by decide +kernel
theorem dX5_tick_9 : decode cX5_tick 9 = .ok (.dconst 0, 1) := by decide +kernel
theorem dX5_tick_10 : decode cX5_tick 10 = .ok (.dcmp .l, 1) := by decide +kernel
theorem dX5_tick_11 : decode cX5_tick 11 = .ok (.ifCond .lt 45, 3) := by decide +kernel
theorem dX5_tick_14 : decode cX5_tick 14 = .ok (.dload_n 2, 1) := by decide +kernel
theorem dX5_tick_15 : decode cX5_tick 15 = .ok (.ldc2_w 97, 3) := by decide +kernel
theorem dX5_tick_18 : decode cX5_tick 18 = .ok (.dcmp .g, 1) := by decide +kernel
theorem dX5_tick_19 : decode cX5_tick 19 = .ok (.ifCond .gt 37, 3) := by decide +kernel
theorem dX5_tick_22 : decode cX5_tick 22 = .ok (.dload 6, 2) := by decide +kernel
theorem dX5_tick_24 : decode cX5_tick 24 = .ok (.dconst 0, 1) := by decide +kernel
theorem dX5_tick_25 : decode cX5_tick 25 = .ok (.dcmp .l, 1) := by decide +kernel
theorem dX5_tick_26 : decode cX5_tick 26 = .ok (.ifCond .lt 30, 3) := by decide +kernel
theorem dX5_tick_29 : decode cX5_tick 29 = .ok (.dload 6, 2) := by decide +kernel
theorem dX5_tick_31 : decode cX5_tick 31 = .ok (.ldc2_w 97, 3) := by decide +kernel
theorem dX5_tick_34 : decode cX5_tick 34 = .ok (.dcmp .g, 1) := by decide +kernel
theorem dX5_tick_35 : decode cX5_tick 35 = .ok (.ifCond .gt 21, 3) := by decide +kernel
theorem dX5_tick_38 : decode cX5_tick 38 = .ok (.dload 4, 2) := by decide +kernel
theorem dX5_tick_40 : decode cX5_tick 40 = .ok (.ldc2_w 99, 3) := by decide +kernel
theorem dX5_tick_43 : decode cX5_tick 43 = .ok (.dcmp .l, 1) := by decide +kernel
theorem dX5_tick_44 : decode cX5_tick 44 = .ok (.ifCond .lt 12, 3) := by decide +kernel
theorem dX5_tick_47 : decode cX5_tick 47 = .ok (.dload 4, 2) := by decide +kernel
theorem dX5_tick_49 : decode cX5_tick 49 = .ok (.ldc2_w 101, 3) := by decide +kernel
theorem dX5_tick_52 : decode cX5_tick 52 = .ok (.dcmp .g, 1) := by decide +kernel
theorem dX5_tick_53 : decode cX5_tick 53 = .ok (.ifCond .le 5, 3) := by decide +kernel
theorem dX5_tick_56 : decode cX5_tick 56 = .ok (.iconst (-1), 1) := by decide +kernel
theorem dX5_tick_57 : decode cX5_tick 57 = .ok (.ireturn, 1) := by decide +kernel
theorem dX5_tick_58 : decode cX5_tick 58 = .ok (.aload_n 0, 1) := by decide +kernel
theorem dX5_tick_59 : decode cX5_tick 59 = .ok (.iload_n 1, 1) := by decide +kernel
theorem dX5_tick_60 : decode cX5_tick 60 = .ok (.invokevirtual 103, 3) := by decide +kernel
theorem dX5_tick_63 : decode cX5_tick 63 = .ok (.ifCond .ne 10, 3) := by decide +kernel
theorem dX5_tick_66 : decode cX5_tick 66 = .ok (.aload_n 0, 1) := by decide +kernel
theorem dX5_tick_67 : decode cX5_tick 67 = .ok (.getfield 36, 3) := by decide +kernel
theorem dX5_tick_70 : decode cX5_tick 70 = .ok (.iload_n 1, 1) := by decide +kernel
theorem dX5_tick_71 : decode cX5_tick 71 = .ok (.iaload, 1) := by decide +kernel
theorem dX5_tick_72 : decode cX5_tick 72 = .ok (.ireturn, 1) := by decide +kernel
theorem dX5_tick_73 : decode cX5_tick 73 = .ok (.aload_n 0, 1) := by decide +kernel
theorem dX5_tick_74 : decode cX5_tick 74 = .ok (.iload_n 1, 1) := by decide +kernel
theorem dX5_tick_75 : decode cX5_tick 75 = .ok (.invokevirtual 106, 3) := by decide +kernel
theorem dX5_tick_78 : decode cX5_tick 78 = .ok (.istore 8, 2) := by decide +kernel
theorem dX5_tick_80 : decode cX5_tick 80 = .ok (.aload_n 0, 1) := by decide +kernel
theorem dX5_tick_81 : decode cX5_tick 81 = .ok (.getfield 17, 3) := by decide +kernel
theorem dX5_tick_84 : decode cX5_tick 84 = .ok (.iload 8, 2) := by decide +kernel
theorem dX5_tick_86 : decode cX5_tick 86 = .ok (.iaload, 1) := by decide +kernel
theorem dX5_tick_87 : decode cX5_tick 87 = .ok (.ifCond .eq 14, 3) := by decide +kernel
theorem dX5_tick_90 : decode cX5_tick 90 = .ok (.aload_n 0, 1) := by decide +kernel
theorem dX5_tick_91 : decode cX5_tick 91 = .ok (.getfield 17, 3) := by decide +kernel
theorem dX5_tick_94 : decode cX5_tick 94 = .ok (.iload 8, 2) := by decide +kernel
theorem dX5_tick_96 : decode cX5_tick 96 = .ok (.iaload, 1) := by decide +kernel
theorem dX5_tick_97 : decode cX5_tick 97 = .ok (.iconst 4, 1) := by decide +kernel
theorem dX5_tick_98 : decode cX5_tick 98 = .ok (.if_icmp .ne 7, 3) := by decide +kernel
theorem dX5_tick_101 : decode cX5_tick 101 = .ok (.iconst 1, 1) := by decide +kernel
theorem dX5_tick_102 : decode cX5_tick 102 = .ok (.goto 4, 3) := by decide +kernel
theorem dX5_tick_105 : decode cX5_tick 105 = .ok (.iconst 0, 1) := by decide +kernel
theorem dX5_tick_106 : decode cX5_tick 106 = .ok (.istore 9, 2) := by decide +kernel
theorem dX5_tick_108 : decode cX5_tick 108 = .ok (.aload_n 0, 1) := by decide +kernel
theorem dX5_tick_109 : decode cX5_tick 109 = .ok (.getfield 36, 3) := by decide +kernel
theorem dX5_tick_112 : decode cX5_tick 112 = .ok (.iload_n 1, 1) := by decide +kernel
theorem dX5_tick_113 : decode cX5_tick 113 = .ok (.iaload, 1) := by decide +kernel
theorem dX5_tick_114 : decode cX5_tick 114 = .ok (.ifCond .ne 7, 3) := by decide +kernel
theorem dX5_tick_117 : decode cX5_tick 117 = .ok (.iconst 1, 1) := by decide +kernel
theorem dX5_tick_118 : decode cX5_tick 118 = .ok (.goto 4, 3) := by decide +kernel
theorem dX5_tick_121 : decode cX5_tick 121 = .ok (.iconst 0, 1) := by decide +kernel
theorem dX5_tick_122 : decode cX5_tick 122 = .ok (.istore 10, 2) := by decide +kernel
theorem dX5_tick_124 : decode cX5_tick 124 = .ok (.iload 10, 2) := by decide +kernel
theorem dX5_tick_126 : decode cX5_tick 126 = .ok (.ifCond .ne 21, 3) := by decide +kernel
theorem dX5_tick_129 : decode cX5_tick 129 = .ok (.aload_n 0, 1) := by decide +kernel
theorem dX5_tick_130 : decode cX5_tick 130 = .ok (.iload 8, 2) := by decide +kernel
theorem dX5_tick_132 : decode cX5_tick 132 = .ok (.dload_n 2, 1) := by decide +kernel
theorem dX5_tick_133 : decode cX5_tick 133 = .ok (.dload 4, 2) := by decide +kernel
theorem dX5_tick_135 : decode cX5_tick 135 = .ok (.dload 6, 2) := by decide +kernel
theorem dX5_tick_137 : decode cX5_tick 137 = .ok (.invokevirtual 110, 3) := by decide +kernel
theorem dX5_tick_140 : decode cX5_tick 140 = .ok (.ifCond .eq 7, 3) := by decide +kernel
theorem dX5_tick_143 : decode cX5_tick 143 = .ok (.iconst 1, 1) := by decide +kernel
theorem dX5_tick_144 : decode cX5_tick 144 = .ok (.goto 4, 3) := by decide +kernel
theorem dX5_tick_147 : decode cX5_tick 147 = .ok (.iconst 0, 1) := by decide +kernel
theorem dX5_tick_148 : decode cX5_tick 148 = .ok (.istore 11, 2) := by decide +kernel
theorem dX5_tick_150 : decode cX5_tick 150 = .ok (.iload 9, 2) := by decide +kernel
theorem dX5_tick_152 : decode cX5_tick 152 = .ok (.ifCond .eq 21, 3) := by decide +kernel
theorem dX5_tick_155 : decode cX5_tick 155 = .ok (.aload_n 0, 1) := by decide +kernel
theorem dX5_tick_156 : decode cX5_tick 156 = .ok (.getfield 60, 3) := by decide +kernel
theorem dX5_tick_159 : decode cX5_tick 159 = .ok (.iload_n 1, 1) := by decide +kernel
theorem dX5_tick_160 : decode cX5_tick 160 = .ok (.aload_n 0, 1) := by decide +kernel
theorem dX5_tick_161 : decode cX5_tick 161 = .ok (.getfield 60, 3) := by decide +kernel
theorem dX5_tick_164 : decode cX5_tick 164 = .ok (.iload_n 1, 1) := by decide +kernel
theorem dX5_tick_165 : decode cX5_tick 165 = .ok (.daload, 1) := by decide +kernel
theorem dX5_tick_166 : decode cX5_tick 166 = .ok (.dload 6, 2) := by decide +kernel
theorem dX5_tick_168 : decode cX5_tick 168 = .ok (.dadd, 1) := by decide +kernel
theorem dX5_tick_169 : decode cX5_tick 169 = .ok (.dastore, 1) := by decide +kernel
theorem dX5_tick_170 : decode cX5_tick 170 = .ok (.goto 56, 3) := by decide +kernel
theorem dX5_tick_173 : decode cX5_tick 173 = .ok (.aload_n 0, 1) := by decide +kernel
theorem dX5_tick_174 : decode cX5_tick 174 = .ok (.getfield 63, 3) := by decide +kernel
theorem dX5_tick_177 : decode cX5_tick 177 = .ok (.iload_n 1, 1) := by decide +kernel
theorem dX5_tick_178 : decode cX5_tick 178 = .ok (.aload_n 0, 1) := by decide +kernel
theorem dX5_tick_179 : decode cX5_tick 179 = .ok (.getfield 63, 3) := by decide +kernel
theorem dX5_tick_182 : decode cX5_tick 182 = .ok (.iload_n 1, 1) := by decide +kernel
theorem dX5_tick_183 : decode cX5_tick 183 = .ok (.daload, 1) := by decide +kernel
theorem dX5_tick_184 : decode cX5_tick 184 = .ok (.dload 6, 2) := by decide +kernel
theorem dX5_tick_186 : decode cX5_tick 186 = .ok (.dadd, 1) := by decide +kernel
theorem dX5_tick_187 : decode cX5_tick 187 = .ok (.dastore, 1) := by decide +kernel
theorem dX5_tick_188 : decode cX5_tick 188 = .ok (.aload_n 0, 1) := by decide +kernel
theorem dX5_tick_189 : decode cX5_tick 189 = .ok (.getfield 66, 3) := by decide +kernel
theorem dX5_tick_192 : decode cX5_tick 192 = .ok (.iload_n 1, 1) := by decide +kernel
theorem dX5_tick_193 : decode cX5_tick 193 = .ok (.aload_n 0, 1) := by decide +kernel
theorem dX5_tick_194 : decode cX5_tick 194 = .ok (.getfield 66, 3) := by decide +kernel
theorem dX5_tick_197 : decode cX5_tick 197 = .ok (.iload_n 1, 1) := by decide +kernel
theorem dX5_tick_198 : decode cX5_tick 198 = .ok (.daload, 1) := by decide +kernel
theorem dX5_tick_199 : decode cX5_tick 199 = .ok (.iload 10, 2) := by decide +kernel
theorem dX5_tick_201 : decode cX5_tick 201 = .ok (.ifCond .eq 7, 3) := by decide +kernel
theorem dX5_tick_204 : decode cX5_tick 204 = .ok (.dconst 0, 1) := by decide +kernel
theorem dX5_tick_205 : decode cX5_tick 205 = .ok (.goto 19, 3) := by decide +kernel
theorem dX5_tick_208 : decode cX5_tick 208 = .ok (.iload 11, 2) := by decide +kernel
theorem dX5_tick_210 : decode cX5_tick 210 = .ok (.ifCond .eq 8, 3) := by decide +kernel
theorem dX5_tick_213 : decode cX5_tick 213 = .ok (.dload 6, 2) := by decide +kernel
theorem dX5_tick_215 : decode cX5_tick 215 = .ok (.goto 9, 3) := by decide +kernel
theorem dX5_tick_218 : decode cX5_tick 218 = .ok (.dload 6, 2) := by decide +kernel
theorem dX5_tick_220 : decode cX5_tick 220 = .ok (.ldc2_w 93, 3) := by decide +kernel
theorem dX5_tick_223 : decode cX5_tick 223 = .ok (.dmul, 1) := by decide +kernel
theorem dX5_tick_224 : decode cX5_tick 224 = .ok (.dadd, 1) := by decide +kernel
theorem dX5_tick_225 : decode cX5_tick 225 = .ok (.dastore, 1) := by decide +kernel
theorem dX5_tick_226 : decode cX5_tick 226 = .ok (.aload_n 0, 1) := by decide +kernel
theorem dX5_tick_227 : decode cX5_tick 227 = .ok (.getfield 42, 3) := by decide +kernel
theorem dX5_tick_230 : decode cX5_tick 230 = .ok (.iload_n 1, 1) := by decide +kernel
theorem dX5_tick_231 : decode cX5_tick 231 = .ok (.dup2, 1) := by decide +kernel
theorem dX5_tick_232 : decode cX5_tick 232 = .ok (.iaload, 1) := by decide +kernel
theorem dX5_tick_233 : decode cX5_tick 233 = .ok (.iconst 1, 1) := by decide +kernel
theorem dX5_tick_234 : decode cX5_tick 234 = .ok (.iadd, 1) := by decide +kernel
theorem dX5_tick_235 : decode cX5_tick 235 = .ok (.iastore, 1) := by decide +kernel
theorem dX5_tick_236 : decode cX5_tick 236 = .ok (.iload 10, 2) := by decide +kernel
theorem dX5_tick_238 : decode cX5_tick 238 = .ok (.ifCond .eq 97, 3) := by decide +kernel
theorem dX5_tick_241 : decode cX5_tick 241 = .ok (.iload 9, 2) := by decide +kernel
theorem dX5_tick_243 : decode cX5_tick 243 = .ok (.ifCond .eq 22, 3) := by decide +kernel
theorem dX5_tick_246 : decode cX5_tick 246 = .ok (.dload_n 2, 1) := by decide +kernel
theorem dX5_tick_247 : decode cX5_tick 247 = .ok (.aload_n 0, 1) := by decide +kernel
theorem dX5_tick_248 : decode cX5_tick 248 = .ok (.getfield 54, 3) := by decide +kernel
theorem dX5_tick_251 : decode cX5_tick 251 = .ok (.iload_n 1, 1) := by decide +kernel
theorem dX5_tick_252 : decode cX5_tick 252 = .ok (.daload, 1) := by decide +kernel
theorem dX5_tick_253 : decode cX5_tick 253 = .ok (.dcmp .g, 1) := by decide +kernel
theorem dX5_tick_254 : decode cX5_tick 254 = .ok (.ifCond .gt 7, 3) := by decide +kernel
theorem dX5_tick_257 : decode cX5_tick 257 = .ok (.iconst 1, 1) := by decide +kernel
theorem dX5_tick_258 : decode cX5_tick 258 = .ok (.goto 23, 3) := by decide +kernel
theorem dX5_tick_261 : decode cX5_tick 261 = .ok (.iconst 0, 1) := by decide +kernel
theorem dX5_tick_262 : decode cX5_tick 262 = .ok (.goto 19, 3) := by decide +kernel
theorem dX5_tick_265 : decode cX5_tick 265 = .ok (.dload_n 2, 1) := by decide +kernel
theorem dX5_tick_266 : decode cX5_tick 266 = .ok (.aload_n 0, 1) := by decide +kernel
theorem dX5_tick_267 : decode cX5_tick 267 = .ok (.getfield 54, 3) := by decide +kernel
theorem dX5_tick_270 : decode cX5_tick 270 = .ok (.iload_n 1, 1) := by decide +kernel
theorem dX5_tick_271 : decode cX5_tick 271 = .ok (.daload, 1) := by decide +kernel
theorem dX5_tick_272 : decode cX5_tick 272 = .ok (.dcmp .l, 1) := by decide +kernel
theorem dX5_tick_273 : decode cX5_tick 273 = .ok (.ifCond .lt 7, 3) := by decide +kernel
theorem dX5_tick_276 : decode cX5_tick 276 = .ok (.iconst 1, 1) := by decide +kernel
theorem dX5_tick_277 : decode cX5_tick 277 = .ok (.goto 4, 3) := by decide +kernel
theorem dX5_tick_280 : decode cX5_tick 280 = .ok (.iconst 0, 1) := by decide +kernel
theorem dX5_tick_281 : decode cX5_tick 281 = .ok (.istore 12, 2) := by decide +kernel
theorem dX5_tick_283 : decode cX5_tick 283 = .ok (.aload_n 0, 1) := by decide +kernel
theorem dX5_tick_284 : decode cX5_tick 284 = .ok (.getfield 51, 3) := by decide +kernel
theorem dX5_tick_287 : decode cX5_tick 287 = .ok (.iload_n 1, 1) := by decide +kernel
theorem dX5_tick_288 : decode cX5_tick 288 = .ok (.iload 12, 2) := by decide +kernel
theorem dX5_tick_290 : decode cX5_tick 290 = .ok (.ifCond .eq 14, 3) := by decide +kernel
theorem dX5_tick_293 : decode cX5_tick 293 = .ok (.aload_n 0, 1) := by decide +kernel
theorem dX5_tick_294 : decode cX5_tick 294 = .ok (.getfield 51, 3) := by decide +kernel
theorem dX5_tick_297 : decode cX5_tick 297 = .ok (.iload_n 1, 1) := by decide +kernel
theorem dX5_tick_298 : decode cX5_tick 298 = .ok (.iaload, 1) := by decide +kernel
theorem dX5_tick_299 : decode cX5_tick 299 = .ok (.iconst 1, 1) := by decide +kernel
theorem dX5_tick_300 : decode cX5_tick 300 = .ok (.iadd, 1) := by decide +kernel
theorem dX5_tick_301 : decode cX5_tick 301 = .ok (.goto 4, 3) := by decide +kernel
theorem dX5_tick_304 : decode cX5_tick 304 = .ok (.iconst 0, 1) := by decide +kernel
theorem dX5_tick_305 : decode cX5_tick 305 = .ok (.iastore, 1) := by decide +kernel
theorem dX5_tick_306 : decode cX5_tick 306 = .ok (.aload_n 0, 1) := by decide +kernel
theorem dX5_tick_307 : decode cX5_tick 307 = .ok (.getfield 36, 3) := by decide +kernel
theorem dX5_tick_310 : decode cX5_tick 310 = .ok (.iload_n 1, 1) := by decide +kernel
theorem dX5_tick_311 : decode cX5_tick 311 = .ok (.aload_n 0, 1) := by decide +kernel
theorem dX5_tick_312 : decode cX5_tick 312 = .ok (.getfield 51, 3) := by decide +kernel
theorem dX5_tick_315 : decode cX5_tick 315 = .ok (.iload_n 1, 1) := by decide +kernel
theorem dX5_tick_316 : decode cX5_tick 316 = .ok (.iaload, 1) := by decide +kernel
theorem dX5_tick_317 : decode cX5_tick 317 = .ok (.aload_n 0, 1) := by decide +kernel
theorem dX5_tick_318 : decode cX5_tick 318 = .ok (.getfield 57, 3) := by decide +kernel
theorem dX5_tick_321 : decode cX5_tick 321 = .ok (.iload_n 1, 1) := by decide +kernel
theorem dX5_tick_322 : decode cX5_tick 322 = .ok (.iaload, 1) := by decide +kernel
theorem dX5_tick_323 : decode cX5_tick 323 = .ok (.if_icmp .lt 7, 3) := by decide +kernel
theorem dX5_tick_326 : decode cX5_tick 326 = .ok (.iconst 1, 1) := by decide +kernel
theorem dX5_tick_327 : decode cX5_tick 327 = .ok (.goto 4, 3) := by decide +kernel
theorem dX5_tick_330 : decode cX5_tick 330 = .ok (.iconst 0, 1) := by decide +kernel
theorem dX5_tick_331 : decode cX5_tick 331 = .ok (.iastore, 1) := by decide +kernel
theorem dX5_tick_332 : decode cX5_tick 332 = .ok (.goto 75, 3) := by decide +kernel
theorem dX5_tick_335 : decode cX5_tick 335 = .ok (.iload 11, 2) := by decide +kernel
theorem dX5_tick_337 : decode cX5_tick 337 = .ok (.ifCond .eq 44, 3) := by decide +kernel
theorem dX5_tick_340 : decode cX5_tick 340 = .ok (.aload_n 0, 1) := by decide +kernel
theorem dX5_tick_341 : decode cX5_tick 341 = .ok (.getfield 48, 3) := by decide +kernel
theorem dX5_tick_344 : decode cX5_tick 344 = .ok (.iload_n 1, 1) := by decide +kernel
theorem dX5_tick_345 : decode cX5_tick 345 = .ok (.iconst 0, 1) := by decide +kernel
theorem dX5_tick_346 : decode cX5_tick 346 = .ok (.iastore, 1) := by decide +kernel
theorem dX5_tick_347 : decode cX5_tick 347 = .ok (.aload_n 0, 1) := by decide +kernel
theorem dX5_tick_348 : decode cX5_tick 348 = .ok (.getfield 45, 3) := by decide +kernel
theorem dX5_tick_351 : decode cX5_tick 351 = .ok (.iload_n 1, 1) := by decide +kernel
theorem dX5_tick_352 : decode cX5_tick 352 = .ok (.dup2, 1) := by decide +kernel
theorem dX5_tick_353 : decode cX5_tick 353 = .ok (.iaload, 1) := by decide +kernel
theorem dX5_tick_354 : decode cX5_tick 354 = .ok (.iconst 1, 1) := by decide +kernel
theorem dX5_tick_355 : decode cX5_tick 355 = .ok (.iadd, 1) := by decide +kernel
theorem dX5_tick_356 : decode cX5_tick 356 = .ok (.iastore, 1) := by decide +kernel
theorem dX5_tick_357 : decode cX5_tick 357 = .ok (.aload_n 0, 1) := by decide +kernel
theorem dX5_tick_358 : decode cX5_tick 358 = .ok (.getfield 45, 3) := by decide +kernel
theorem dX5_tick_361 : decode cX5_tick 361 = .ok (.iload_n 1, 1) := by decide +kernel
theorem dX5_tick_362 : decode cX5_tick 362 = .ok (.iaload, 1) := by decide +kernel
theorem dX5_tick_363 : decode cX5_tick 363 = .ok (.aload_n 0, 1) := by decide +kernel
theorem dX5_tick_364 : decode cX5_tick 364 = .ok (.getfield 20, 3) := by decide +kernel
theorem dX5_tick_367 : decode cX5_tick 367 = .ok (.iload 8, 2) := by decide +kernel
theorem dX5_tick_369 : decode cX5_tick 369 = .ok (.iaload, 1) := by decide +kernel
theorem dX5_tick_370 : decode cX5_tick 370 = .ok (.if_icmp .ne 37, 3) := by decide +kernel
theorem dX5_tick_373 : decode cX5_tick 373 = .ok (.aload_n 0, 1) := by decide +kernel
theorem dX5_tick_374 : decode cX5_tick 374 = .ok (.iload_n 1, 1) := by decide +kernel
theorem dX5_tick_375 : decode cX5_tick 375 = .ok (.invokevirtual 114, 3) := by decide +kernel
theorem dX5_tick_378 : decode cX5_tick 378 = .ok (.goto 29, 3) := by decide +kernel
theorem dX5_tick_381 : decode cX5_tick 381 = .ok (.aload_n 0, 1) := by decide +kernel
theorem dX5_tick_382 : decode cX5_tick 382 = .ok (.getfield 48, 3) := by decide +kernel
theorem dX5_tick_385 : decode cX5_tick 385 = .ok (.iload_n 1, 1) := by decide +kernel
theorem dX5_tick_386 : decode cX5_tick 386 = .ok (.dup2, 1) := by decide +kernel
theorem dX5_tick_387 : decode cX5_tick 387 = .ok (.iaload, 1) := by decide +kernel
theorem dX5_tick_388 : decode cX5_tick 388 = .ok (.iconst 1, 1) := by decide +kernel
theorem dX5_tick_389 : decode cX5_tick 389 = .ok (.iadd, 1) := by decide +kernel
theorem dX5_tick_390 : decode cX5_tick 390 = .ok (.iastore, 1) := by decide +kernel
theorem dX5_tick_391 : decode cX5_tick 391 = .ok (.aload_n 0, 1) := by decide +kernel
theorem dX5_tick_392 : decode cX5_tick 392 = .ok (.getfield 48, 3) := by decide +kernel
theorem dX5_tick_395 : decode cX5_tick 395 = .ok (.iload_n 1, 1) := by decide +kernel
theorem dX5_tick_396 : decode cX5_tick 396 = .ok (.iaload, 1) := by decide +kernel
theorem dX5_tick_397 : decode cX5_tick 397 = .ok (.bipush 30, 2) := by decide +kernel
theorem dX5_tick_399 : decode cX5_tick 399 = .ok (.if_icmp .ne 8, 3) := by decide +kernel
theorem dX5_tick_402 : decode cX5_tick 402 = .ok (.aload_n 0, 1) := by decide +kernel
theorem dX5_tick_403 : decode cX5_tick 403 = .ok (.iload_n 1, 1) := by decide +kernel
theorem dX5_tick_404 : decode cX5_tick 404 = .ok (.invokevirtual 118, 3) := by decide +kernel
theorem dX5_tick_407 : decode cX5_tick 407 = .ok (.aload_n 0, 1) := by decide +kernel
theorem dX5_tick_408 : decode cX5_tick 408 = .ok (.getfield 36, 3) := by decide +kernel
theorem dX5_tick_411 : decode cX5_tick 411 = .ok (.iload_n 1, 1) := by decide +kernel
theorem dX5_tick_412 : decode cX5_tick 412 = .ok (.iaload, 1) := by decide +kernel
theorem dX5_tick_413 : decode cX5_tick 413 = .ok (.ireturn, 1) := by decide +kernel
theorem dX5_end_0 : decode cX5_end 0 = .ok (.aload_n 0, 1) := by decide +kernel
theorem dX5_end_1 : decode cX5_end 1 = .ok (.getfield 75, 3) := by decide +kernel
theorem dX5_end_4 : decode cX5_end 4 = .ok (.bipush 12, 2) := by decide +kernel
theorem dX5_end_6 : decode cX5_end 6 = .ok (.iload_n 1, 1) := by decide +kernel
theorem dX5_end_7 : decode cX5_end 7 = .ok (.imul, 1) := by decide +kernel
theorem dX5_end_8 : decode cX5_end 8 = .ok (.aload_n 0, 1) := by decide +kernel
theorem dX5_end_9 : decode cX5_end 9 = .ok (.getfield 39, 3) := by decide +kernel
theorem dX5_end_12 : decode cX5_end 12 = .ok (.iload_n 1, 1) := by decide +kernel
theorem dX5_end_13 : decode cX5_end 13 = .ok (.iaload, 1) := by decide +kernel
theorem dX5_end_14 : decode cX5_end 14 = .ok (.iadd, 1) := by decide +kernel
theorem dX5_end_15 : decode cX5_end 15 = .ok (.aload_n 0, 1) := by decide +kernel
theorem dX5_end_16 : decode cX5_end 16 = .ok (.getfield 42, 3) := by decide +kernel
theorem dX5_end_19 : decode cX5_end 19 = .ok (.iload_n 1, 1) := by decide +kernel
theorem dX5_end_20 : decode cX5_end 20 = .ok (.iaload, 1) := by decide +kernel
theorem dX5_end_21 : decode cX5_end 21 = .ok (.iastore, 1) := by decide +kernel
theorem dX5_end_22 : decode cX5_end 22 = .ok (.aload_n 0, 1) := by decide +kernel
theorem dX5_end_23 : decode cX5_end 23 = .ok (.getfield 39, 3) := by decide +kernel
theorem dX5_end_26 : decode cX5_end 26 = .ok (.iload_n 1, 1) := by decide +kernel
theorem dX5_end_27 : decode cX5_end 27 = .ok (.iaload, 1) := by decide +kernel
theorem dX5_end_28 : decode cX5_end 28 = .ok (.iconst 1, 1) := by decide +kernel
theorem dX5_end_29 : decode cX5_end 29 = .ok (.iadd, 1) := by decide +kernel
theorem dX5_end_30 : decode cX5_end 30 = .ok (.aload_n 0, 1) := by decide +kernel
theorem dX5_end_31 : decode cX5_end 31 = .ok (.getfield 9, 3) := by decide +kernel
theorem dX5_end_34 : decode cX5_end 34 = .ok (.aload_n 0, 1) := by decide +kernel
theorem dX5_end_35 : decode cX5_end 35 = .ok (.getfield 30, 3) := by decide +kernel
theorem dX5_end_38 : decode cX5_end 38 = .ok (.iload_n 1, 1) := by decide +kernel
theorem dX5_end_39 : decode cX5_end 39 = .ok (.iaload, 1) := by decide +kernel
theorem dX5_end_40 : decode cX5_end 40 = .ok (.iaload, 1) := by decide +kernel
theorem dX5_end_41 : decode cX5_end 41 = .ok (.if_icmp .ne 11, 3) := by decide +kernel
theorem dX5_end_44 : decode cX5_end 44 = .ok (.aload_n 0, 1) := by decide +kernel
theorem dX5_end_45 : decode cX5_end 45 = .ok (.getfield 36, 3) := by decide +kernel
theorem dX5_end_48 : decode cX5_end 48 = .ok (.iload_n 1, 1) := by decide +kernel
theorem dX5_end_49 : decode cX5_end 49 = .ok (.iconst 3, 1) := by decide +kernel
theorem dX5_end_50 : decode cX5_end 50 = .ok (.iastore, 1) := by decide +kernel
theorem dX5_end_51 : decode cX5_end 51 = .ok (.return_, 1) := by decide +kernel
theorem dX5_end_52 : decode cX5_end 52 = .ok (.aload_n 0, 1) := by decide +kernel
theorem dX5_end_53 : decode cX5_end 53 = .ok (.getfield 39, 3) := by decide +kernel
theorem dX5_end_56 : decode cX5_end 56 = .ok (.iload_n 1, 1) := by decide +kernel
theorem dX5_end_57 : decode cX5_end 57 = .ok (.dup2, 1) := by decide +kernel
theorem dX5_end_58 : decode cX5_end 58 = .ok (.iaload, 1) := by decide +kernel
theorem dX5_end_59 : decode cX5_end 59 = .ok (.iconst 1, 1) := by decide +kernel
theorem dX5_end_60 : decode cX5_end 60 = .ok (.iadd, 1) := by decide +kernel
theorem dX5_end_61 : decode cX5_end 61 = .ok (.iastore, 1) := by decide +kernel
theorem dX5_end_62 : decode cX5_end 62 = .ok (.aload_n 0, 1) := by decide +kernel
theorem dX5_end_63 : decode cX5_end 63 = .ok (.getfield 72, 3) := by decide +kernel
theorem dX5_end_66 : decode cX5_end 66 = .ok (.bipush 12, 2) := by decide +kernel
theorem dX5_end_68 : decode cX5_end 68 = .ok (.iload_n 1, 1) := by decide +kernel
theorem dX5_end_69 : decode cX5_end 69 = .ok (.imul, 1) := by decide +kernel
theorem dX5_end_70 : decode cX5_end 70 = .ok (.aload_n 0, 1) := by decide +kernel
theorem dX5_end_71 : decode cX5_end 71 = .ok (.getfield 39, 3) := by decide +kernel
theorem dX5_end_74 : decode cX5_end 74 = .ok (.iload_n 1, 1) := by decide +kernel
theorem dX5_end_75 : decode cX5_end 75 = .ok (.iaload, 1) := by decide +kernel
theorem dX5_end_76 : decode cX5_end 76 = .ok (.iadd, 1) := by decide +kernel
theorem dX5_end_77 : decode cX5_end 77 = .ok (.aload_n 0, 1) := by decide +kernel
theorem dX5_end_78 : decode cX5_end 78 = .ok (.getfield 42, 3) := by decide +kernel
theorem dX5_end_81 : decode cX5_end 81 = .ok (.iload_n 1, 1) := by decide +kernel
theorem dX5_end_82 : decode cX5_end 82 = .ok (.iaload, 1) := by decide +kernel
theorem dX5_end_83 : decode cX5_end 83 = .ok (.iastore, 1) := by decide +kernel
theorem dX5_end_84 : decode cX5_end 84 = .ok (.aload_n 0, 1) := by decide +kernel
theorem dX5_end_85 : decode cX5_end 85 = .ok (.getfield 75, 3) := by decide +kernel
theorem dX5_end_88 : decode cX5_end 88 = .ok (.bipush 12, 2) := by decide +kernel
theorem dX5_end_90 : decode cX5_end 90 = .ok (.iload_n 1, 1) := by decide +kernel
theorem dX5_end_91 : decode cX5_end 91 = .ok (.imul, 1) := by decide +kernel
theorem dX5_end_92 : decode cX5_end 92 = .ok (.aload_n 0, 1) := by decide +kernel
theorem dX5_end_93 : decode cX5_end 93 = .ok (.getfield 39, 3) := by decide +kernel
theorem dX5_end_96 : decode cX5_end 96 = .ok (.iload_n 1, 1) := by decide +kernel
theorem dX5_end_97 : decode cX5_end 97 = .ok (.iaload, 1) := by decide +kernel
theorem dX5_end_98 : decode cX5_end 98 = .ok (.iadd, 1) := by decide +kernel
theorem dX5_end_99 : decode cX5_end 99 = .ok (.iconst (-1), 1) := by decide +kernel
theorem dX5_end_100 : decode cX5_end 100 = .ok (.iastore, 1) := by decide +kernel
theorem dX5_end_101 : decode cX5_end 101 = .ok (.aload_n 0, 1) := by decide +kernel
theorem dX5_end_102 : decode cX5_end 102 = .ok (.getfield 45, 3) := by decide +kernel
theorem dX5_end_105 : decode cX5_end 105 = .ok (.iload_n 1, 1) := by decide +kernel
theorem dX5_end_106 : decode cX5_end 106 = .ok (.iconst 0, 1) := by decide +kernel
theorem dX5_end_107 : decode cX5_end 107 = .ok (.iastore, 1) := by decide +kernel
theorem dX5_end_108 : decode cX5_end 108 = .ok (.aload_n 0, 1) := by decide +kernel
theorem dX5_end_109 : decode cX5_end 109 = .ok (.getfield 48, 3) := by decide +kernel
theorem dX5_end_112 : decode cX5_end 112 = .ok (.iload_n 1, 1) := by decide +kernel
theorem dX5_end_113 : decode cX5_end 113 = .ok (.iconst 0, 1) := by decide +kernel
theorem dX5_end_114 : decode cX5_end 114 = .ok (.iastore, 1) := by decide +kernel
theorem dX5_end_115 : decode cX5_end 115 = .ok (.aload_n 0, 1) := by decide +kernel
theorem dX5_end_116 : decode cX5_end 116 = .ok (.getfield 51, 3) := by decide +kernel
theorem dX5_end_119 : decode cX5_end 119 = .ok (.iload_n 1, 1) := by decide +kernel
theorem dX5_end_120 : decode cX5_end 120 = .ok (.iconst 0, 1) := by decide +kernel
theorem dX5_end_121 : decode cX5_end 121 = .ok (.iastore, 1) := by decide +kernel
theorem dX5_end_122 : decode cX5_end 122 = .ok (.aload_n 0, 1) := by decide +kernel
theorem dX5_end_123 : decode cX5_end 123 = .ok (.getfield 36, 3) := by decide +kernel
theorem dX5_end_126 : decode cX5_end 126 = .ok (.iload_n 1, 1) := by decide +kernel
theorem dX5_end_127 : decode cX5_end 127 = .ok (.aload_n 0, 1) := by decide +kernel
theorem dX5_end_128 : decode cX5_end 128 = .ok (.getfield 57, 3) := by decide +kernel
theorem dX5_end_131 : decode cX5_end 131 = .ok (.iload_n 1, 1) := by decide +kernel
theorem dX5_end_132 : decode cX5_end 132 = .ok (.iaload, 1) := by decide +kernel
theorem dX5_end_133 : decode cX5_end 133 = .ok (.ifCond .le 7, 3) := by decide +kernel
theorem dX5_end_136 : decode cX5_end 136 = .ok (.iconst 0, 1) := by decide +kernel
theorem dX5_end_137 : decode cX5_end 137 = .ok (.goto 4, 3) := by decide +kernel
theorem dX5_end_140 : decode cX5_end 140 = .ok (.iconst 1, 1) := by decide +kernel
theorem dX5_end_141 : decode cX5_end 141 = .ok (.iastore, 1) := by decide +kernel
theorem dX5_end_142 : decode cX5_end 142 = .ok (.return_, 1) := by decide +kernel
theorem dX5_miss_0 : decode cX5_miss 0 = .ok (.bipush 12, 2) := by decide +kernel
theorem dX5_miss_2 : decode cX5_miss 2 = .ok (.iload_n 1, 1) := by decide +kernel
theorem dX5_miss_3 : decode cX5_miss 3 = .ok (.imul, 1) := by decide +kernel
theorem dX5_miss_4 : decode cX5_miss 4 = .ok (.aload_n 0, 1) := by decide +kernel
theorem dX5_miss_5 : decode cX5_miss 5 = .ok (.getfield 39, 3) := by decide +kernel
theorem dX5_miss_8 : decode cX5_miss 8 = .ok (.iload_n 1, 1) := by decide +kernel
theorem dX5_miss_9 : decode cX5_miss 9 = .ok (.iaload, 1) := by decide +kernel
theorem dX5_miss_10 : decode cX5_miss 10 = .ok (.iadd, 1) := by decide +kernel
theorem dX5_miss_11 : decode cX5_miss 11 = .ok (.istore_n 2, 1) := by decide +kernel
theorem dX5_miss_12 : decode cX5_miss 12 = .ok (.aload_n 0, 1) := by decide +kernel
theorem dX5_miss_13 : decode cX5_miss 13 = .ok (.getfield 45, 3) := by decide +kernel
theorem dX5_miss_16 : decode cX5_miss 16 = .ok (.iload_n 1, 1) := by decide +kernel
theorem dX5_miss_17 : decode cX5_miss 17 = .ok (.iconst 0, 1) := by decide +kernel
theorem dX5_miss_18 : decode cX5_miss 18 = .ok (.iastore, 1) := by decide +kernel
theorem dX5_miss_19 : decode cX5_miss 19 = .ok (.aload_n 0, 1) := by decide +kernel
theorem dX5_miss_20 : decode cX5_miss 20 = .ok (.getfield 48, 3) := by decide +kernel
theorem dX5_miss_23 : decode cX5_miss 23 = .ok (.iload_n 1, 1) := by decide +kernel
theorem dX5_miss_24 : decode cX5_miss 24 = .ok (.iconst 0, 1) := by decide +kernel
theorem dX5_miss_25 : decode cX5_miss 25 = .ok (.iastore, 1) := by decide +kernel
theorem dX5_miss_26 : decode cX5_miss 26 = .ok (.aload_n 0, 1) := by decide +kernel
theorem dX5_miss_27 : decode cX5_miss 27 = .ok (.getfield 69, 3) := by decide +kernel
theorem dX5_miss_30 : decode cX5_miss 30 = .ok (.iload_n 2, 1) := by decide +kernel
theorem dX5_miss_31 : decode cX5_miss 31 = .ok (.dup2, 1) := by decide +kernel
theorem dX5_miss_32 : decode cX5_miss 32 = .ok (.iaload, 1) := by decide +kernel
theorem dX5_miss_33 : decode cX5_miss 33 = .ok (.iconst 1, 1) := by decide +kernel
theorem dX5_miss_34 : decode cX5_miss 34 = .ok (.iadd, 1) := by decide +kernel
theorem dX5_miss_35 : decode cX5_miss 35 = .ok (.iastore, 1) := by decide +kernel
theorem dX5_miss_36 : decode cX5_miss 36 = .ok (.aload_n 0, 1) := by decide +kernel
theorem dX5_miss_37 : decode cX5_miss 37 = .ok (.getfield 69, 3) := by decide +kernel
theorem dX5_miss_40 : decode cX5_miss 40 = .ok (.iload_n 2, 1) := by decide +kernel
theorem dX5_miss_41 : decode cX5_miss 41 = .ok (.iaload, 1) := by decide +kernel
theorem dX5_miss_42 : decode cX5_miss 42 = .ok (.iconst 3, 1) := by decide +kernel
theorem dX5_miss_43 : decode cX5_miss 43 = .ok (.if_icmp .ne 22, 3) := by decide +kernel
theorem dX5_miss_46 : decode cX5_miss 46 = .ok (.aload_n 0, 1) := by decide +kernel
theorem dX5_miss_47 : decode cX5_miss 47 = .ok (.getfield 36, 3) := by decide +kernel
theorem dX5_miss_50 : decode cX5_miss 50 = .ok (.iload_n 1, 1) := by decide +kernel
theorem dX5_miss_51 : decode cX5_miss 51 = .ok (.iconst 2, 1) := by decide +kernel
theorem dX5_miss_52 : decode cX5_miss 52 = .ok (.iastore, 1) := by decide +kernel
theorem dX5_miss_53 : decode cX5_miss 53 = .ok (.aload_n 0, 1) := by decide +kernel
theorem dX5_miss_54 : decode cX5_miss 54 = .ok (.getfield 75, 3) := by decide +kernel
theorem dX5_miss_57 : decode cX5_miss 57 = .ok (.iload_n 2, 1) := by decide +kernel
theorem dX5_miss_58 : decode cX5_miss 58 = .ok (.aload_n 0, 1) := by decide +kernel
theorem dX5_miss_59 : decode cX5_miss 59 = .ok (.getfield 42, 3) := by decide +kernel
theorem dX5_miss_62 : decode cX5_miss 62 = .ok (.iload_n 1, 1) := by decide +kernel
theorem dX5_miss_63 : decode cX5_miss 63 = .ok (.iaload, 1) := by decide +kernel
theorem dX5_miss_64 : decode cX5_miss 64 = .ok (.iastore, 1) := by decide +kernel
theorem dX5_miss_65 : decode cX5_miss 65 = .ok (.return_, 1) := by decide +kernel
theorem dX5_state_0 : decode cX5_state 0 = .ok (.aload_n 0, 1) := by decide +kernel
theorem dX5_state_1 : decode cX5_state 1 = .ok (.iload_n 1, 1) := by decide +kernel
theorem dX5_state_2 : decode cX5_state 2 = .ok (.invokevirtual 89, 3) := by decide +kernel
theorem dX5_state_5 : decode cX5_state 5 = .ok (.ifCond .eq 12, 3) := by decide +kernel
theorem dX5_state_8 : decode cX5_state 8 = .ok (.aload_n 0, 1) := by decide +kernel
theorem dX5_state_9 : decode cX5_state 9 = .ok (.getfield 36, 3) := by decide +kernel
theorem dX5_state_12 : decode cX5_state 12 = .ok (.iload_n 1, 1) := by decide +kernel
theorem dX5_state_13 : decode cX5_state 13 = .ok (.iaload, 1) := by decide +kernel
theorem dX5_state_14 : decode cX5_state 14 = .ok (.goto 4, 3) := by decide +kernel
theorem dX5_state_17 : decode cX5_state 17 = .ok (.iconst (-1), 1) := by decide +kernel
theorem dX5_state_18 : decode cX5_state 18 = .ok (.ireturn, 1) := by decide +kernel
theorem dX5_stepOf_0 : decode cX5_stepOf 0 = .ok (.aload_n 0, 1) := by decide +kernel
theorem dX5_stepOf_1 : decode cX5_stepOf 1 = .ok (.iload_n 1, 1) := by decide +kernel
theorem dX5_stepOf_2 : decode cX5_stepOf 2 = .ok (.invokevirtual 89, 3) := by decide +kernel
theorem dX5_stepOf_5 : decode cX5_stepOf 5 = .ok (.ifCond .eq 12, 3) := by decide +kernel
theorem dX5_stepOf_8 : decode cX5_stepOf 8 = .ok (.aload_n 0, 1) := by decide +kernel
theorem dX5_stepOf_9 : decode cX5_stepOf 9 = .ok (.getfield 39, 3) := by decide +kernel
theorem dX5_stepOf_12 : decode cX5_stepOf 12 = .ok (.iload_n 1, 1) := by decide +kernel
theorem dX5_stepOf_13 : decode cX5_stepOf 13 = .ok (.iaload, 1) := by decide +kernel
theorem dX5_stepOf_14 : decode cX5_stepOf 14 = .ok (.goto 4, 3) := by decide +kernel
theorem dX5_stepOf_17 : decode cX5_stepOf 17 = .ok (.iconst (-1), 1) := by decide +kernel
theorem dX5_stepOf_18 : decode cX5_stepOf 18 = .ok (.ireturn, 1) := by decide +kernel
theorem dX5_counted_0 : decode cX5_counted 0 = .ok (.aload_n 0, 1) := by decide +kernel
theorem dX5_counted_1 : decode cX5_counted 1 = .ok (.iload_n 1, 1) := by decide +kernel
theorem dX5_counted_2 : decode cX5_counted 2 = .ok (.invokevirtual 89, 3) := by decide +kernel
theorem dX5_counted_5 : decode cX5_counted 5 = .ok (.ifCond .eq 13, 3) := by decide +kernel
theorem dX5_counted_8 : decode cX5_counted 8 = .ok (.aload_n 0, 1) := by decide +kernel
theorem dX5_counted_9 : decode cX5_counted 9 = .ok (.getfield 45, 3) := by decide +kernel
theorem dX5_counted_12 : decode cX5_counted 12 = .ok (.iload_n 1, 1) := by decide +kernel
theorem dX5_counted_13 : decode cX5_counted 13 = .ok (.iaload, 1) := by decide +kernel
theorem dX5_counted_14 : decode cX5_counted 14 = .ok (.i2l, 1) := by decide +kernel
theorem dX5_counted_15 : decode cX5_counted 15 = .ok (.goto 6, 3) := by decide +kernel
theorem dX5_counted_18 : decode cX5_counted 18 = .ok (.ldc2_w 121, 3) := by decide +kernel
theorem dX5_counted_21 : decode cX5_counted 21 = .ok (.lreturn, 1) := by decide +kernel
theorem dX5_failed_0 : decode cX5_failed 0 = .ok (.aload_n 0, 1) := by decide +kernel
theorem dX5_failed_1 : decode cX5_failed 1 = .ok (.iload_n 1, 1) := by decide +kernel
theorem dX5_failed_2 : decode cX5_failed 2 = .ok (.invokevirtual 89, 3) := by decide +kernel
theorem dX5_failed_5 : decode cX5_failed 5 = .ok (.ifCond .ne 5, 3) := by decide +kernel
theorem dX5_failed_8 : decode cX5_failed 8 = .ok (.iconst (-1), 1) := by decide +kernel
theorem dX5_failed_9 : decode cX5_failed 9 = .ok (.ireturn, 1) := by decide +kernel
theorem dX5_failed_10 : decode cX5_failed 10 = .ok (.iconst 0, 1) := by decide +kernel
theorem dX5_failed_11 : decode cX5_failed 11 = .ok (.istore_n 2, 1) := by decide +kernel
theorem dX5_failed_12 : decode cX5_failed 12 = .ok (.iconst 0, 1) := by decide +kernel
theorem dX5_failed_13 : decode cX5_failed 13 = .ok (.istore_n 3, 1) := by decide +kernel
theorem dX5_failed_14 : decode cX5_failed 14 = .ok (.iload_n 3, 1) := by decide +kernel
theorem dX5_failed_15 : decode cX5_failed 15 = .ok (.bipush 12, 2) := by decide +kernel
theorem dX5_failed_17 : decode cX5_failed 17 = .ok (.if_icmp .ge 23, 3) := by decide +kernel
theorem dX5_failed_20 : decode cX5_failed 20 = .ok (.iload_n 2, 1) := by decide +kernel
theorem dX5_failed_21 : decode cX5_failed 21 = .ok (.aload_n 0, 1) := by decide +kernel
theorem dX5_failed_22 : decode cX5_failed 22 = .ok (.getfield 69, 3) := by decide +kernel
theorem dX5_failed_25 : decode cX5_failed 25 = .ok (.bipush 12, 2) := by decide +kernel
theorem dX5_failed_27 : decode cX5_failed 27 = .ok (.iload_n 1, 1) := by decide +kernel
theorem dX5_failed_28 : decode cX5_failed 28 = .ok (.imul, 1) := by decide +kernel
theorem dX5_failed_29 : decode cX5_failed 29 = .ok (.iload_n 3, 1) := by decide +kernel
theorem dX5_failed_30 : decode cX5_failed 30 = .ok (.iadd, 1) := by decide +kernel
theorem dX5_failed_31 : decode cX5_failed 31 = .ok (.iaload, 1) := by decide +kernel
theorem dX5_failed_32 : decode cX5_failed 32 = .ok (.iadd, 1) := by decide +kernel
theorem dX5_failed_33 : decode cX5_failed 33 = .ok (.istore_n 2, 1) := by decide +kernel
theorem dX5_failed_34 : decode cX5_failed 34 = .ok (.iinc 3 1, 3) := by decide +kernel
theorem dX5_failed_37 : decode cX5_failed 37 = .ok (.goto (-23), 3) := by decide +kernel
theorem dX5_failed_40 : decode cX5_failed 40 = .ok (.iload_n 2, 1) := by decide +kernel
theorem dX5_failed_41 : decode cX5_failed 41 = .ok (.ireturn, 1) := by decide +kernel
theorem dX5_cleaner_0 : decode cX5_cleaner 0 = .ok (.aload_n 0, 1) := by decide +kernel
theorem dX5_cleaner_1 : decode cX5_cleaner 1 = .ok (.iload_n 1, 1) := by decide +kernel
theorem dX5_cleaner_2 : decode cX5_cleaner 2 = .ok (.invokevirtual 89, 3) := by decide +kernel
theorem dX5_cleaner_5 : decode cX5_cleaner 5 = .ok (.ifCond .eq 12, 3) := by decide +kernel
theorem dX5_cleaner_8 : decode cX5_cleaner 8 = .ok (.iload_n 2, 1) := by decide +kernel
theorem dX5_cleaner_9 : decode cX5_cleaner 9 = .ok (.ifCond .lt 8, 3) := by decide +kernel
theorem dX5_cleaner_12 : decode cX5_cleaner 12 = .ok (.iload_n 2, 1) := by decide +kernel
theorem dX5_cleaner_13 : decode cX5_cleaner 13 = .ok (.iconst 3, 1) := by decide +kernel
theorem dX5_cleaner_14 : decode cX5_cleaner 14 = .ok (.if_icmp .le 7, 3) := by decide +kernel
theorem dX5_cleaner_17 : decode cX5_cleaner 17 = .ok (.ldc2_w 123, 3) := by decide +kernel
theorem dX5_cleaner_20 : decode cX5_cleaner 20 = .ok (.dreturn, 1) := by decide +kernel
theorem dX5_cleaner_21 : decode cX5_cleaner 21 = .ok (.iload_n 2, 1) := by decide +kernel
theorem dX5_cleaner_22 : decode cX5_cleaner 22 = .ok (.ifCond .ne 12, 3) := by decide +kernel
theorem dX5_cleaner_25 : decode cX5_cleaner 25 = .ok (.aload_n 0, 1) := by decide +kernel
theorem dX5_cleaner_26 : decode cX5_cleaner 26 = .ok (.getfield 60, 3) := by decide +kernel
theorem dX5_cleaner_29 : decode cX5_cleaner 29 = .ok (.iload_n 1, 1) := by decide +kernel
theorem dX5_cleaner_30 : decode cX5_cleaner 30 = .ok (.daload, 1) := by decide +kernel
theorem dX5_cleaner_31 : decode cX5_cleaner 31 = .ok (.goto 48, 3) := by decide +kernel
theorem dX5_cleaner_34 : decode cX5_cleaner 34 = .ok (.iload_n 2, 1) := by decide +kernel
theorem dX5_cleaner_35 : decode cX5_cleaner 35 = .ok (.iconst 1, 1) := by decide +kernel
theorem dX5_cleaner_36 : decode cX5_cleaner 36 = .ok (.if_icmp .ne 12, 3) := by decide +kernel
theorem dX5_cleaner_39 : decode cX5_cleaner 39 = .ok (.aload_n 0, 1) := by decide +kernel
theorem dX5_cleaner_40 : decode cX5_cleaner 40 = .ok (.getfield 63, 3) := by decide +kernel
theorem dX5_cleaner_43 : decode cX5_cleaner 43 = .ok (.iload_n 1, 1) := by decide +kernel
theorem dX5_cleaner_44 : decode cX5_cleaner 44 = .ok (.daload, 1) := by decide +kernel
theorem dX5_cleaner_45 : decode cX5_cleaner 45 = .ok (.goto 34, 3) := by decide +kernel
theorem dX5_cleaner_48 : decode cX5_cleaner 48 = .ok (.iload_n 2, 1) := by decide +kernel
theorem dX5_cleaner_49 : decode cX5_cleaner 49 = .ok (.iconst 2, 1) := by decide +kernel
theorem dX5_cleaner_50 : decode cX5_cleaner 50 = .ok (.if_icmp .ne 12, 3) := by decide +kernel
theorem dX5_cleaner_53 : decode cX5_cleaner 53 = .ok (.aload_n 0, 1) := by decide +kernel
theorem dX5_cleaner_54 : decode cX5_cleaner 54 = .ok (.getfield 66, 3) := by decide +kernel
theorem dX5_cleaner_57 : decode cX5_cleaner 57 = .ok (.iload_n 1, 1) := by decide +kernel
theorem dX5_cleaner_58 : decode cX5_cleaner 58 = .ok (.daload, 1) := by decide +kernel
theorem dX5_cleaner_59 : decode cX5_cleaner 59 = .ok (.goto 20, 3) := by decide +kernel
theorem dX5_cleaner_62 : decode cX5_cleaner 62 = .ok (.ldc2_w 97, 3) := by decide +kernel
theorem dX5_cleaner_65 : decode cX5_cleaner 65 = .ok (.aload_n 0, 1) := by decide +kernel
theorem dX5_cleaner_66 : decode cX5_cleaner 66 = .ok (.getfield 63, 3) := by decide +kernel
theorem dX5_cleaner_69 : decode cX5_cleaner 69 = .ok (.iload_n 1, 1) := by decide +kernel
theorem dX5_cleaner_70 : decode cX5_cleaner 70 = .ok (.daload, 1) := by decide +kernel
theorem dX5_cleaner_71 : decode cX5_cleaner 71 = .ok (.dsub, 1) := by decide +kernel
theorem dX5_cleaner_72 : decode cX5_cleaner 72 = .ok (.aload_n 0, 1) := by decide +kernel
theorem dX5_cleaner_73 : decode cX5_cleaner 73 = .ok (.getfield 66, 3) := by decide +kernel
theorem dX5_cleaner_76 : decode cX5_cleaner 76 = .ok (.iload_n 1, 1) := by decide +kernel
theorem dX5_cleaner_77 : decode cX5_cleaner 77 = .ok (.daload, 1) := by decide +kernel
theorem dX5_cleaner_78 : decode cX5_cleaner 78 = .ok (.dadd, 1) := by decide +kernel
theorem dX5_cleaner_79 : decode cX5_cleaner 79 = .ok (.dreturn, 1) := by decide +kernel
theorem dX5_interface2_0 : decode cX5_interface2 0 = .ok (.aload_n 0, 1) := by decide +kernel
theorem dX5_interface2_1 : decode cX5_interface2 1 = .ok (.iload_n 1, 1) := by decide +kernel
theorem dX5_interface2_2 : decode cX5_interface2 2 = .ok (.invokevirtual 103, 3) := by decide +kernel
theorem dX5_interface2_5 : decode cX5_interface2 5 = .ok (.ifCond .eq 31, 3) := by decide +kernel
theorem dX5_interface2_8 : decode cX5_interface2 8 = .ok (.dload_n 2, 1) := by decide +kernel
theorem dX5_interface2_9 : decode cX5_interface2 9 = .ok (.dconst 0, 1) := by decide +kernel
theorem dX5_interface2_10 : decode cX5_interface2 10 = .ok (.dcmp .l, 1) := by decide +kernel
theorem dX5_interface2_11 : decode cX5_interface2 11 = .ok (.ifCond .lt 25, 3) := by decide +kernel
theorem dX5_interface2_14 : decode cX5_interface2 14 = .ok (.dload_n 2, 1) := by decide +kernel
theorem dX5_interface2_15 : decode cX5_interface2 15 = .ok (.ldc2_w 82, 3) := by decide +kernel
theorem dX5_interface2_18 : decode cX5_interface2 18 = .ok (.dcmp .g, 1) := by decide +kernel
theorem dX5_interface2_19 : decode cX5_interface2 19 = .ok (.ifCond .gt 17, 3) := by decide +kernel
theorem dX5_interface2_22 : decode cX5_interface2 22 = .ok (.iload 4, 2) := by decide +kernel
theorem dX5_interface2_24 : decode cX5_interface2 24 = .ok (.iconst 1, 1) := by decide +kernel
theorem dX5_interface2_25 : decode cX5_interface2 25 = .ok (.if_icmp .lt 11, 3) := by decide +kernel
theorem dX5_interface2_28 : decode cX5_interface2 28 = .ok (.iload 4, 2) := by decide +kernel
theorem dX5_interface2_30 : decode cX5_interface2 30 = .ok (.sipush 600, 3) := by decide +kernel
theorem dX5_interface2_33 : decode cX5_interface2 33 = .ok (.if_icmp .le 5, 3) := by decide +kernel
theorem dX5_interface2_36 : decode cX5_interface2 36 = .ok (.iconst 0, 1) := by decide +kernel
theorem dX5_interface2_37 : decode cX5_interface2 37 = .ok (.ireturn, 1) := by decide +kernel
theorem dX5_interface2_38 : decode cX5_interface2 38 = .ok (.aload_n 0, 1) := by decide +kernel
theorem dX5_interface2_39 : decode cX5_interface2 39 = .ok (.getfield 54, 3) := by decide +kernel
theorem dX5_interface2_42 : decode cX5_interface2 42 = .ok (.iload_n 1, 1) := by decide +kernel
theorem dX5_interface2_43 : decode cX5_interface2 43 = .ok (.dload_n 2, 1) := by decide +kernel
theorem dX5_interface2_44 : decode cX5_interface2 44 = .ok (.dastore, 1) := by decide +kernel
theorem dX5_interface2_45 : decode cX5_interface2 45 = .ok (.aload_n 0, 1) := by decide +kernel
theorem dX5_interface2_46 : decode cX5_interface2 46 = .ok (.getfield 57, 3) := by decide +kernel
theorem dX5_interface2_49 : decode cX5_interface2 49 = .ok (.iload_n 1, 1) := by decide +kernel
theorem dX5_interface2_50 : decode cX5_interface2 50 = .ok (.iload 4, 2) := by decide +kernel
theorem dX5_interface2_52 : decode cX5_interface2 52 = .ok (.iastore, 1) := by decide +kernel
theorem dX5_interface2_53 : decode cX5_interface2 53 = .ok (.iconst 1, 1) := by decide +kernel
theorem dX5_interface2_54 : decode cX5_interface2 54 = .ok (.ireturn, 1) := by decide +kernel
theorem dX5_level_0 : decode cX5_level 0 = .ok (.aload_n 0, 1) := by decide +kernel
theorem dX5_level_1 : decode cX5_level 1 = .ok (.iload_n 1, 1) := by decide +kernel
theorem dX5_level_2 : decode cX5_level 2 = .ok (.invokevirtual 89, 3) := by decide +kernel
theorem dX5_level_5 : decode cX5_level 5 = .ok (.ifCond .ne 7, 3) := by decide +kernel
theorem dX5_level_8 : decode cX5_level 8 = .ok (.iconst (-1), 1) := by decide +kernel
theorem dX5_level_9 : decode cX5_level 9 = .ok (.goto 23, 3) := by decide +kernel
theorem dX5_level_12 : decode cX5_level 12 = .ok (.aload_n 0, 1) := by decide +kernel
theorem dX5_level_13 : decode cX5_level 13 = .ok (.getfield 36, 3) := by decide +kernel
theorem dX5_level_16 : decode cX5_level 16 = .ok (.iload_n 1, 1) := by decide +kernel
theorem dX5_level_17 : decode cX5_level 17 = .ok (.iaload, 1) := by decide +kernel
theorem dX5_level_18 : decode cX5_level 18 = .ok (.iconst 3, 1) := by decide +kernel
theorem dX5_level_19 : decode cX5_level 19 = .ok (.if_icmp .ne 12, 3) := by decide +kernel
theorem dX5_level_22 : decode cX5_level 22 = .ok (.aload_n 0, 1) := by decide +kernel
theorem dX5_level_23 : decode cX5_level 23 = .ok (.getfield 33, 3) := by decide +kernel
theorem dX5_level_26 : decode cX5_level 26 = .ok (.iload_n 1, 1) := by decide +kernel
theorem dX5_level_27 : decode cX5_level 27 = .ok (.iaload, 1) := by decide +kernel
theorem dX5_level_28 : decode cX5_level 28 = .ok (.goto 4, 3) := by decide +kernel
theorem dX5_level_31 : decode cX5_level 31 = .ok (.iconst 0, 1) := by decide +kernel
theorem dX5_level_32 : decode cX5_level 32 = .ok (.ireturn, 1) := by decide +kernel
theorem dX5_breakOff_0 : decode cX5_breakOff 0 = .ok (.aload_n 0, 1) := by decide +kernel
theorem dX5_breakOff_1 : decode cX5_breakOff 1 = .ok (.iload_n 1, 1) := by decide +kernel
theorem dX5_breakOff_2 : decode cX5_breakOff 2 = .ok (.invokevirtual 103, 3) := by decide +kernel
theorem dX5_breakOff_5 : decode cX5_breakOff 5 = .ok (.ifCond .ne 5, 3) := by decide +kernel
theorem dX5_breakOff_8 : decode cX5_breakOff 8 = .ok (.iconst 0, 1) := by decide +kernel
theorem dX5_breakOff_9 : decode cX5_breakOff 9 = .ok (.ireturn, 1) := by decide +kernel
theorem dX5_breakOff_10 : decode cX5_breakOff 10 = .ok (.aload_n 0, 1) := by decide +kernel
theorem dX5_breakOff_11 : decode cX5_breakOff 11 = .ok (.getfield 36, 3) := by decide +kernel
theorem dX5_breakOff_14 : decode cX5_breakOff 14 = .ok (.iload_n 1, 1) := by decide +kernel
theorem dX5_breakOff_15 : decode cX5_breakOff 15 = .ok (.iconst 4, 1) := by decide +kernel
theorem dX5_breakOff_16 : decode cX5_breakOff 16 = .ok (.iastore, 1) := by decide +kernel
theorem dX5_breakOff_17 : decode cX5_breakOff 17 = .ok (.aload_n 0, 1) := by decide +kernel
theorem dX5_breakOff_18 : decode cX5_breakOff 18 = .ok (.getfield 75, 3) := by decide +kernel
theorem dX5_breakOff_21 : decode cX5_breakOff 21 = .ok (.bipush 12, 2) := by decide +kernel
theorem dX5_breakOff_23 : decode cX5_breakOff 23 = .ok (.iload_n 1, 1) := by decide +kernel
theorem dX5_breakOff_24 : decode cX5_breakOff 24 = .ok (.imul, 1) := by decide +kernel
theorem dX5_breakOff_25 : decode cX5_breakOff 25 = .ok (.aload_n 0, 1) := by decide +kernel
theorem dX5_breakOff_26 : decode cX5_breakOff 26 = .ok (.getfield 39, 3) := by decide +kernel
theorem dX5_breakOff_29 : decode cX5_breakOff 29 = .ok (.iload_n 1, 1) := by decide +kernel
theorem dX5_breakOff_30 : decode cX5_breakOff 30 = .ok (.iaload, 1) := by decide +kernel
theorem dX5_breakOff_31 : decode cX5_breakOff 31 = .ok (.iadd, 1) := by decide +kernel
theorem dX5_breakOff_32 : decode cX5_breakOff 32 = .ok (.aload_n 0, 1) := by decide +kernel
theorem dX5_breakOff_33 : decode cX5_breakOff 33 = .ok (.getfield 42, 3) := by decide +kernel
theorem dX5_breakOff_36 : decode cX5_breakOff 36 = .ok (.iload_n 1, 1) := by decide +kernel
theorem dX5_breakOff_37 : decode cX5_breakOff 37 = .ok (.iaload, 1) := by decide +kernel
theorem dX5_breakOff_38 : decode cX5_breakOff 38 = .ok (.iastore, 1) := by decide +kernel
theorem dX5_breakOff_39 : decode cX5_breakOff 39 = .ok (.iconst 1, 1) := by decide +kernel
theorem dX5_breakOff_40 : decode cX5_breakOff 40 = .ok (.ireturn, 1) := by decide +kernel
theorem dX5_record_0 : decode cX5_record 0 = .ok (.aload_n 0, 1) := by decide +kernel
theorem dX5_record_1 : decode cX5_record 1 = .ok (.iload_n 1, 1) := by decide +kernel
theorem dX5_record_2 : decode cX5_record 2 = .ok (.invokevirtual 89, 3) := by decide +kernel
theorem dX5_record_5 : decode cX5_record 5 = .ok (.ifCond .eq 17, 3) := by decide +kernel
theorem dX5_record_8 : decode cX5_record 8 = .ok (.iload_n 2, 1) := by decide +kernel
theorem dX5_record_9 : decode cX5_record 9 = .ok (.ifCond .lt 13, 3) := by decide +kernel
theorem dX5_record_12 : decode cX5_record 12 = .ok (.iload_n 2, 1) := by decide +kernel
theorem dX5_record_13 : decode cX5_record 13 = .ok (.aload_n 0, 1) := by decide +kernel
theorem dX5_record_14 : decode cX5_record 14 = .ok (.getfield 39, 3) := by decide +kernel
theorem dX5_record_17 : decode cX5_record 17 = .ok (.iload_n 1, 1) := by decide +kernel
theorem dX5_record_18 : decode cX5_record 18 = .ok (.iaload, 1) := by decide +kernel
theorem dX5_record_19 : decode cX5_record 19 = .ok (.if_icmp .le 5, 3) := by decide +kernel
theorem dX5_record_22 : decode cX5_record 22 = .ok (.iconst (-1), 1) := by decide +kernel
theorem dX5_record_23 : decode cX5_record 23 = .ok (.ireturn, 1) := by decide +kernel
theorem dX5_record_24 : decode cX5_record 24 = .ok (.iload_n 3, 1) := by decide +kernel
theorem dX5_record_25 : decode cX5_record 25 = .ok (.tableswitch 84 0 3 #[31, 48, 60, 72], 31) := by decide +kernel
theorem dX5_record_56 : decode cX5_record 56 = .ok (.aload_n 0, 1) := by decide +kernel
theorem dX5_record_57 : decode cX5_record 57 = .ok (.getfield 17, 3) := by decide +kernel
theorem dX5_record_60 : decode cX5_record 60 = .ok (.bipush 12, 2) := by decide +kernel
theorem dX5_record_62 : decode cX5_record 62 = .ok (.aload_n 0, 1) := by decide +kernel
theorem dX5_record_63 : decode cX5_record 63 = .ok (.getfield 30, 3) := by decide +kernel
theorem dX5_record_66 : decode cX5_record 66 = .ok (.iload_n 1, 1) := by decide +kernel
theorem dX5_record_67 : decode cX5_record 67 = .ok (.iaload, 1) := by decide +kernel
theorem dX5_record_68 : decode cX5_record 68 = .ok (.imul, 1) := by decide +kernel
theorem dX5_record_69 : decode cX5_record 69 = .ok (.iload_n 2, 1) := by decide +kernel
theorem dX5_record_70 : decode cX5_record 70 = .ok (.iadd, 1) := by decide +kernel
theorem dX5_record_71 : decode cX5_record 71 = .ok (.iaload, 1) := by decide +kernel
theorem dX5_record_72 : decode cX5_record 72 = .ok (.ireturn, 1) := by decide +kernel
theorem dX5_record_73 : decode cX5_record 73 = .ok (.aload_n 0, 1) := by decide +kernel
theorem dX5_record_74 : decode cX5_record 74 = .ok (.getfield 69, 3) := by decide +kernel
theorem dX5_record_77 : decode cX5_record 77 = .ok (.bipush 12, 2) := by decide +kernel
theorem dX5_record_79 : decode cX5_record 79 = .ok (.iload_n 1, 1) := by decide +kernel
theorem dX5_record_80 : decode cX5_record 80 = .ok (.imul, 1) := by decide +kernel
theorem dX5_record_81 : decode cX5_record 81 = .ok (.iload_n 2, 1) := by decide +kernel
theorem dX5_record_82 : decode cX5_record 82 = .ok (.iadd, 1) := by decide +kernel
theorem dX5_record_83 : decode cX5_record 83 = .ok (.iaload, 1) := by decide +kernel
theorem dX5_record_84 : decode cX5_record 84 = .ok (.ireturn, 1) := by decide +kernel
theorem dX5_record_85 : decode cX5_record 85 = .ok (.aload_n 0, 1) := by decide +kernel
theorem dX5_record_86 : decode cX5_record 86 = .ok (.getfield 72, 3) := by decide +kernel
theorem dX5_record_89 : decode cX5_record 89 = .ok (.bipush 12, 2) := by decide +kernel
theorem dX5_record_91 : decode cX5_record 91 = .ok (.iload_n 1, 1) := by decide +kernel
theorem dX5_record_92 : decode cX5_record 92 = .ok (.imul, 1) := by decide +kernel
theorem dX5_record_93 : decode cX5_record 93 = .ok (.iload_n 2, 1) := by decide +kernel
theorem dX5_record_94 : decode cX5_record 94 = .ok (.iadd, 1) := by decide +kernel
theorem dX5_record_95 : decode cX5_record 95 = .ok (.iaload, 1) := by decide +kernel
theorem dX5_record_96 : decode cX5_record 96 = .ok (.ireturn, 1) := by decide +kernel
theorem dX5_record_97 : decode cX5_record 97 = .ok (.aload_n 0, 1) := by decide +kernel
theorem dX5_record_98 : decode cX5_record 98 = .ok (.getfield 75, 3) := by decide +kernel
theorem dX5_record_101 : decode cX5_record 101 = .ok (.bipush 12, 2) := by decide +kernel
theorem dX5_record_103 : decode cX5_record 103 = .ok (.iload_n 1, 1) := by decide +kernel
theorem dX5_record_104 : decode cX5_record 104 = .ok (.imul, 1) := by decide +kernel
theorem dX5_record_105 : decode cX5_record 105 = .ok (.iload_n 2, 1) := by decide +kernel
theorem dX5_record_106 : decode cX5_record 106 = .ok (.iadd, 1) := by decide +kernel
theorem dX5_record_107 : decode cX5_record 107 = .ok (.iaload, 1) := by decide +kernel
theorem dX5_record_108 : decode cX5_record 108 = .ok (.ireturn, 1) := by decide +kernel
theorem dX5_record_109 : decode cX5_record 109 = .ok (.iconst (-1), 1) := by decide +kernel
theorem dX5_record_110 : decode cX5_record 110 = .ok (.ireturn, 1) := by decide +kernel
theorem dX5_states_0 : decode cX5_states 0 = .ok (.iconst 5, 1) := by decide +kernel
theorem dX5_states_1 : decode cX5_states 1 = .ok (.ireturn, 1) := by decide +kernel
end
section
theorem dL_law_0 : decode cL_law 0 = .ok (.new 7, 3) := by decide +kernel
theorem dL_law_3 : decode cL_law 3 = .ok (.dup, 1) := by decide +kernel
theorem dL_law_4 : decode cL_law 4 = .ok (.invokespecial 9, 3) := by decide +kernel
theorem dL_law_7 : decode cL_law 7 = .ok (.astore_n 1, 1) := by decide +kernel
theorem dL_law_8 : decode cL_law 8 = .ok (.new 10, 3) := by decide +kernel
theorem dL_law_11 : decode cL_law 11 = .ok (.dup, 1) := by decide +kernel
theorem dL_law_12 : decode cL_law 12 = .ok (.invokespecial 12, 3) := by decide +kernel
theorem dL_law_15 : decode cL_law 15 = .ok (.astore_n 2, 1) := by decide +kernel
theorem dL_law_16 : decode cL_law 16 = .ok (.iconst 0, 1) := by decide +kernel
theorem dL_law_17 : decode cL_law 17 = .ok (.istore_n 3, 1) := by decide +kernel
theorem dL_law_18 : decode cL_law 18 = .ok (.iload_n 3, 1) := by decide +kernel
theorem dL_law_19 : decode cL_law 19 = .ok (.aload_n 0, 1) := by decide +kernel
theorem dL_law_20 : decode cL_law 20 = .ok (.arraylength, 1) := by decide +kernel
theorem dL_law_21 : decode cL_law 21 = .ok (.bipush 6, 2) := by decide +kernel
theorem dL_law_23 : decode cL_law 23 = .ok (.isub, 1) := by decide +kernel
theorem dL_law_24 : decode cL_law 24 = .ok (.if_icmp .gt 607, 3) := by decide +kernel
theorem dL_law_27 : decode cL_law 27 = .ok (.aload_n 0, 1) := by decide +kernel
theorem dL_law_28 : decode cL_law 28 = .ok (.iload_n 3, 1) := by decide +kernel
theorem dL_law_29 : decode cL_law 29 = .ok (.iaload, 1) := by decide +kernel
theorem dL_law_30 : decode cL_law 30 = .ok (.bipush 15, 2) := by decide +kernel
theorem dL_law_32 : decode cL_law 32 = .ok (.iand, 1) := by decide +kernel
theorem dL_law_33 : decode cL_law 33 = .ok (.tableswitch 592 0 13 #[71, 84, 167, 200, 283, 306, 329, 353, 376, 437, 490, 513, 536, 579], 71) := by decide +kernel
theorem dL_law_104 : decode cL_law 104 = .ok (.aload_n 1, 1) := by decide +kernel
theorem dL_law_105 : decode cL_law 105 = .ok (.invokevirtual 13, 3) := by decide +kernel
theorem dL_law_108 : decode cL_law 108 = .ok (.aload_n 2, 1) := by decide +kernel
theorem dL_law_109 : decode cL_law 109 = .ok (.invokevirtual 17, 3) := by decide +kernel
theorem dL_law_112 : decode cL_law 112 = .ok (.if_icmp .eq 513, 3) := by decide +kernel
theorem dL_law_115 : decode cL_law 115 = .ok (.iconst 0, 1) := by decide +kernel
theorem dL_law_116 : decode cL_law 116 = .ok (.ireturn, 1) := by decide +kernel
theorem dL_law_117 : decode cL_law 117 = .ok (.aload_n 1, 1) := by decide +kernel
theorem dL_law_118 : decode cL_law 118 = .ok (.aload_n 0, 1) := by decide +kernel
theorem dL_law_119 : decode cL_law 119 = .ok (.iload_n 3, 1) := by decide +kernel
theorem dL_law_120 : decode cL_law 120 = .ok (.iconst 1, 1) := by decide +kernel
theorem dL_law_121 : decode cL_law 121 = .ok (.iadd, 1) := by decide +kernel
theorem dL_law_122 : decode cL_law 122 = .ok (.iaload, 1) := by decide +kernel
theorem dL_law_123 : decode cL_law 123 = .ok (.aload_n 0, 1) := by decide +kernel
theorem dL_law_124 : decode cL_law 124 = .ok (.iload_n 3, 1) := by decide +kernel
theorem dL_law_125 : decode cL_law 125 = .ok (.iconst 2, 1) := by decide +kernel
theorem dL_law_126 : decode cL_law 126 = .ok (.iadd, 1) := by decide +kernel
theorem dL_law_127 : decode cL_law 127 = .ok (.iaload, 1) := by decide +kernel
theorem dL_law_128 : decode cL_law 128 = .ok (.aload_n 0, 1) := by decide +kernel
theorem dL_law_129 : decode cL_law 129 = .ok (.iload_n 3, 1) := by decide +kernel
theorem dL_law_130 : decode cL_law 130 = .ok (.iconst 3, 1) := by decide +kernel
theorem dL_law_131 : decode cL_law 131 = .ok (.iadd, 1) := by decide +kernel
theorem dL_law_132 : decode cL_law 132 = .ok (.iaload, 1) := by decide +kernel
theorem dL_law_133 : decode cL_law 133 = .ok (.aload_n 0, 1) := by decide +kernel
theorem dL_law_134 : decode cL_law 134 = .ok (.iload_n 3, 1) := by decide +kernel
theorem dL_law_135 : decode cL_law 135 = .ok (.iconst 4, 1) := by decide +kernel
theorem dL_law_136 : decode cL_law 136 = .ok (.iadd, 1) := by decide +kernel
theorem dL_law_137 : decode cL_law 137 = .ok (.iaload, 1) := by decide +kernel
theorem dL_law_138 : decode cL_law 138 = .ok (.i2d, 1) := by decide +kernel
theorem dL_law_139 : decode cL_law 139 = .ok (.ldc2_w 18, 3) := by decide +kernel
theorem dL_law_142 : decode cL_law 142 = .ok (.dmul, 1) := by decide +kernel
theorem dL_law_143 : decode cL_law 143 = .ok (.aload_n 0, 1) := by decide +kernel
theorem dL_law_144 : decode cL_law 144 = .ok (.iload_n 3, 1) := by decide +kernel
theorem dL_law_145 : decode cL_law 145 = .ok (.iconst 5, 1) := by decide +kernel
theorem dL_law_146 : decode cL_law 146 = .ok (.iadd, 1) := by decide +kernel
theorem dL_law_147 : decode cL_law 147 = .ok (.iaload, 1) := by decide +kernel
theorem dL_law_148 : decode cL_law 148 = .ok (.i2d, 1) := by decide +kernel
theorem dL_law_149 : decode cL_law 149 = .ok (.ldc2_w 18, 3) := by decide +kernel
theorem dL_law_152 : decode cL_law 152 = .ok (.dmul, 1) := by decide +kernel
theorem dL_law_153 : decode cL_law 153 = .ok (.invokevirtual 20, 3) := by decide +kernel
theorem dL_law_156 : decode cL_law 156 = .ok (.aload_n 2, 1) := by decide +kernel
theorem dL_law_157 : decode cL_law 157 = .ok (.aload_n 0, 1) := by decide +kernel
theorem dL_law_158 : decode cL_law 158 = .ok (.iload_n 3, 1) := by decide +kernel
theorem dL_law_159 : decode cL_law 159 = .ok (.iconst 1, 1) := by decide +kernel
theorem dL_law_160 : decode cL_law 160 = .ok (.iadd, 1) := by decide +kernel
theorem dL_law_161 : decode cL_law 161 = .ok (.iaload, 1) := by decide +kernel
theorem dL_law_162 : decode cL_law 162 = .ok (.aload_n 0, 1) := by decide +kernel
theorem dL_law_163 : decode cL_law 163 = .ok (.iload_n 3, 1) := by decide +kernel
theorem dL_law_164 : decode cL_law 164 = .ok (.iconst 2, 1) := by decide +kernel
theorem dL_law_165 : decode cL_law 165 = .ok (.iadd, 1) := by decide +kernel
theorem dL_law_166 : decode cL_law 166 = .ok (.iaload, 1) := by decide +kernel
theorem dL_law_167 : decode cL_law 167 = .ok (.aload_n 0, 1) := by decide +kernel
theorem dL_law_168 : decode cL_law 168 = .ok (.iload_n 3, 1) := by decide +kernel
theorem dL_law_169 : decode cL_law 169 = .ok (.iconst 3, 1) := by decide +kernel
theorem dL_law_170 : decode cL_law 170 = .ok (.iadd, 1) := by decide +kernel
theorem dL_law_171 : decode cL_law 171 = .ok (.iaload, 1) := by decide +kernel
theorem dL_law_172 : decode cL_law 172 = .ok (.aload_n 0, 1) := by decide +kernel
theorem dL_law_173 : decode cL_law 173 = .ok (.iload_n 3, 1) := by decide +kernel
theorem dL_law_174 : decode cL_law 174 = .ok (.iconst 4, 1) := by decide +kernel
theorem dL_law_175 : decode cL_law 175 = .ok (.iadd, 1) := by decide +kernel
theorem dL_law_176 : decode cL_law 176 = .ok (.iaload, 1) := by decide +kernel
theorem dL_law_177 : decode cL_law 177 = .ok (.i2d, 1) := by decide +kernel
theorem dL_law_178 : decode cL_law 178 = .ok (.ldc2_w 18, 3) := by decide +kernel
theorem dL_law_181 : decode cL_law 181 = .ok (.dmul, 1) := by decide +kernel
theorem dL_law_182 : decode cL_law 182 = .ok (.aload_n 0, 1) := by decide +kernel
theorem dL_law_183 : decode cL_law 183 = .ok (.iload_n 3, 1) := by decide +kernel
theorem dL_law_184 : decode cL_law 184 = .ok (.iconst 5, 1) := by decide +kernel
theorem dL_law_185 : decode cL_law 185 = .ok (.iadd, 1) := by decide +kernel
theorem dL_law_186 : decode cL_law 186 = .ok (.iaload, 1) := by decide +kernel
theorem dL_law_187 : decode cL_law 187 = .ok (.i2d, 1) := by decide +kernel
theorem dL_law_188 : decode cL_law 188 = .ok (.ldc2_w 18, 3) := by decide +kernel
theorem dL_law_191 : decode cL_law 191 = .ok (.dmul, 1) := by decide +kernel
theorem dL_law_192 : decode cL_law 192 = .ok (.invokevirtual 24, 3) := by decide +kernel
theorem dL_law_195 : decode cL_law 195 = .ok (.if_icmp .eq 430, 3) := by decide +kernel
theorem dL_law_198 : decode cL_law 198 = .ok (.iconst 0, 1) := by decide +kernel
theorem dL_law_199 : decode cL_law 199 = .ok (.ireturn, 1) := by decide +kernel
theorem dL_law_200 : decode cL_law 200 = .ok (.aload_n 1, 1) := by decide +kernel
theorem dL_law_201 : decode cL_law 201 = .ok (.aload_n 0, 1) := by decide +kernel
theorem dL_law_202 : decode cL_law 202 = .ok (.iload_n 3, 1) := by decide +kernel
theorem dL_law_203 : decode cL_law 203 = .ok (.iconst 1, 1) := by decide +kernel
theorem dL_law_204 : decode cL_law 204 = .ok (.iadd, 1) := by decide +kernel
theorem dL_law_205 : decode cL_law 205 = .ok (.iaload, 1) := by decide +kernel
theorem dL_law_206 : decode cL_law 206 = .ok (.aload_n 0, 1) := by decide +kernel
theorem dL_law_207 : decode cL_law 207 = .ok (.iload_n 3, 1) := by decide +kernel
theorem dL_law_208 : decode cL_law 208 = .ok (.iconst 2, 1) := by decide +kernel
theorem dL_law_209 : decode cL_law 209 = .ok (.iadd, 1) := by decide +kernel
theorem dL_law_210 : decode cL_law 210 = .ok (.iaload, 1) := by decide +kernel
theorem dL_law_211 : decode cL_law 211 = .ok (.invokevirtual 25, 3) := by decide +kernel
theorem dL_law_214 : decode cL_law 214 = .ok (.aload_n 2, 1) := by decide +kernel
theorem dL_law_215 : decode cL_law 215 = .ok (.aload_n 0, 1) := by decide +kernel
theorem dL_law_216 : decode cL_law 216 = .ok (.iload_n 3, 1) := by decide +kernel
theorem dL_law_217 : decode cL_law 217 = .ok (.iconst 1, 1) := by decide +kernel
theorem dL_law_218 : decode cL_law 218 = .ok (.iadd, 1) := by decide +kernel
theorem dL_law_219 : decode cL_law 219 = .ok (.iaload, 1) := by decide +kernel
theorem dL_law_220 : decode cL_law 220 = .ok (.aload_n 0, 1) := by decide +kernel
theorem dL_law_221 : decode cL_law 221 = .ok (.iload_n 3, 1) := by decide +kernel
theorem dL_law_222 : decode cL_law 222 = .ok (.iconst 2, 1) := by decide +kernel
theorem dL_law_223 : decode cL_law 223 = .ok (.iadd, 1) := by decide +kernel
theorem dL_law_224 : decode cL_law 224 = .ok (.iaload, 1) := by decide +kernel
theorem dL_law_225 : decode cL_law 225 = .ok (.invokevirtual 29, 3) := by decide +kernel
theorem dL_law_228 : decode cL_law 228 = .ok (.if_icmp .eq 397, 3) := by decide +kernel
theorem dL_law_231 : decode cL_law 231 = .ok (.iconst 0, 1) := by decide +kernel
theorem dL_law_232 : decode cL_law 232 = .ok (.ireturn, 1) := by decide +kernel
theorem dL_law_233 : decode cL_law 233 = .ok (.aload_n 1, 1) := by decide +kernel
theorem dL_law_234 : decode cL_law 234 = .ok (.aload_n 0, 1) := by decide +kernel
theorem dL_law_235 : decode cL_law 235 = .ok (.iload_n 3, 1) := by decide +kernel
theorem dL_law_236 : decode cL_law 236 = .ok (.iconst 1, 1) := by decide +kernel
theorem dL_law_237 : decode cL_law 237 = .ok (.iadd, 1) := by decide +kernel
theorem dL_law_238 : decode cL_law 238 = .ok (.iaload, 1) := by decide +kernel
theorem dL_law_239 : decode cL_law 239 = .ok (.aload_n 0, 1) := by decide +kernel
theorem dL_law_240 : decode cL_law 240 = .ok (.iload_n 3, 1) := by decide +kernel
theorem dL_law_241 : decode cL_law 241 = .ok (.iconst 2, 1) := by decide +kernel
theorem dL_law_242 : decode cL_law 242 = .ok (.iadd, 1) := by decide +kernel
theorem dL_law_243 : decode cL_law 243 = .ok (.iaload, 1) := by decide +kernel
theorem dL_law_244 : decode cL_law 244 = .ok (.i2d, 1) := by decide +kernel
theorem dL_law_245 : decode cL_law 245 = .ok (.ldc2_w 18, 3) := by decide +kernel
theorem dL_law_248 : decode cL_law 248 = .ok (.dmul, 1) := by decide +kernel
theorem dL_law_249 : decode cL_law 249 = .ok (.aload_n 0, 1) := by decide +kernel
theorem dL_law_250 : decode cL_law 250 = .ok (.iload_n 3, 1) := by decide +kernel
theorem dL_law_251 : decode cL_law 251 = .ok (.iconst 3, 1) := by decide +kernel
theorem dL_law_252 : decode cL_law 252 = .ok (.iadd, 1) := by decide +kernel
theorem dL_law_253 : decode cL_law 253 = .ok (.iaload, 1) := by decide +kernel
theorem dL_law_254 : decode cL_law 254 = .ok (.i2d, 1) := by decide +kernel
theorem dL_law_255 : decode cL_law 255 = .ok (.ldc2_w 18, 3) := by decide +kernel
theorem dL_law_258 : decode cL_law 258 = .ok (.dmul, 1) := by decide +kernel
theorem dL_law_259 : decode cL_law 259 = .ok (.aload_n 0, 1) := by decide +kernel
theorem dL_law_260 : decode cL_law 260 = .ok (.iload_n 3, 1) := by decide +kernel
theorem dL_law_261 : decode cL_law 261 = .ok (.iconst 4, 1) := by decide +kernel
theorem dL_law_262 : decode cL_law 262 = .ok (.iadd, 1) := by decide +kernel
theorem dL_law_263 : decode cL_law 263 = .ok (.iaload, 1) := by decide +kernel
theorem dL_law_264 : decode cL_law 264 = .ok (.i2d, 1) := by decide +kernel
theorem dL_law_265 : decode cL_law 265 = .ok (.ldc2_w 18, 3) := by decide +kernel
theorem dL_law_268 : decode cL_law 268 = .ok (.dmul, 1) := by decide +kernel
theorem dL_law_269 : decode cL_law 269 = .ok (.invokevirtual 30, 3) := by decide +kernel
theorem dL_law_272 : decode cL_law 272 = .ok (.aload_n 2, 1) := by decide +kernel
theorem dL_law_273 : decode cL_law 273 = .ok (.aload_n 0, 1) := by decide +kernel
theorem dL_law_274 : decode cL_law 274 = .ok (.iload_n 3, 1) := by decide +kernel
theorem dL_law_275 : decode cL_law 275 = .ok (.iconst 1, 1) := by decide +kernel
theorem dL_law_276 : decode cL_law 276 = .ok (.iadd, 1) := by decide +kernel
theorem dL_law_277 : decode cL_law 277 = .ok (.iaload, 1) := by decide +kernel
theorem dL_law_278 : decode cL_law 278 = .ok (.aload_n 0, 1) := by decide +kernel
theorem dL_law_279 : decode cL_law 279 = .ok (.iload_n 3, 1) := by decide +kernel
theorem dL_law_280 : decode cL_law 280 = .ok (.iconst 2, 1) := by decide +kernel
theorem dL_law_281 : decode cL_law 281 = .ok (.iadd, 1) := by decide +kernel
theorem dL_law_282 : decode cL_law 282 = .ok (.iaload, 1) := by decide +kernel
theorem dL_law_283 : decode cL_law 283 = .ok (.i2d, 1) := by decide +kernel
theorem dL_law_284 : decode cL_law 284 = .ok (.ldc2_w 18, 3) := by decide +kernel
theorem dL_law_287 : decode cL_law 287 = .ok (.dmul, 1) := by decide +kernel
theorem dL_law_288 : decode cL_law 288 = .ok (.aload_n 0, 1) := by decide +kernel
theorem dL_law_289 : decode cL_law 289 = .ok (.iload_n 3, 1) := by decide +kernel
theorem dL_law_290 : decode cL_law 290 = .ok (.iconst 3, 1) := by decide +kernel
theorem dL_law_291 : decode cL_law 291 = .ok (.iadd, 1) := by decide +kernel
theorem dL_law_292 : decode cL_law 292 = .ok (.iaload, 1) := by decide +kernel
theorem dL_law_293 : decode cL_law 293 = .ok (.i2d, 1) := by decide +kernel
theorem dL_law_294 : decode cL_law 294 = .ok (.ldc2_w 18, 3) := by decide +kernel
theorem dL_law_297 : decode cL_law 297 = .ok (.dmul, 1) := by decide +kernel
theorem dL_law_298 : decode cL_law 298 = .ok (.aload_n 0, 1) := by decide +kernel
theorem dL_law_299 : decode cL_law 299 = .ok (.iload_n 3, 1) := by decide +kernel
theorem dL_law_300 : decode cL_law 300 = .ok (.iconst 4, 1) := by decide +kernel
theorem dL_law_301 : decode cL_law 301 = .ok (.iadd, 1) := by decide +kernel
theorem dL_law_302 : decode cL_law 302 = .ok (.iaload, 1) := by decide +kernel
theorem dL_law_303 : decode cL_law 303 = .ok (.i2d, 1) := by decide +kernel
theorem dL_law_304 : decode cL_law 304 = .ok (.ldc2_w 18, 3) := by decide +kernel
theorem dL_law_307 : decode cL_law 307 = .ok (.dmul, 1) := by decide +kernel
theorem dL_law_308 : decode cL_law 308 = .ok (.invokevirtual 34, 3) := by decide +kernel
theorem dL_law_311 : decode cL_law 311 = .ok (.if_icmp .eq 314, 3) := by decide +kernel
theorem dL_law_314 : decode cL_law 314 = .ok (.iconst 0, 1) := by decide +kernel
theorem dL_law_315 : decode cL_law 315 = .ok (.ireturn, 1) := by decide +kernel
theorem dL_law_316 : decode cL_law 316 = .ok (.aload_n 1, 1) := by decide +kernel
theorem dL_law_317 : decode cL_law 317 = .ok (.aload_n 0, 1) := by decide +kernel
theorem dL_law_318 : decode cL_law 318 = .ok (.iload_n 3, 1) := by decide +kernel
theorem dL_law_319 : decode cL_law 319 = .ok (.iconst 1, 1) := by decide +kernel
theorem dL_law_320 : decode cL_law 320 = .ok (.iadd, 1) := by decide +kernel
theorem dL_law_321 : decode cL_law 321 = .ok (.iaload, 1) := by decide +kernel
theorem dL_law_322 : decode cL_law 322 = .ok (.invokevirtual 35, 3) := by decide +kernel
theorem dL_law_325 : decode cL_law 325 = .ok (.aload_n 2, 1) := by decide +kernel
theorem dL_law_326 : decode cL_law 326 = .ok (.aload_n 0, 1) := by decide +kernel
theorem dL_law_327 : decode cL_law 327 = .ok (.iload_n 3, 1) := by decide +kernel
theorem dL_law_328 : decode cL_law 328 = .ok (.iconst 1, 1) := by decide +kernel
theorem dL_law_329 : decode cL_law 329 = .ok (.iadd, 1) := by decide +kernel
theorem dL_law_330 : decode cL_law 330 = .ok (.iaload, 1) := by decide +kernel
theorem dL_law_331 : decode cL_law 331 = .ok (.invokevirtual 39, 3) := by decide +kernel
theorem dL_law_334 : decode cL_law 334 = .ok (.if_icmp .eq 291, 3) := by decide +kernel
theorem dL_law_337 : decode cL_law 337 = .ok (.iconst 0, 1) := by decide +kernel
theorem dL_law_338 : decode cL_law 338 = .ok (.ireturn, 1) := by decide +kernel
theorem dL_law_339 : decode cL_law 339 = .ok (.aload_n 1, 1) := by decide +kernel
theorem dL_law_340 : decode cL_law 340 = .ok (.aload_n 0, 1) := by decide +kernel
theorem dL_law_341 : decode cL_law 341 = .ok (.iload_n 3, 1) := by decide +kernel
theorem dL_law_342 : decode cL_law 342 = .ok (.iconst 1, 1) := by decide +kernel
theorem dL_law_343 : decode cL_law 343 = .ok (.iadd, 1) := by decide +kernel
theorem dL_law_344 : decode cL_law 344 = .ok (.iaload, 1) := by decide +kernel
theorem dL_law_345 : decode cL_law 345 = .ok (.invokevirtual 40, 3) := by decide +kernel
theorem dL_law_348 : decode cL_law 348 = .ok (.aload_n 2, 1) := by decide +kernel
theorem dL_law_349 : decode cL_law 349 = .ok (.aload_n 0, 1) := by decide +kernel
theorem dL_law_350 : decode cL_law 350 = .ok (.iload_n 3, 1) := by decide +kernel
theorem dL_law_351 : decode cL_law 351 = .ok (.iconst 1, 1) := by decide +kernel
theorem dL_law_352 : decode cL_law 352 = .ok (.iadd, 1) := by decide +kernel
theorem dL_law_353 : decode cL_law 353 = .ok (.iaload, 1) := by decide +kernel
theorem dL_law_354 : decode cL_law 354 = .ok (.invokevirtual 43, 3) := by decide +kernel
theorem dL_law_357 : decode cL_law 357 = .ok (.if_icmp .eq 268, 3) := by decide +kernel
theorem dL_law_360 : decode cL_law 360 = .ok (.iconst 0, 1) := by decide +kernel
theorem dL_law_361 : decode cL_law 361 = .ok (.ireturn, 1) := by decide +kernel
theorem dL_law_362 : decode cL_law 362 = .ok (.aload_n 1, 1) := by decide +kernel
theorem dL_law_363 : decode cL_law 363 = .ok (.aload_n 0, 1) := by decide +kernel
theorem dL_law_364 : decode cL_law 364 = .ok (.iload_n 3, 1) := by decide +kernel
theorem dL_law_365 : decode cL_law 365 = .ok (.iconst 1, 1) := by decide +kernel
theorem dL_law_366 : decode cL_law 366 = .ok (.iadd, 1) := by decide +kernel
theorem dL_law_367 : decode cL_law 367 = .ok (.iaload, 1) := by decide +kernel
theorem dL_law_368 : decode cL_law 368 = .ok (.invokevirtual 44, 3) := by decide +kernel
theorem dL_law_371 : decode cL_law 371 = .ok (.aload_n 2, 1) := by decide +kernel
theorem dL_law_372 : decode cL_law 372 = .ok (.aload_n 0, 1) := by decide +kernel
theorem dL_law_373 : decode cL_law 373 = .ok (.iload_n 3, 1) := by decide +kernel
theorem dL_law_374 : decode cL_law 374 = .ok (.iconst 1, 1) := by decide +kernel
theorem dL_law_375 : decode cL_law 375 = .ok (.iadd, 1) := by decide +kernel
theorem dL_law_376 : decode cL_law 376 = .ok (.iaload, 1) := by decide +kernel
theorem dL_law_377 : decode cL_law 377 = .ok (.invokevirtual 48, 3) := by decide +kernel
theorem dL_law_380 : decode cL_law 380 = .ok (.lcmp, 1) := by decide +kernel
theorem dL_law_381 : decode cL_law 381 = .ok (.ifCond .eq 244, 3) := by decide +kernel
theorem dL_law_384 : decode cL_law 384 = .ok (.iconst 0, 1) := by decide +kernel
theorem dL_law_385 : decode cL_law 385 = .ok (.ireturn, 1) := by decide +kernel
theorem dL_law_386 : decode cL_law 386 = .ok (.aload_n 1, 1) := by decide +kernel
theorem dL_law_387 : decode cL_law 387 = .ok (.aload_n 0, 1) := by decide +kernel
theorem dL_law_388 : decode cL_law 388 = .ok (.iload_n 3, 1) := by decide +kernel
theorem dL_law_389 : decode cL_law 389 = .ok (.iconst 1, 1) := by decide +kernel
theorem dL_law_390 : decode cL_law 390 = .ok (.iadd, 1) := by decide +kernel
theorem dL_law_391 : decode cL_law 391 = .ok (.iaload, 1) := by decide +kernel
theorem dL_law_392 : decode cL_law 392 = .ok (.invokevirtual 49, 3) := by decide +kernel
theorem dL_law_395 : decode cL_law 395 = .ok (.aload_n 2, 1) := by decide +kernel
theorem dL_law_396 : decode cL_law 396 = .ok (.aload_n 0, 1) := by decide +kernel
theorem dL_law_397 : decode cL_law 397 = .ok (.iload_n 3, 1) := by decide +kernel
theorem dL_law_398 : decode cL_law 398 = .ok (.iconst 1, 1) := by decide +kernel
theorem dL_law_399 : decode cL_law 399 = .ok (.iadd, 1) := by decide +kernel
theorem dL_law_400 : decode cL_law 400 = .ok (.iaload, 1) := by decide +kernel
theorem dL_law_401 : decode cL_law 401 = .ok (.invokevirtual 52, 3) := by decide +kernel
theorem dL_law_404 : decode cL_law 404 = .ok (.if_icmp .eq 221, 3) := by decide +kernel
theorem dL_law_407 : decode cL_law 407 = .ok (.iconst 0, 1) := by decide +kernel
theorem dL_law_408 : decode cL_law 408 = .ok (.ireturn, 1) := by decide +kernel
theorem dL_law_409 : decode cL_law 409 = .ok (.aload_n 1, 1) := by decide +kernel
theorem dL_law_410 : decode cL_law 410 = .ok (.aload_n 0, 1) := by decide +kernel
theorem dL_law_411 : decode cL_law 411 = .ok (.iload_n 3, 1) := by decide +kernel
theorem dL_law_412 : decode cL_law 412 = .ok (.iconst 1, 1) := by decide +kernel
theorem dL_law_413 : decode cL_law 413 = .ok (.iadd, 1) := by decide +kernel
theorem dL_law_414 : decode cL_law 414 = .ok (.iaload, 1) := by decide +kernel
theorem dL_law_415 : decode cL_law 415 = .ok (.aload_n 0, 1) := by decide +kernel
theorem dL_law_416 : decode cL_law 416 = .ok (.iload_n 3, 1) := by decide +kernel
theorem dL_law_417 : decode cL_law 417 = .ok (.iconst 2, 1) := by decide +kernel
theorem dL_law_418 : decode cL_law 418 = .ok (.iadd, 1) := by decide +kernel
theorem dL_law_419 : decode cL_law 419 = .ok (.iaload, 1) := by decide +kernel
theorem dL_law_420 : decode cL_law 420 = .ok (.invokevirtual 53, 3) := by decide +kernel
theorem dL_law_423 : decode cL_law 423 = .ok (.dstore 4, 2) := by decide +kernel
theorem dL_law_425 : decode cL_law 425 = .ok (.aload_n 2, 1) := by decide +kernel
theorem dL_law_426 : decode cL_law 426 = .ok (.aload_n 0, 1) := by decide +kernel
theorem dL_law_427 : decode cL_law 427 = .ok (.iload_n 3, 1) := by decide +kernel
theorem dL_law_428 : decode cL_law 428 = .ok (.iconst 1, 1) := by decide +kernel
theorem dL_law_429 : decode cL_law 429 = .ok (.iadd, 1) := by decide +kernel
theorem dL_law_430 : decode cL_law 430 = .ok (.iaload, 1) := by decide +kernel
theorem dL_law_431 : decode cL_law 431 = .ok (.aload_n 0, 1) := by decide +kernel
theorem dL_law_432 : decode cL_law 432 = .ok (.iload_n 3, 1) := by decide +kernel
theorem dL_law_433 : decode cL_law 433 = .ok (.iconst 2, 1) := by decide +kernel
theorem dL_law_434 : decode cL_law 434 = .ok (.iadd, 1) := by decide +kernel
theorem dL_law_435 : decode cL_law 435 = .ok (.iaload, 1) := by decide +kernel
theorem dL_law_436 : decode cL_law 436 = .ok (.invokevirtual 57, 3) := by decide +kernel
theorem dL_law_439 : decode cL_law 439 = .ok (.dstore 6, 2) := by decide +kernel
theorem dL_law_441 : decode cL_law 441 = .ok (.dload 4, 2) := by decide +kernel
theorem dL_law_443 : decode cL_law 443 = .ok (.dload 6, 2) := by decide +kernel
theorem dL_law_445 : decode cL_law 445 = .ok (.dcmp .l, 1) := by decide +kernel
theorem dL_law_446 : decode cL_law 446 = .ok (.ifCond .eq 21, 3) := by decide +kernel
theorem dL_law_449 : decode cL_law 449 = .ok (.dload 4, 2) := by decide +kernel
theorem dL_law_451 : decode cL_law 451 = .ok (.dload 4, 2) := by decide +kernel
theorem dL_law_453 : decode cL_law 453 = .ok (.dcmp .l, 1) := by decide +kernel
theorem dL_law_454 : decode cL_law 454 = .ok (.ifCond .eq 11, 3) := by decide +kernel
theorem dL_law_457 : decode cL_law 457 = .ok (.dload 6, 2) := by decide +kernel
theorem dL_law_459 : decode cL_law 459 = .ok (.dload 6, 2) := by decide +kernel
theorem dL_law_461 : decode cL_law 461 = .ok (.dcmp .l, 1) := by decide +kernel
theorem dL_law_462 : decode cL_law 462 = .ok (.ifCond .ne 5, 3) := by decide +kernel
theorem dL_law_465 : decode cL_law 465 = .ok (.iconst 0, 1) := by decide +kernel
theorem dL_law_466 : decode cL_law 466 = .ok (.ireturn, 1) := by decide +kernel
theorem dL_law_467 : decode cL_law 467 = .ok (.goto 158, 3) := by decide +kernel
theorem dL_law_470 : decode cL_law 470 = .ok (.aload_n 1, 1) := by decide +kernel
theorem dL_law_471 : decode cL_law 471 = .ok (.aload_n 0, 1) := by decide +kernel
theorem dL_law_472 : decode cL_law 472 = .ok (.iload_n 3, 1) := by decide +kernel
theorem dL_law_473 : decode cL_law 473 = .ok (.iconst 1, 1) := by decide +kernel
theorem dL_law_474 : decode cL_law 474 = .ok (.iadd, 1) := by decide +kernel
theorem dL_law_475 : decode cL_law 475 = .ok (.iaload, 1) := by decide +kernel
theorem dL_law_476 : decode cL_law 476 = .ok (.aload_n 0, 1) := by decide +kernel
theorem dL_law_477 : decode cL_law 477 = .ok (.iload_n 3, 1) := by decide +kernel
theorem dL_law_478 : decode cL_law 478 = .ok (.iconst 2, 1) := by decide +kernel
theorem dL_law_479 : decode cL_law 479 = .ok (.iadd, 1) := by decide +kernel
theorem dL_law_480 : decode cL_law 480 = .ok (.iaload, 1) := by decide +kernel
theorem dL_law_481 : decode cL_law 481 = .ok (.i2d, 1) := by decide +kernel
theorem dL_law_482 : decode cL_law 482 = .ok (.ldc2_w 18, 3) := by decide +kernel
theorem dL_law_485 : decode cL_law 485 = .ok (.dmul, 1) := by decide +kernel
theorem dL_law_486 : decode cL_law 486 = .ok (.aload_n 0, 1) := by decide +kernel
theorem dL_law_487 : decode cL_law 487 = .ok (.iload_n 3, 1) := by decide +kernel
theorem dL_law_488 : decode cL_law 488 = .ok (.iconst 3, 1) := by decide +kernel
theorem dL_law_489 : decode cL_law 489 = .ok (.iadd, 1) := by decide +kernel
theorem dL_law_490 : decode cL_law 490 = .ok (.iaload, 1) := by decide +kernel
theorem dL_law_491 : decode cL_law 491 = .ok (.invokevirtual 58, 3) := by decide +kernel
theorem dL_law_494 : decode cL_law 494 = .ok (.aload_n 2, 1) := by decide +kernel
theorem dL_law_495 : decode cL_law 495 = .ok (.aload_n 0, 1) := by decide +kernel
theorem dL_law_496 : decode cL_law 496 = .ok (.iload_n 3, 1) := by decide +kernel
theorem dL_law_497 : decode cL_law 497 = .ok (.iconst 1, 1) := by decide +kernel
theorem dL_law_498 : decode cL_law 498 = .ok (.iadd, 1) := by decide +kernel
theorem dL_law_499 : decode cL_law 499 = .ok (.iaload, 1) := by decide +kernel
theorem dL_law_500 : decode cL_law 500 = .ok (.aload_n 0, 1) := by decide +kernel
theorem dL_law_501 : decode cL_law 501 = .ok (.iload_n 3, 1) := by decide +kernel
theorem dL_law_502 : decode cL_law 502 = .ok (.iconst 2, 1) := by decide +kernel
theorem dL_law_503 : decode cL_law 503 = .ok (.iadd, 1) := by decide +kernel
theorem dL_law_504 : decode cL_law 504 = .ok (.iaload, 1) := by decide +kernel
theorem dL_law_505 : decode cL_law 505 = .ok (.i2d, 1) := by decide +kernel
theorem dL_law_506 : decode cL_law 506 = .ok (.ldc2_w 18, 3) := by decide +kernel
theorem dL_law_509 : decode cL_law 509 = .ok (.dmul, 1) := by decide +kernel
theorem dL_law_510 : decode cL_law 510 = .ok (.aload_n 0, 1) := by decide +kernel
theorem dL_law_511 : decode cL_law 511 = .ok (.iload_n 3, 1) := by decide +kernel
theorem dL_law_512 : decode cL_law 512 = .ok (.iconst 3, 1) := by decide +kernel
theorem dL_law_513 : decode cL_law 513 = .ok (.iadd, 1) := by decide +kernel
theorem dL_law_514 : decode cL_law 514 = .ok (.iaload, 1) := by decide +kernel
theorem dL_law_515 : decode cL_law 515 = .ok (.invokevirtual 62, 3) := by decide +kernel
theorem dL_law_518 : decode cL_law 518 = .ok (.if_icmp .eq 107, 3) := by decide +kernel
theorem dL_law_521 : decode cL_law 521 = .ok (.iconst 0, 1) := by decide +kernel
theorem dL_law_522 : decode cL_law 522 = .ok (.ireturn, 1) := by decide +kernel
theorem dL_law_523 : decode cL_law 523 = .ok (.aload_n 1, 1) := by decide +kernel
theorem dL_law_524 : decode cL_law 524 = .ok (.aload_n 0, 1) := by decide +kernel
theorem dL_law_525 : decode cL_law 525 = .ok (.iload_n 3, 1) := by decide +kernel
theorem dL_law_526 : decode cL_law 526 = .ok (.iconst 1, 1) := by decide +kernel
theorem dL_law_527 : decode cL_law 527 = .ok (.iadd, 1) := by decide +kernel
theorem dL_law_528 : decode cL_law 528 = .ok (.iaload, 1) := by decide +kernel
theorem dL_law_529 : decode cL_law 529 = .ok (.invokevirtual 63, 3) := by decide +kernel
theorem dL_law_532 : decode cL_law 532 = .ok (.aload_n 2, 1) := by decide +kernel
theorem dL_law_533 : decode cL_law 533 = .ok (.aload_n 0, 1) := by decide +kernel
theorem dL_law_534 : decode cL_law 534 = .ok (.iload_n 3, 1) := by decide +kernel
theorem dL_law_535 : decode cL_law 535 = .ok (.iconst 1, 1) := by decide +kernel
theorem dL_law_536 : decode cL_law 536 = .ok (.iadd, 1) := by decide +kernel
theorem dL_law_537 : decode cL_law 537 = .ok (.iaload, 1) := by decide +kernel
theorem dL_law_538 : decode cL_law 538 = .ok (.invokevirtual 66, 3) := by decide +kernel
theorem dL_law_541 : decode cL_law 541 = .ok (.if_icmp .eq 84, 3) := by decide +kernel
theorem dL_law_544 : decode cL_law 544 = .ok (.iconst 0, 1) := by decide +kernel
theorem dL_law_545 : decode cL_law 545 = .ok (.ireturn, 1) := by decide +kernel
theorem dL_law_546 : decode cL_law 546 = .ok (.aload_n 1, 1) := by decide +kernel
theorem dL_law_547 : decode cL_law 547 = .ok (.aload_n 0, 1) := by decide +kernel
theorem dL_law_548 : decode cL_law 548 = .ok (.iload_n 3, 1) := by decide +kernel
theorem dL_law_549 : decode cL_law 549 = .ok (.iconst 1, 1) := by decide +kernel
theorem dL_law_550 : decode cL_law 550 = .ok (.iadd, 1) := by decide +kernel
theorem dL_law_551 : decode cL_law 551 = .ok (.iaload, 1) := by decide +kernel
theorem dL_law_552 : decode cL_law 552 = .ok (.invokevirtual 67, 3) := by decide +kernel
theorem dL_law_555 : decode cL_law 555 = .ok (.aload_n 2, 1) := by decide +kernel
theorem dL_law_556 : decode cL_law 556 = .ok (.aload_n 0, 1) := by decide +kernel
theorem dL_law_557 : decode cL_law 557 = .ok (.iload_n 3, 1) := by decide +kernel
theorem dL_law_558 : decode cL_law 558 = .ok (.iconst 1, 1) := by decide +kernel
theorem dL_law_559 : decode cL_law 559 = .ok (.iadd, 1) := by decide +kernel
theorem dL_law_560 : decode cL_law 560 = .ok (.iaload, 1) := by decide +kernel
theorem dL_law_561 : decode cL_law 561 = .ok (.invokevirtual 71, 3) := by decide +kernel
theorem dL_law_564 : decode cL_law 564 = .ok (.if_icmp .eq 61, 3) := by decide +kernel
theorem dL_law_567 : decode cL_law 567 = .ok (.iconst 0, 1) := by decide +kernel
theorem dL_law_568 : decode cL_law 568 = .ok (.ireturn, 1) := by decide +kernel
theorem dL_law_569 : decode cL_law 569 = .ok (.aload_n 1, 1) := by decide +kernel
theorem dL_law_570 : decode cL_law 570 = .ok (.aload_n 0, 1) := by decide +kernel
theorem dL_law_571 : decode cL_law 571 = .ok (.iload_n 3, 1) := by decide +kernel
theorem dL_law_572 : decode cL_law 572 = .ok (.iconst 1, 1) := by decide +kernel
theorem dL_law_573 : decode cL_law 573 = .ok (.iadd, 1) := by decide +kernel
theorem dL_law_574 : decode cL_law 574 = .ok (.iaload, 1) := by decide +kernel
theorem dL_law_575 : decode cL_law 575 = .ok (.aload_n 0, 1) := by decide +kernel
theorem dL_law_576 : decode cL_law 576 = .ok (.iload_n 3, 1) := by decide +kernel
theorem dL_law_577 : decode cL_law 577 = .ok (.iconst 2, 1) := by decide +kernel
theorem dL_law_578 : decode cL_law 578 = .ok (.iadd, 1) := by decide +kernel
theorem dL_law_579 : decode cL_law 579 = .ok (.iaload, 1) := by decide +kernel
theorem dL_law_580 : decode cL_law 580 = .ok (.aload_n 0, 1) := by decide +kernel
theorem dL_law_581 : decode cL_law 581 = .ok (.iload_n 3, 1) := by decide +kernel
theorem dL_law_582 : decode cL_law 582 = .ok (.iconst 3, 1) := by decide +kernel
theorem dL_law_583 : decode cL_law 583 = .ok (.iadd, 1) := by decide +kernel
theorem dL_law_584 : decode cL_law 584 = .ok (.iaload, 1) := by decide +kernel
theorem dL_law_585 : decode cL_law 585 = .ok (.invokevirtual 72, 3) := by decide +kernel
theorem dL_law_588 : decode cL_law 588 = .ok (.aload_n 2, 1) := by decide +kernel
theorem dL_law_589 : decode cL_law 589 = .ok (.aload_n 0, 1) := by decide +kernel
theorem dL_law_590 : decode cL_law 590 = .ok (.iload_n 3, 1) := by decide +kernel
theorem dL_law_591 : decode cL_law 591 = .ok (.iconst 1, 1) := by decide +kernel
theorem dL_law_592 : decode cL_law 592 = .ok (.iadd, 1) := by decide +kernel
theorem dL_law_593 : decode cL_law 593 = .ok (.iaload, 1) := by decide +kernel
theorem dL_law_594 : decode cL_law 594 = .ok (.aload_n 0, 1) := by decide +kernel
theorem dL_law_595 : decode cL_law 595 = .ok (.iload_n 3, 1) := by decide +kernel
theorem dL_law_596 : decode cL_law 596 = .ok (.iconst 2, 1) := by decide +kernel
theorem dL_law_597 : decode cL_law 597 = .ok (.iadd, 1) := by decide +kernel
theorem dL_law_598 : decode cL_law 598 = .ok (.iaload, 1) := by decide +kernel
theorem dL_law_599 : decode cL_law 599 = .ok (.aload_n 0, 1) := by decide +kernel
theorem dL_law_600 : decode cL_law 600 = .ok (.iload_n 3, 1) := by decide +kernel
theorem dL_law_601 : decode cL_law 601 = .ok (.iconst 3, 1) := by decide +kernel
theorem dL_law_602 : decode cL_law 602 = .ok (.iadd, 1) := by decide +kernel
theorem dL_law_603 : decode cL_law 603 = .ok (.iaload, 1) := by decide +kernel
theorem dL_law_604 : decode cL_law 604 = .ok (.invokevirtual 76, 3) := by decide +kernel
theorem dL_law_607 : decode cL_law 607 = .ok (.if_icmp .eq 18, 3) := by decide +kernel
theorem dL_law_610 : decode cL_law 610 = .ok (.iconst 0, 1) := by decide +kernel
theorem dL_law_611 : decode cL_law 611 = .ok (.ireturn, 1) := by decide +kernel
theorem dL_law_612 : decode cL_law 612 = .ok (.aload_n 1, 1) := by decide +kernel
theorem dL_law_613 : decode cL_law 613 = .ok (.invokevirtual 77, 3) := by decide +kernel
theorem dL_law_616 : decode cL_law 616 = .ok (.aload_n 2, 1) := by decide +kernel
theorem dL_law_617 : decode cL_law 617 = .ok (.invokevirtual 80, 3) := by decide +kernel
theorem dL_law_620 : decode cL_law 620 = .ok (.if_icmp .eq 5, 3) := by decide +kernel
theorem dL_law_623 : decode cL_law 623 = .ok (.iconst 0, 1) := by decide +kernel
theorem dL_law_624 : decode cL_law 624 = .ok (.ireturn, 1) := by decide +kernel
theorem dL_law_625 : decode cL_law 625 = .ok (.iinc 3 6, 3) := by decide +kernel
theorem dL_law_628 : decode cL_law 628 = .ok (.goto (-610), 3) := by decide +kernel
theorem dL_law_631 : decode cL_law 631 = .ok (.iconst 1, 1) := by decide +kernel
theorem dL_law_632 : decode cL_law 632 = .ok (.ireturn, 1) := by decide +kernel
end
section
/-! THE WORLD OF THIS CLAIM: the seven array types in one order, the classes' tables, the rows with places as nI j, and the calls with the frame rule within -/
abbrev yT (t : Nat → ClassId) : List (ClassId × FieldType) := [(t 0, .int), (t 1, .boolean), (t 2, .double), (t 3, .object RX0), (t 4, .object RX1), (t 5, .object RX2), (t 6, .object RX3)]
def yK (D : va_G) (t : Nat → ClassId) (U : State) : Prop := va_K D vwCl (yT t) U ∧ va_AO RX0 U ∧ va_AO RX1 U ∧ va_AO RX2 U ∧ va_AO RX3 U
theorem yK.moved {D : va_G} {t : Nat → ClassId} {u U : State} (hvm : u.vm.Alike U.vm) (h : yK D t u) : yK D t U := ⟨va_K.moved hvm h.1, h.2.1.moved hvm, h.2.2.1.moved hvm, h.2.2.2.1.moved hvm, h.2.2.2.2.moved hvm⟩
abbrev yB (D : va_G) (t : Nat → ClassId) (A : Nat → Prop) (ws : va_W) (U : State) : Prop := va_P D vwCl ws U.heap ∧ yK D t U ∧ va_D A ws
abbrev yS (D : va_G) (t : Nat → ClassId) (sz : Nat) (ws : va_W) (U : State) : Prop := U.heap.size = sz ∧ yB D t (fun _ => True) ws U
theorem yS_blind {D : va_G} {t : Nat → ClassId} {sz : Nat} {ws : va_W} {av : List Value} : FrameBlind (va_Pc av (yS D t sz ws)) := fun a U g mk q => by
  obtain ⟨q0, q1, qP, qK, qD⟩ := q
  exact ⟨q0, q1, qP, yK.moved (u := U) (U := U.calling g mk a) (Vm.Alike.refl U.vm) qK, qD⟩
theorem yS_pre {D : va_G} {t : Nat → ClassId} {A : Nat → Prop} {wc : va_W} {H : Heap} {s : State} {av : List Value} (hP : va_P D vwCl wc H) (hK : yK D t s) (hD : va_D A wc) : ∀ U : State, U.heap = H → s.WarmedH U.vm → va_Pc av (yS D t H.size wc) av.toArray U := fun U hU hW =>
  ⟨rfl, by rw [hU], by rw [hU]; exact hP, hK.moved hW.alike, hD.weaken (fun _ _ _ _ => trivial)⟩
theorem y_cut {D : va_G} {A : Nat → Prop} {ws wc : va_W} {H : Heap} (hP : va_P D vwCl ws H) (hD : va_D A ws) (isC : List Nat) (hC : isC.map (fun i => ws[i]?) = wc.map some) (hn : va_nd isC = true) : va_P D vwCl wc H ∧ va_D A wc := by
  refine ⟨fun k q hq => ?_, hD.sub isC hn hC⟩
  have h1 : (isC.map (fun i => ws[i]?))[k]? = some (some q) := by rw [hC, List.getElem?_map, hq]; rfl
  rw [List.getElem?_map] at h1
  cases hi : isC[k]? with
  | none => rw [hi] at h1; cases h1
  | some i => rw [hi] at h1; exact hP i q (Option.some.inj h1)
section YW
variable {p : Program} {l : Launch} {e : Env} {R : Room} {s : State} {m : MethodId} {args : Array Value} {below : List Frame} {meth : Method} {c : Code} {H : Heap} {locs : List Loc} {cells slots : Nat} {Q : State → Prop}
variable {cc : ByteArray} {pc : Nat} {ls : Array Slot} {rest : List Value}
theorem y_int {x : Int32} (y : Int32) (h : x = y) (k : W p l e R s m args below meth c H locs cells slots Q (F0 m pc ls (.int y :: rest))) : W p l e R s m args below meth c H locs cells slots Q (F0 m pc ls (.int x :: rest)) := h ▸ k
theorem y_dbl {x : UInt64} (y : UInt64) (h : x = y) (k : W p l e R s m args below meth c H locs cells slots Q (F0 m pc ls (.double y :: rest))) : W p l e R s m args below meth c H locs cells slots Q (F0 m pc ls (.double x :: rest)) := h ▸ k
section arrays
variable {D : va_G} {cl : List vw_C} {A : Nat → Prop} {a : Nat} {tys : List (ClassId × FieldType)} {ws : va_W} {H0 : Heap}
theorem y_iald (hexec : p.tables.exec = Jvm.exec) (hb : c.code = cc) (hK : va_K D cl tys s) (hP : va_P D cl ws H) (q0 t0 : Nat) {cA : ClassId} {n j : Nat} {f : Nat → Int32} (ha : ws[q0]? = some (a, .inl (cA, n, .inl f))) (ht : tys[t0]? = some (cA, .int)) (hj : j < n) (hn : n < 2 ^ 31) (hdg : decode cc pc = .ok (.iaload, 1))
    (kk : W p l e R s m args below meth c H locs cells slots Q (F0 m (pc + 1) ls (.int (f j) :: rest))) : W p l e R s m args below meth c H locs cells slots Q (F0 m pc ls (.int (nI j) :: .ref a :: rest)) :=
  va_iald hexec hb hK hP q0 t0 ha ht (vp_in_nI hj hn) hdg (by rw [nI_clamp (Nat.lt_trans hj hn)]; exact kk)
theorem y_zald (hexec : p.tables.exec = Jvm.exec) (hb : c.code = cc) (hK : va_K D cl tys s) (hP : va_P D cl ws H) (q0 t0 : Nat) {cA : ClassId} {n j : Nat} {f : Nat → Int32} (ha : ws[q0]? = some (a, .inl (cA, n, .inl f))) (ht : tys[t0]? = some (cA, .boolean)) (hj : j < n) (hn : n < 2 ^ 31) (hdg : decode cc pc = .ok (.baload, 1))
    (kk : W p l e R s m args below meth c H locs cells slots Q (F0 m (pc + 1) ls (.int (f j) :: rest))) : W p l e R s m args below meth c H locs cells slots Q (F0 m pc ls (.int (nI j) :: .ref a :: rest)) :=
  va_zald hexec hb hK hP q0 t0 ha ht (vp_in_nI hj hn) hdg (by rw [nI_clamp (Nat.lt_trans hj hn)]; exact kk)
theorem y_dald (hexec : p.tables.exec = Jvm.exec) (hb : c.code = cc) (hK : va_K D cl tys s) (hP : va_P D cl ws H) (q0 t0 : Nat) {cA : ClassId} {n j : Nat} {f : Nat → UInt64} (ha : ws[q0]? = some (a, .inl (cA, n, .inr (.inr (.inr (.inl f)))))) (ht : tys[t0]? = some (cA, .double)) (hj : j < n) (hn : n < 2 ^ 31) (hdg : decode cc pc = .ok (.daload, 1))
    (kk : W p l e R s m args below meth c H locs cells slots Q (F0 m (pc + 1) ls (.double (f j) :: rest))) : W p l e R s m args below meth c H locs cells slots Q (F0 m pc ls (.int (nI j) :: .ref a :: rest)) :=
  va_dald hexec hb hK hP q0 t0 ha ht (vp_in_nI hj hn) hdg (by rw [nI_clamp (Nat.lt_trans hj hn)]; exact kk)
theorem y_aald (hexec : p.tables.exec = Jvm.exec) (hb : c.code = cc) (hK : va_K D cl tys s) (hP : va_P D cl ws H) (q0 t0 : Nat) {cA : ClassId} {C : String} {n j q : Nat} {f : Nat → Option Nat} (ha : ws[q0]? = some (a, .inl (cA, n, .inr (.inr (.inr (.inr f)))))) (ht : tys[t0]? = some (cA, .object C)) (hj : j < n) (hn : n < 2 ^ 31) (hf : f j = some q) (hdg : decode cc pc = .ok (.aaload, 1))
    (kk : W p l e R s m args below meth c H locs cells slots Q (F0 m (pc + 1) ls (.ref q :: rest))) : W p l e R s m args below meth c H locs cells slots Q (F0 m pc ls (.int (nI j) :: .ref a :: rest)) :=
  va_aldq hexec hb hK hP q0 t0 ha ht (vp_in_nI hj hn) hdg (by rw [nI_clamp (Nat.lt_trans hj hn), hf]; exact kk)
theorem y_iast (hexec : p.tables.exec = Jvm.exec) (hb : c.code = cc) (hK : va_K D cl tys s) (hP : va_P D cl ws H) (hD : va_D A ws) (hS : va_S A H0 H locs) (q0 t0 : Nat) {cA : ClassId} {n j : Nat} {f : Nat → Int32} (ha : ws[q0]? = some (a, .inl (cA, n, .inl f))) (ht : tys[t0]? = some (cA, .int)) {x : Int32} (hj : j < n) (hn : n < 2 ^ 31) (hdg : decode cc pc = .ok (.iastore, 1))
    (kk : ∀ (H1 : Heap) (locs1 : List Loc), va_P D cl (ws.set q0 (a, .inl (cA, n, .inl (upd f j x)))) H1 → va_D A (ws.set q0 (a, .inl (cA, n, .inl (upd f j x)))) → va_S A H0 H1 locs1 → W p l e R s m args below meth c H1 locs1 cells slots Q (F0 m (pc + 1) ls rest)) : W p l e R s m args below meth c H locs cells slots Q (F0 m pc ls (.int x :: .int (nI j) :: .ref a :: rest)) :=
  va_iast hexec hb hK hP hD hS q0 t0 ha ht (vp_in_nI hj hn) hdg (by rw [nI_clamp (Nat.lt_trans hj hn)]; exact kk)
theorem y_zast (hexec : p.tables.exec = Jvm.exec) (hb : c.code = cc) (hK : va_K D cl tys s) (hP : va_P D cl ws H) (hD : va_D A ws) (hS : va_S A H0 H locs) (q0 t0 : Nat) {cA : ClassId} {n j : Nat} {f : Nat → Int32} (ha : ws[q0]? = some (a, .inl (cA, n, .inl f))) (ht : tys[t0]? = some (cA, .boolean)) {x : Int32} (hj : j < n) (hn : n < 2 ^ 31) (hx : vp_nar .boolean x = x) (hdg : decode cc pc = .ok (.bastore, 1))
    (kk : ∀ (H1 : Heap) (locs1 : List Loc), va_P D cl (ws.set q0 (a, .inl (cA, n, .inl (upd f j x)))) H1 → va_D A (ws.set q0 (a, .inl (cA, n, .inl (upd f j x)))) → va_S A H0 H1 locs1 → W p l e R s m args below meth c H1 locs1 cells slots Q (F0 m (pc + 1) ls rest)) : W p l e R s m args below meth c H locs cells slots Q (F0 m pc ls (.int x :: .int (nI j) :: .ref a :: rest)) :=
  va_zast hexec hb hK hP hD hS q0 t0 ha ht (vp_in_nI hj hn) hdg (by rw [nI_clamp (Nat.lt_trans hj hn), hx]; exact kk)
theorem y_dast (hexec : p.tables.exec = Jvm.exec) (hb : c.code = cc) (hK : va_K D cl tys s) (hP : va_P D cl ws H) (hD : va_D A ws) (hS : va_S A H0 H locs) (q0 t0 : Nat) {cA : ClassId} {n j : Nat} {f : Nat → UInt64} (ha : ws[q0]? = some (a, .inl (cA, n, .inr (.inr (.inr (.inl f)))))) (ht : tys[t0]? = some (cA, .double)) {x : UInt64} (hj : j < n) (hn : n < 2 ^ 31) (hdg : decode cc pc = .ok (.dastore, 1))
    (kk : ∀ (H1 : Heap) (locs1 : List Loc), va_P D cl (ws.set q0 (a, .inl (cA, n, .inr (.inr (.inr (.inl (vf_upd f j x))))))) H1 → va_D A (ws.set q0 (a, .inl (cA, n, .inr (.inr (.inr (.inl (vf_upd f j x))))))) → va_S A H0 H1 locs1 → W p l e R s m args below meth c H1 locs1 cells slots Q (F0 m (pc + 1) ls rest)) : W p l e R s m args below meth c H locs cells slots Q (F0 m pc ls (.double x :: .int (nI j) :: .ref a :: rest)) :=
  va_dast hexec hb hK hP hD hS q0 t0 ha ht (vp_in_nI hj hn) hdg (by rw [nI_clamp (Nat.lt_trans hj hn)]; exact kk)
theorem y_aast (hexec : p.tables.exec = Jvm.exec) (hb : c.code = cc) (hK : va_K D cl tys s) (hP : va_P D cl ws H) (hD : va_D A ws) (hS : va_S A H0 H locs) (q0 t0 qk ci : Nat) {cA : ClassId} {r : vw_C} {n j v : Nat} {vs : List Value} {f : Nat → Option Nat} (ha : ws[q0]? = some (a, .inl (cA, n, .inr (.inr (.inr (.inr f)))))) (ht : tys[t0]? = some (cA, .object r.1)) (hv : ws[qk]? = some (v, .inr (ci, vs))) (hc : cl[ci]? = some r) (hj : j < n) (hn : n < 2 ^ 31) (hdg : decode cc pc = .ok (.aastore, 1))
    (kk : ∀ (H1 : Heap) (locs1 : List Loc), va_P D cl (ws.set q0 (a, .inl (cA, n, .inr (.inr (.inr (.inr (va_up f j (some v)))))))) H1 → va_D A (ws.set q0 (a, .inl (cA, n, .inr (.inr (.inr (.inr (va_up f j (some v)))))))) → va_S A H0 H1 locs1 → W p l e R s m args below meth c H1 locs1 cells slots Q (F0 m (pc + 1) ls rest)) : W p l e R s m args below meth c H locs cells slots Q (F0 m pc ls (.ref v :: .int (nI j) :: .ref a :: rest)) :=
  va_astq hexec hb hK hP hD hS q0 t0 qk ci ha ht hv hc (vp_in_nI hj hn) hdg (by rw [nI_clamp (Nat.lt_trans hj hn)]; exact kk)
end arrays
/-! calls: the callee's cells by their places, the rest by theirs; behind the call the rest comes first, then the callee's -/
section calls
variable {y : MethodName} {bytes : ByteArray} {maxL nL mc ms n index : Nat} {ret : Option FieldType} {wsY : List Cond} {rm : Room} {Ts : List Cond} {own C : String} {b : Addr} {As st0 : List Value} {D : va_G} {t : Nat → ClassId} {A0 : Nat → Prop} {H0 : Heap} {wc wr ws : va_W} {ci : Nat} {fs : List Value} {r : vw_C}
theorem y_Vi {S : Type} {post : Int32 → S → Prop} {w1 : S → va_W} (isC isR : List Nat) (SF : CallFix p m c cc nL s args Ts own)
    (hM : Met l y wsY rm (va_Pc (.ref b :: As) (yS D t H.size wc)) (va_Qi post (fun u tt => yB D t (va_A wc H.size) (w1 u) tt) (va_A wc H.size)) mc ms (va_A wc H.size))
    (cw : CallW R s args own C index y bytes maxL ret wsY rm mc ms n) (hKK : yK D t s) (hP : va_P D vwCl ws H) (hD : va_D A0 ws) (hS : va_S A0 H0 H locs) (hA : ∀ q, H0.size ≤ q → A0 q)
    (hC : isC.map (fun i => ws[i]?) = wc.map some) (hR : isR.map (fun i => ws[i]?) = wr.map some) (hnC : va_nd isC = true) (hnR : va_nd isR = true) (hdis : ∀ i ∈ isR, i ∉ isC)
    (he : wc[0]? = some (b, .inr (ci, fs))) (hcl : vwCl[ci]? = some r) (hr1 : r.1 = C) (hn : As.length = n) (hsize : ls.size = nL) (hst : st0 = As.reverse ++ .ref b :: rest) (hW : (rest.map fun v => v.category).sum ≤ 8) (hdg : decode cc pc = .ok (.invokevirtual index, 3)) (hf : cells + mc ≤ R.cells ∧ slots + ms ≤ R.slots)
    (kk : ∀ (x : Int32) (u : S) (H1 : Heap) (locs1 : List Loc), post x u → va_P D vwCl (wr ++ w1 u) H1 → va_D A0 (wr ++ w1 u) → va_S A0 H0 H1 locs1 → W p l e R s m args below meth c H1 locs1 (cells + mc) (slots + ms) Q (F0 m (pc + 3) ls (.int x :: rest))) : W p l e R s m args below meth c H locs cells slots Q (F0 m pc ls st0) := by
  obtain ⟨hPc, hDc⟩ := y_cut hP hD isC hC hnC
  have hFc := va_free (wc := wc) hD hS hA isC hC
  subst hr1
  refine va_calli (va_runV (As := As) (rest := rest) SF hM cw ⟨yS_blind, va_recv hKK.1 hPc (q0 := 0) hcl he, yS_pre hPc hKK hDc⟩ rfl hn hsize hst (lv_room hW) hdg hf) hS (fun q _ h => hFc q h) hFc (fun x u tt H1 locs1 ht hvm hw hB hz1 hk1 hS1 => ?_)
  obtain ⟨hP1, -, hD1⟩ := hB
  rw [ht] at hP1
  obtain ⟨hP2, hD2⟩ := va_join (wr := wr) (w1 := w1 u) hP hD isC isR hC hR hnR hdis hk1 hFc hP1 hD1
  exact kk x u H1 locs1 hw hP2 hD2 hS1
theorem y_Vv {S : Type} {post : S → Prop} {w1 : S → va_W} (isC isR : List Nat) (SF : CallFix p m c cc nL s args Ts own)
    (hM : Met l y wsY rm (va_Pc (.ref b :: As) (yS D t H.size wc)) (va_Qv post (fun u tt => yB D t (va_A wc H.size) (w1 u) tt) (va_A wc H.size)) mc ms (va_A wc H.size))
    (cw : CallW R s args own C index y bytes maxL ret wsY rm mc ms n) (hKK : yK D t s) (hP : va_P D vwCl ws H) (hD : va_D A0 ws) (hS : va_S A0 H0 H locs) (hA : ∀ q, H0.size ≤ q → A0 q)
    (hC : isC.map (fun i => ws[i]?) = wc.map some) (hR : isR.map (fun i => ws[i]?) = wr.map some) (hnC : va_nd isC = true) (hnR : va_nd isR = true) (hdis : ∀ i ∈ isR, i ∉ isC)
    (he : wc[0]? = some (b, .inr (ci, fs))) (hcl : vwCl[ci]? = some r) (hr1 : r.1 = C) (hn : As.length = n) (hsize : ls.size = nL) (hst : st0 = As.reverse ++ .ref b :: rest) (hW : (rest.map fun v => v.category).sum ≤ 8) (hdg : decode cc pc = .ok (.invokevirtual index, 3)) (hf : cells + mc ≤ R.cells ∧ slots + ms ≤ R.slots)
    (kk : ∀ (u : S) (H1 : Heap) (locs1 : List Loc), post u → va_P D vwCl (wr ++ w1 u) H1 → va_D A0 (wr ++ w1 u) → va_S A0 H0 H1 locs1 → W p l e R s m args below meth c H1 locs1 (cells + mc) (slots + ms) Q (F0 m (pc + 3) ls rest)) : W p l e R s m args below meth c H locs cells slots Q (F0 m pc ls st0) := by
  obtain ⟨hPc, hDc⟩ := y_cut hP hD isC hC hnC
  have hFc := va_free (wc := wc) hD hS hA isC hC
  subst hr1
  refine va_callv (va_runV (As := As) (rest := rest) SF hM cw ⟨yS_blind, va_recv hKK.1 hPc (q0 := 0) hcl he, yS_pre hPc hKK hDc⟩ rfl hn hsize hst (lv_room hW) hdg hf) hS (fun q _ h => hFc q h) hFc (fun u tt H1 locs1 ht hvm hw hB hz1 hk1 hS1 => ?_)
  obtain ⟨hP1, -, hD1⟩ := hB
  rw [ht] at hP1
  obtain ⟨hP2, hD2⟩ := va_join (wr := wr) (w1 := w1 u) hP hD isC isR hC hR hnR hdis hk1 hFc hP1 hD1
  exact kk u H1 locs1 hw hP2 hD2 hS1
theorem y_Vq {S : Type} {post : Option Nat → S → Prop} {w1 : S → va_W} (isC isR : List Nat) (SF : CallFix p m c cc nL s args Ts own)
    (hM : Met l y wsY rm (va_Pc (.ref b :: As) (yS D t H.size wc)) (va_Qq post (fun u tt => yB D t (va_A wc H.size) (w1 u) tt) (va_A wc H.size)) mc ms (va_A wc H.size))
    (cw : CallW R s args own C index y bytes maxL ret wsY rm mc ms n) (hKK : yK D t s) (hP : va_P D vwCl ws H) (hD : va_D A0 ws) (hS : va_S A0 H0 H locs) (hA : ∀ q, H0.size ≤ q → A0 q)
    (hC : isC.map (fun i => ws[i]?) = wc.map some) (hR : isR.map (fun i => ws[i]?) = wr.map some) (hnC : va_nd isC = true) (hnR : va_nd isR = true) (hdis : ∀ i ∈ isR, i ∉ isC)
    (he : wc[0]? = some (b, .inr (ci, fs))) (hcl : vwCl[ci]? = some r) (hr1 : r.1 = C) (hn : As.length = n) (hsize : ls.size = nL) (hst : st0 = As.reverse ++ .ref b :: rest) (hW : (rest.map fun v => v.category).sum ≤ 8) (hdg : decode cc pc = .ok (.invokevirtual index, 3)) (hf : cells + mc ≤ R.cells ∧ slots + ms ≤ R.slots)
    (kk : ∀ (x : Option Nat) (u : S) (H1 : Heap) (locs1 : List Loc), post x u → va_P D vwCl (wr ++ w1 u) H1 → va_D A0 (wr ++ w1 u) → va_S A0 H0 H1 locs1 → W p l e R s m args below meth c H1 locs1 (cells + mc) (slots + ms) Q (F0 m (pc + 3) ls (va_rf x :: rest))) : W p l e R s m args below meth c H locs cells slots Q (F0 m pc ls st0) := by
  obtain ⟨hPc, hDc⟩ := y_cut hP hD isC hC hnC
  have hFc := va_free (wc := wc) hD hS hA isC hC
  subst hr1
  refine va_callq (va_runV (As := As) (rest := rest) SF hM cw ⟨yS_blind, va_recv hKK.1 hPc (q0 := 0) hcl he, yS_pre hPc hKK hDc⟩ rfl hn hsize hst (lv_room hW) hdg hf) hS (fun q _ h => hFc q h) hFc (fun x u tt H1 locs1 ht hvm hw hB hz1 hk1 hS1 => ?_)
  obtain ⟨hP1, -, hD1⟩ := hB
  rw [ht] at hP1
  obtain ⟨hP2, hD2⟩ := va_join (wr := wr) (w1 := w1 u) hP hD isC isR hC hR hnR hdis hk1 hFc hP1 hD1
  exact kk x u H1 locs1 hw hP2 hD2 hS1
/-- a constructor -/
theorem y_Iv {S : Type} {post : S → Prop} {w1 : S → va_W} (isC isR : List Nat) (SF : CallFix p m c cc nL s args Ts own)
    (hM : Met l y wsY rm (va_Pc (.ref b :: As) (yS D t H.size wc)) (va_Qv post (fun u tt => yB D t (va_A wc H.size) (w1 u) tt) (va_A wc H.size)) mc ms (va_A wc H.size))
    (cw : CallB R s args own index y bytes maxL none wsY rm mc ms n ∧ y.name = "<init>" ∧ (Cond.instanceMethod y).before args s = true) (hKK : yK D t s) (hP : va_P D vwCl ws H) (hD : va_D A0 ws) (hS : va_S A0 H0 H locs) (hA : ∀ q, H0.size ≤ q → A0 q)
    (hC : isC.map (fun i => ws[i]?) = wc.map some) (hR : isR.map (fun i => ws[i]?) = wr.map some) (hnC : va_nd isC = true) (hnR : va_nd isR = true) (hdis : ∀ i ∈ isR, i ∉ isC)
    (hn : As.length = n) (hsize : ls.size = nL) (hst : st0 = As.reverse ++ .ref b :: rest) (hW : (rest.map fun v => v.category).sum ≤ 8) (hdg : decode cc pc = .ok (.invokespecial index, 3)) (hf : cells + mc ≤ R.cells ∧ slots + ms ≤ R.slots)
    (kk : ∀ (u : S) (H1 : Heap) (locs1 : List Loc), post u → va_P D vwCl (wr ++ w1 u) H1 → va_D A0 (wr ++ w1 u) → va_S A0 H0 H1 locs1 → W p l e R s m args below meth c H1 locs1 (cells + mc) (slots + ms) Q (F0 m (pc + 3) ls rest)) : W p l e R s m args below meth c H locs cells slots Q (F0 m pc ls st0) := by
  obtain ⟨hPc, hDc⟩ := y_cut hP hD isC hC hnC
  have hFc := va_free (wc := wc) hD hS hA isC hC
  refine va_callv (va_runI (As := As) (rest := rest) SF hM cw ⟨yS_blind, yS_pre hPc hKK hDc⟩ rfl hn hsize hst (lv_room hW) hdg hf) hS (fun q _ h => hFc q h) hFc (fun u tt H1 locs1 ht hvm hw hB hz1 hk1 hS1 => ?_)
  obtain ⟨hP1, -, hD1⟩ := hB
  rw [ht] at hP1
  obtain ⟨hP2, hD2⟩ := va_join (wr := wr) (w1 := w1 u) hP hD isC isR hC hR hnR hdis hk1 hFc hP1 hD1
  exact kk u H1 locs1 hw hP2 hD2 hS1
/-- a static method that touches no cell -/
theorem y_Si {post : Int32 → Prop} (SF : CallFix p m c cc nL s args Ts own)
    (hM : Met l y wsY rm (va_Pc As (fun _ => True)) (va_Qi (fun x (_ : Unit) => post x) (fun _ _ => True) (fun _ => False)) 0 0 (fun _ => False))
    (cw : CallB R s args own index y bytes maxL ret wsY rm 0 0 n ∧ (Cond.static y).before args s = true) (hP : va_P D vwCl ws H) (hD : va_D A0 ws) (hS : va_S A0 H0 H locs)
    (hn : As.length = n) (hsize : ls.size = nL) (hst : st0 = As.reverse ++ rest) (hW : (rest.map fun v => v.category).sum ≤ 8) (hdg : decode cc pc = .ok (.invokestatic index, 3)) (hf : cells + 0 ≤ R.cells ∧ slots + 0 ≤ R.slots)
    (kk : ∀ (x : Int32) (H1 : Heap) (locs1 : List Loc), post x → va_P D vwCl ws H1 → va_S A0 H0 H1 locs1 → W p l e R s m args below meth c H1 locs1 cells slots Q (F0 m (pc + 3) ls (.int x :: rest))) : W p l e R s m args below meth c H locs cells slots Q (F0 m pc ls st0) := by
  refine va_calli (va_runS (As := As) (rest := rest) SF hM cw ⟨fun a U g mk q => q, fun U hU hW => ⟨rfl, trivial⟩⟩ rfl hn hsize hst (lv_room hW) hdg hf) hS (fun q _ h => h.elim) (fun q h => h.elim) (fun x u tt H1 locs1 ht hvm hw hB hz1 hk1 hS1 => ?_)
  exact kk x H1 locs1 hw (hP.kept (fun k q hq => hk1 q.1 (hP k q hq).lt (fun h => h))) hS1
end calls
end YW
/-! a contract's beginning: everything that its walk starts from -/
theorem y_ofW {l : Launch} {D : va_G} {t : Nat → ClassId} {sz : Nat} {y : MethodName} {ws ws' : List Cond} {rm : Room} {av : List Value} {wc : va_W} {Qc : (Nat → Prop) → Array Value → State → Outcome → State → Prop} {mc ms : Nat} {cc : ByteArray} {maxL : Nat} {ret : Option FieldType}
    (hy : plainName y.cls = true) (hw : ws = Cond.code y cc maxL ret :: ws') (hlen : (lg_sl av).length ≤ maxL)
    (body : ∀ (p : Program) (e : Env) (s : State) (m : MethodId) (below : List Frame) (meth : Method) (c : Code) (A : Nat → Prop) (ls : Array Slot), p.tables.exec = Jvm.exec → c.code = cc → meth.sig.returnType = ret → (∀ w ∈ ws, w.before av.toArray s = true) → meth.locks = false → c.maxLocals = maxL → s.vm.findClass y.cls = some m.cls → meth.name = y.name → (∀ q : Nat, s.heap.size ≤ q → A q) → yK D t s → va_P D vwCl wc s.heap → va_D A wc → va_S A s.heap s.heap [] → lv_has ls maxL (lv_args 0 av) →
      W p l e (headSpec ws rm).room s m av.toArray below meth c s.heap [] 0 0 (MQ below (Qc A) av.toArray s mc ms A) (F0 m 0 ls [])) : Met l y ws rm (va_Pc av (yS D t sz wc)) (Qc (va_A wc sz)) mc ms (va_A wc sz) := by
  refine Met.ofW (cc := cc) (maxL := maxL) (ret := ret) hy hw ?_
  intro p e s m args below meth c s₁ B hml hv
  obtain ⟨rfl, hsz, hP, hK, hD0⟩ := hv
  subst hsz
  rw [lg_entry_eq]
  exact body p e s m below meth c (va_A wc s.heap.size) _ B.exec B.bytes B.returns (atoms_spec (ws := ws) B.pre) B.notSynchronized hml (findClass_of_methodNamed B.named) (name_of_methodNamed B.named B.method).1 (fun q h => Or.inr h) hK hP hD0.self va_S.rf (lv_entry av hlen)
end
section
/-! what the small methods answer, in their own branches' words -/
abbrev dL (x y : UInt64) : Int32 := Op.cmpValue (FP.dcmp x y) CmpOp.l
abbrev dG (x y : UInt64) : Int32 := Op.cmpValue (FP.dcmp x y) CmpOp.g
theorem y_toInt {x : Int32} {n : Int} (h : x.toInt = n) (y : Int32) (hy : y.toInt = n) : x = y := Int32.toInt_inj.mp (h.trans hy.symm)
theorem y_out4 {x : Int32} (h0 : ¬ x = 0) (h1 : ¬ x = 1) (h2 : ¬ x = 2) (h3 : ¬ x = 3) : x.toInt < 0 ∨ 3 < x.toInt := by
  rcases (show x.toInt < 0 ∨ 3 < x.toInt ∨ x.toInt = 0 ∨ x.toInt = 1 ∨ x.toInt = 2 ∨ x.toInt = 3 by omega) with h | h | h | h | h | h
  · exact Or.inl h
  · exact Or.inr h
  · exact absurd (y_toInt h 0 (by decide)) h0
  · exact absurd (y_toInt h 1 (by decide)) h1
  · exact absurd (y_toInt h 2 (by decide)) h2
  · exact absurd (y_toInt h 3 (by decide)) h3
theorem y_same {D : va_G} {t : Nat → ClassId} {s : State} {cA : ClassId} {ty : FieldType} (h : va_K D vwCl (yT t ++ [(cA, ty)]) s) (i : Nat) (hi : (yT t)[i]? = some (t i, ty)) : cA = t i := by
  have h1 := (h.2 7 (cA, ty) rfl).2
  have h2 := (h.2 i (t i, ty) (by rw [List.getElem?_append_left (List.getElem?_eq_some_iff.mp hi).1]; exact hi)).2
  cases ty with
  | object C =>
    obtain ⟨_, _, _, _, _, e1⟩ := h1
    obtain ⟨_, _, _, _, _, e2⟩ := h2
    exact Option.some.inj (e1.symm.trans e2)
  | _ => exact Option.some.inj (Eq.trans (Eq.symm h1) h2)
/-- water is used, not cleaner -/
def fW (k : Int32) : Int32 := if k = 0 then 1 else if k = 4 then 1 else 0
/-- a step holds: kind, strength, degrees of the step; strength, degrees, flow measured -/
def fH (k : Int32) (sg dg : UInt64) (s d f : UInt64) : Int32 :=
  if k = 0 then (if dL f FP.dconst1 < 0 then 0 else if 0 < dG s sg then 0 else 1)
  else if k = 1 then (if dL f FP.dconst1 < 0 then 0 else if dL s sg < 0 then 0 else if dL d dg < 0 then 0 else 1)
  else if k = 2 then (if dL f FP.dconst1 < 0 then 0 else if dL s sg < 0 then 0 else if dL d dg < 0 then 0 else 1)
  else if k = 3 then (if dL f 4602678819172646912 < 0 then 0 else if dL d dg < 0 then 0 else 1)
  else (if 0 < dG f 4593671619917905920 then 0 else 1)
/-- an interface's value is passed -/
def fP (k : Int32) (s v : UInt64) : Int32 := if fW k = 0 then (if dL s v < 0 then 0 else 1) else (if 0 < dG s v then 0 else 1)
/-- a run is over -/
def fO (st : Int32) : Int32 := if st = 2 then 1 else if st = 3 then 1 else if st = 4 then 1 else 0
/-- a number lies within -/
def fB (x a b : UInt64) : Int32 := if dL x a < 0 then 0 else if 0 < dG x b then 0 else 1
/-- what a stay tells -/
def fT (kd fl fs es w : Int32) : Int32 := if w = 0 then kd else if w = 1 then fl else if w = 2 then fs else if w = 3 then es else -1
end
section
/-! doubles: what is no NaN, what keeps its sign, what is alike -/
theorem yd_n (a : UInt64) : vf_n64 a ↔ FP.Core.dIsNaN a = false := by
  rw [vf_n64, UInt64.le_iff_toNat_le, UInt64.toNat_and, show (0x7fffffffffffffff : UInt64).toNat = 2 ^ 63 - 1 from rfl, Nat.and_two_pow_sub_one_eq_mod, ← Bool.not_eq_true, FP.Core.isNaN_bits]
  show _ ≤ 9218868437227405312 ↔ _
  omega
theorem yd_nan (a : UInt64) : isNaN64 a = true ↔ FP.Core.dIsNaN a = true := by
  have h := yd_n a
  unfold vf_n64 at h
  constructor
  · intro h1
    cases h2 : FP.Core.dIsNaN a with
    | true => rfl
    | false =>
      have h3 := h.mpr h2
      unfold isNaN64 at h1
      simp only [gt_iff_lt, decide_eq_true_eq] at h1
      exact absurd h3 (UInt64.not_le.mpr h1)
  · intro h1
    unfold isNaN64
    simp only [gt_iff_lt, decide_eq_true_eq]
    refine UInt64.not_le.mp fun h3 => ?_
    rw [h.mp h3] at h1
    cases h1
/-- a sum that never was below 0: no NaN, and no -0.0 -/
def PS (a : UInt64) : Prop := FP.Core.val64 a = .inf false ∨ ∃ c q, FP.Core.val64 a = .fin false c q
/-- a measure: finite, and not below 0 -/
def NB (b : UInt64) : Prop := ∃ t d r, FP.Core.val64 b = .fin t d r ∧ (t = true → d = 0)
theorem PS.val {a : UInt64} (h : PS a) : FP.Core.val64 a ≠ .nan := by
  rcases h with h | ⟨c, q, h⟩ <;> rw [h] <;> exact FP.Core.Datum.noConfusion
theorem PS.nn {a : UInt64} (h : PS a) : vf_n64 a := (yd_n a).mpr ((FP.Core.notNaN_iff a).mpr h.val)
theorem PS.zero : PS FP.dconst0 := Or.inr ⟨0, _, FP.Core.val64_dconst0⟩
theorem yd_round (c : Nat) (q : Int) : FP.Core.round FP.Core.b64 (.fin false c q) = .inf false ∨ ∃ c' q', FP.Core.round FP.Core.b64 (.fin false c q) = .fin false c' q' := by
  show FP.Core.roundRatio _ _ _ _ _ = _ ∨ ∃ c' q', FP.Core.roundRatio _ _ _ _ _ = _
  unfold FP.Core.roundRatio FP.Core.roundAt FP.Core.settle FP.Core.bound
  split
  · exact Or.inr ⟨_, _, rfl⟩
  · split <;> split <;> first | exact Or.inr ⟨_, _, rfl⟩ | exact Or.inl rfl
theorem PS.add {a b : UInt64} (ha : PS a) (hb : NB b) : PS (FP.dadd a b) := by
  obtain ⟨t, d, r, hb, ht⟩ := hb
  unfold PS
  rw [FP.dadd_core, FP.Core.val64_dadd, hb]
  rcases ha with ha | ⟨c, q, ha⟩
  · rw [ha]
    exact Or.inl rfl
  · rw [ha]
    show FP.Core.round _ (.fin _ _ _) = _ ∨ ∃ c q, FP.Core.round _ (.fin _ _ _) = _
    have hs : FP.Core.sumSign false t (FP.Core.sumUnits false c q t d r (min q r)) = false := by
      unfold FP.Core.sumSign
      split
      · rfl
      · rename_i hv
        refine decide_eq_false fun hlt => ?_
        unfold FP.Core.sumUnits FP.Core.signed FP.Core.inUnits at hlt
        cases t with
        | false =>
          simp only [if_false, Bool.false_eq_true] at hlt
          omega
        | true =>
          rw [ht rfl] at hlt
          simp only [if_true, if_false, Bool.false_eq_true, Nat.zero_mul] at hlt
          omega
    rw [hs]
    exact yd_round _ _
theorem PS.add_n {a b : UInt64} (ha : PS a) (hb : NB b) : vf_n64 (FP.dadd a b) := (ha.add hb).nn
theorem PS.add0 {a : UInt64} (ha : PS a) : FP.dadd a FP.dconst0 = a := by
  rw [FP.dadd_core]
  refine FP.Core.dadd_zero ha.val fun h => ?_
  subst h
  rcases ha with h | ⟨c, q, h⟩ <;> rw [FP.Core.val64_dzeroNeg] at h <;> cases h
theorem NB.zero : NB FP.dconst0 := ⟨false, 0, _, FP.Core.val64_dconst0, fun h => by cases h⟩
theorem NB.fin {b : UInt64} (h : NB b) : FP.Core.DFin b := by
  obtain ⟨t, d, r, h, -⟩ := h
  exact ⟨t, d, r, h⟩
theorem yd_dL {x y : UInt64} (h : ¬ dL x y < 0) : FP.Core.dcmp x y = some .gt ∨ FP.Core.dcmp x y = some .eq := by
  have e : dL x y = Op.cmpValue (FP.Core.dcmp x y) CmpOp.l := rfl
  rw [e] at h
  cases hc : FP.Core.dcmp x y with
  | none => rw [hc] at h; exact absurd (by decide) h
  | some o =>
    rw [hc] at h
    cases o with
    | lt => exact absurd (by decide) h
    | eq => exact Or.inr rfl
    | gt => exact Or.inl rfl
theorem yd_dG {x y : UInt64} (h : ¬ 0 < dG x y) : FP.Core.dcmp x y = some .lt ∨ FP.Core.dcmp x y = some .eq := by
  have e : dG x y = Op.cmpValue (FP.Core.dcmp x y) CmpOp.g := rfl
  rw [e] at h
  cases hc : FP.Core.dcmp x y with
  | none => rw [hc] at h; exact absurd (by decide) h
  | some o =>
    rw [hc] at h
    cases o with
    | lt => exact Or.inl rfl
    | eq => exact Or.inr rfl
    | gt => exact absurd (by decide) h
theorem yd_fB {x a b : UInt64} (h : ¬ fB x a b = 0) : ¬ dL x a < 0 ∧ ¬ 0 < dG x b := by
  unfold fB at h
  split at h
  · exact absurd rfl h
  · rename_i h1
    split at h
    · exact absurd rfl h
    · rename_i h2
      exact ⟨h1, h2⟩
/-- a number from 0 to 1,000: its sign, and its magnitude's bits -/
theorem yd_mag {f : UInt64} (h : ¬ fB f FP.dconst0 4652007308841189376 = 0) : (f.toNat < 2 ^ 63 ∨ f.toNat = 2 ^ 63) ∧ f.toNat % 2 ^ 63 ≤ 4652007308841189376 := by
  obtain ⟨h1, h2⟩ := yd_fB h
  have g1 := yd_dL h1
  have g2 := yd_dG h2
  have n1 : FP.Core.val64 f ≠ .nan := by rcases g1 with g | g <;> exact (FP.Core.dcmp_some g).1
  have z1 : FP.Core.val64 FP.dconst0 ≠ .nan := by rcases g1 with g | g <;> exact (FP.Core.dcmp_some g).2
  have z2 : FP.Core.val64 4652007308841189376 ≠ .nan := by rcases g2 with g | g <;> exact (FP.Core.dcmp_some g).2
  have k0 : FP.Core.dkey FP.dconst0 = 0 := by decide +kernel
  have k1 : FP.Core.dkey 4652007308841189376 = 4652007308841189376 := by decide +kernel
  have a1 : 0 ≤ FP.Core.dkey f := by
    rcases g1 with g | g
    · have := (FP.Core.dcmp_gt_key n1 z1).mp g; omega
    · have := (FP.Core.dcmp_eq_key n1 z1).mp g; omega
  have a2 : FP.Core.dkey f ≤ 4652007308841189376 := by
    rcases g2 with g | g
    · have := (FP.Core.dcmp_lt_key n1 z2).mp g; omega
    · have := (FP.Core.dcmp_eq_key n1 z2).mp g; omega
  unfold FP.Core.dkey at a1 a2
  split at a1 <;> omega
theorem yd_NB {f : UInt64} (h : ¬ fB f FP.dconst0 4652007308841189376 = 0) : NB f := by
  obtain ⟨h1, h2⟩ := yd_mag h
  obtain ⟨t, d, r, hv⟩ := (FP.Core.fin_bits f).mpr (by omega)
  refine ⟨t, d, r, hv, fun ht => ?_⟩
  subst ht
  rcases h1 with h1 | h1
  · exfalso
    have e : FP.Core.decode FP.Core.b64 f.toNat = .fin true d r := hv
    have hs : FP.Core.fieldS FP.Core.b64 f.toNat = true := by
      unfold FP.Core.decode at e
      split at e
      · split at e <;> cases e
      · split at e <;> (injection e)
    unfold FP.Core.fieldS at hs
    have e1 : FP.Core.b64.tails = 2 ^ 52 := rfl
    have e2 : FP.Core.b64.exps = 2 ^ 11 := rfl
    rw [e1, e2, Nat.div_div_eq_div_mul] at hs
    have : f.toNat / (2 ^ 52 * 2 ^ 11) = 0 := Nat.div_eq_of_lt (by omega)
    rw [this] at hs
    cases hs
  · have : f = 9223372036854775808 := UInt64.toNat_inj.mp (by rw [h1]; rfl)
    rw [this, show FP.Core.val64 9223372036854775808 = .fin true 0 FP.Core.b64.qmin from FP.Core.val64_dzeroNeg] at hv
    injection hv with _ h _
    exact h.symm
theorem yd_half {f : UInt64} (h : ¬ fB f FP.dconst0 4652007308841189376 = 0) : NB (FP.dmul f 4602678819172646912) := by
  obtain ⟨-, h2⟩ := yd_mag h
  have hm := FP.Core.dmul_mag (a := f) (b := 4602678819172646912) (Ka := 1033) (Kb := 1023) (by omega) (by decide) (by decide) (by decide)
  obtain ⟨t, d, r, hv⟩ := (FP.Core.fin_bits (FP.Core.dmul f 4602678819172646912)).mpr (by omega)
  refine ⟨t, d, r, hv, fun ht => ?_⟩
  obtain ⟨t2, d2, r2, hf, h0⟩ := yd_NB h
  have hh : FP.Core.val64 4602678819172646912 = .fin false (2 ^ 52) (-53) := by decide +kernel
  rw [FP.Core.val64_dmul, hf, hh] at hv
  have hv : FP.Core.round FP.Core.b64 (.fin (t2 != false) (d2 * 2 ^ 52) (r2 + -53)) = .fin t d r := hv
  cases t2 with
  | true =>
    rw [h0 rfl, Nat.zero_mul] at hv
    have e : FP.Core.round FP.Core.b64 (.fin (true != false) 0 (r2 + -53)) = .fin true 0 FP.Core.b64.qmin := rfl
    rw [e] at hv
    injection hv with _ h _
    exact h.symm
  | false =>
    have e : ((false != false) : Bool) = false := rfl
    rw [e] at hv
    subst ht
    rcases yd_round (d2 * 2 ^ 52) (r2 + -53) with g | ⟨c', q', g⟩ <;> rw [g] at hv <;> cases hv
/-! alike -/
theorem y_al (x y : UInt64) : alike64 x y = true ↔ x = y ∨ (isNaN64 x = true ∧ isNaN64 y = true) := by simp [alike64]
theorem y_al_refl (x : UInt64) : alike64 x x = true := (y_al x x).mpr (Or.inl rfl)
theorem y_al_trans {x y z : UInt64} (h1 : alike64 x y = true) (h2 : alike64 y z = true) : alike64 x z = true := by
  rw [y_al] at *
  rcases h1 with rfl | ⟨a, b⟩
  · exact h2
  · rcases h2 with rfl | ⟨c, d⟩
    · exact Or.inr ⟨a, b⟩
    · exact Or.inr ⟨a, d⟩
theorem y_al_symm {x y : UInt64} (h1 : alike64 x y = true) : alike64 y x = true := by
  rw [y_al] at *
  rcases h1 with rfl | ⟨a, b⟩
  · exact Or.inl rfl
  · exact Or.inr ⟨b, a⟩
theorem y_nan_add {a b : UInt64} (h : isNaN64 a = true) : isNaN64 (FP.dadd a b) = true := by
  rw [yd_nan] at *
  rw [FP.Core.dIsNaN_iff] at *
  exact FP.Core.dadd_nan (Or.inl h)
theorem y_al_add {r a b : UInt64} (h : alike64 r a = true) : alike64 (FP.dadd r b) (FP.dadd a b) = true := by
  rw [y_al] at *
  rcases h with rfl | ⟨h1, h2⟩
  · exact Or.inl rfl
  · exact Or.inr ⟨y_nan_add h1, y_nan_add h2⟩
/-- two answers that are alike to one number: they are equal, or none equals itself -/
theorem y_al_cmp {p q v : UInt64} (h1 : alike64 p v = true) (h2 : alike64 q v = true) : dL p q = 0 ∨ (¬ dL p q = 0 ∧ ¬ dL p p = 0 ∧ ¬ dL q q = 0) := by
  have h := y_al_trans h1 (y_al_symm h2)
  rw [y_al] at h
  have nan : ∀ a b : UInt64, isNaN64 a = true → ¬ dL a b = 0 := fun a b ha => by
    have e : dL a b = Op.cmpValue (FP.Core.dcmp a b) CmpOp.l := rfl
    rw [e, (FP.Core.dcmp_none a b).mpr (Or.inl ((FP.Core.dIsNaN_iff a).mp ((yd_nan a).mp ha)))]
    decide
  rcases h with rfl | ⟨a, b⟩
  · by_cases hn : isNaN64 p = true
    · exact Or.inr ⟨nan p p hn, nan p p hn, nan p p hn⟩
    · refine Or.inl ?_
      have e : dL p p = Op.cmpValue (FP.Core.dcmp p p) CmpOp.l := rfl
      rw [e, FP.Core.dcmp_self (fun h => hn ((yd_nan p).mpr ((FP.Core.dIsNaN_iff p).mpr h)))]
      decide
  · exact Or.inr ⟨nan p q a, nan p p a, nan q q b⟩
/-- what is told of the cleaner -/
def fU (w : Int32) (wa ou ba : UInt64) : UInt64 := if w = 0 then wa else if w = 1 then ou else if w = 2 then ba else if w = 3 then FP.dadd (FP.dsub 4652007308841189376 ou) ba else 13830554455654793216
end
section
theorem zz_last : True := trivial
end
